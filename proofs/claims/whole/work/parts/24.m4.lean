/-! the model: standing, told -/
theorem al1_f {g : LV} {l r x k j : Nat} {b : Bool} (h : al1 g l r x k b j = false) : al1 g l r x k b (j + 1) = false := by
  show (al1 g l r x k b j && okS g l r x k j) = false
  rw [h]; rfl
theorem al1_t {g : LV} {l r x k j : Nat} {b : Bool} (h : al1 g l r x k b j = true) (ho : okS g l r x k j = true) : al1 g l r x k b (j + 1) = true := by
  show (al1 g l r x k b j && okS g l r x k j) = true
  rw [h, ho]; rfl
theorem al1_g {g : LV} {l r x k j : Nat} {b : Bool} (ho : okS g l r x k j = false) : al1 g l r x k b (j + 1) = false := by
  show (al1 g l r x k b j && okS g l r x k j) = false
  rw [ho, Bool.and_false]
theorem okS_1 {g : LV} {l r x k i : Nat} (h : k = l ∧ r ≤ i) : okS g l r x k i = true := by
  unfold okS
  rw [decide_eq_true h]; rfl
theorem okS_2 {g : LV} {l r x k i : Nat} (h : hasR (g k i) x = false) : okS g l r x k i = true := by
  unfold okS
  rw [h]
  simp
theorem okS_3 {g : LV} {l r x k i : Nat} (hn : ¬ (k = l ∧ r ≤ i)) (h : hasR (g k i) x = true) : okS g l r x k i = false := by
  unfold okS
  rw [h, decide_eq_false hn]; rfl
theorem svB_y {b : Nat → Bool} {h : Nat} (hb : b h = true) : svB b (h + 1) = svB b h + (nI 1 <<< (nI h &&& 31)) := by
  show svB b h + _ = _
  rw [if_pos hb]
theorem svB_n {b : Nat → Bool} {h : Nat} (hb : b h = false) : svB b (h + 1) = svB b h + nI 0 := by
  show svB b h + _ = _
  rw [if_neg (by rw [hb]; decide)]
def ltS (V : BV) (l : Nat) : Nat → Nat
  | 0 => bN V l
  | 1 => snA (fun r => szR (bG V l r)) (bN V l)
  | _ => snA (fun r => tbR (bG V l r)) (bN V l)
theorem wd_nn {d : Row} {n : Nat → Nat} {g : LV} {x : Nat} (h : ¬ wdS d n g x = -1) : decide (0 ≤ wdS d n g x) = true := by
  unfold wdS at h ⊢
  split
  · rename_i h2
    exact decide_eq_true h2
  · rename_i h2
    rw [if_neg h2] at h
    exact absurd rfl h
theorem wd_n1 {d : Row} {n : Nat → Nat} {g : LV} {x : Nat} (h : wdS d n g x = -1) : decide (0 ≤ wdS d n g x) = false := by
  rw [h]; decide
theorem isN_y {x c : Nat} (h : x ≤ c) (hc : c < 2 ^ 31) : (decide (nI 0 ≤ nI x) && decide (nI x ≤ nI c)) = true := by
  rw [decide_eq_true ((nI_leI (by omega) (by omega)).mpr (Nat.zero_le x)), decide_eq_true ((nI_leI (by omega) (by omega)).mpr h)]; rfl
theorem isN_n {v : Int32} {c : Nat} (h : v < 0 ∨ nI (c + 1) ≤ v) (hc : c + 1 < 2 ^ 31) : (decide (nI 0 ≤ v) && decide (v ≤ nI c)) = false := by
  rcases h with h | h
  · rw [nI_0, decide_eq_false (Int32.not_le.mpr h)]; rfl
  · rw [decide_eq_false (p := v ≤ nI c) (Int32.not_le.mpr (Int32.lt_of_lt_of_le (nI_lt (Nat.lt_succ_self c) hc) h)), Bool.and_false]
theorem isR_n {v : Int32} {n : Nat} (h : v < 0 ∨ nI n ≤ v) (hn : n < 2 ^ 31) : (decide (nI 0 ≤ v) && decide (v ≤ nI n - nI 1)) = false := by
  rcases h with h | h
  · rw [nI_0, decide_eq_false (Int32.not_le.mpr h)]; rfl
  · have h1 : nI n - nI 1 < nI n := by
      by_cases e : n = 0
      · subst e; decide
      · have h2 : nI n - nI 1 = nI (n - 1) := by
          have h3 := nI_add (n - 1) 1
          rw [show n - 1 + 1 = n by omega] at h3
          rw [← h3]
          exact Int32.add_sub_cancel _ _
        rw [h2]
        exact nI_lt (by omega) hn
    rw [decide_eq_false (p := v ≤ nI n - nI 1) (Int32.not_le.mpr (Int32.lt_of_lt_of_le h1 h)), Bool.and_false]
theorem isR_y {k n : Nat} (h : k < n) (hn : n < 2 ^ 31) : (decide (nI 0 ≤ nI k) && decide (nI k ≤ nI n - nI 1)) = true := by
  have h2 : nI n - nI 1 = nI (n - 1) := by
    have h3 := nI_add (n - 1) 1
    rw [show n - 1 + 1 = n by omega] at h3
    rw [← h3]
    exact Int32.add_sub_cancel _ _
  rw [h2]
  exact isN_y (by omega) (by omega)

set_option maxHeartbeats 1000000 in
set_option maxRecDepth 100000 in
theorem c_X3_standing (l : Launch) (G : hG) (hp : HP) (mo dk lv nb : Nat) (lvl : Nat → Nat) (row : Nat → Nat → Nat) (th : Int32) (d : Row) (V : BV) (rm dt : Int32) (hm : mA mo dk lv nb lvl row th d V rm dt hp) (lz r : Nat) (hl4 : lz < 4) (hr0 : r < bN V lz) : hRd l yX3_standing wsX3_standing 0 0 G hp [.ref mo, .int (nI lz), .int (nI r)] (some (.int (nI (sdS d (bN V) (bG V) lz r)))) := by
  refine Met.ofW (cc := cX3_standing) (maxL := 9) (ret := (some .int)) (by decide) rfl ?_
  intro p e s m args below meth c s₁ B hml hv
  obtain ⟨rfl, hV0, hK0⟩ := hv
  have hx := B.exec
  have hb := B.bytes
  have hr := B.returns
  have hts := atoms_spec (ws := wsX3_standing) B.pre
  have hown : s.vm.findClass RX3 = some m.cls := findClass_of_methodNamed B.named
  have hlocks := B.notSynchronized
  have hF : CallFix p m c cX3_standing 9 s [.ref mo, .int (nI lz), .int (nI r)].toArray wsX3_standing RX3 := ⟨hx, hb, hml, hown, hts⟩
  have hw0 := hts (.fieldLink RX3 20 "SlipLevelsModel" "levels" "[[[I") (by decide +kernel)
  have hw1 := hts (.fieldLink RX3 13 "SlipLevelsModel" "desk" "[I") (by decide +kernel)
  have hi3 : ∀ w ∈ u_ws RX3 TX3 4, w ∈ wsX3_standing := by
    intro w h
    unfold wsX3_standing
    simp only [List.mem_cons, List.mem_append, h, true_or, or_true]
  have hl := lv_entry ([.ref mo, .int (nI lz), .int (nI r)]) (n := 9) (Nat.le_of_ble_eq_true rfl)
  rw [lg_entry_eq]
  generalize (lg_sl ([.ref mo, .int (nI lz), .int (nI r)]) ++ List.replicate (9 - (lg_sl ([.ref mo, .int (nI lz), .int (nI r)])).length) Slot.unset).toArray = ls at hl ⊢
  replace hl : lv_has ls 9 [(0, .ref mo), (1, .int (nI lz)), (2, .int (nI r))] := hl
  have hn := hm.le
  have hnl := hn lz
  refine lv_aload_n hx hb dX3_standing_0 rfl (lv_at hl 0 rfl) ?_
  refine h_get (v := .ref lv) hx hb hts hi3 hown hK0 hV0 hm.cmo rfl 2 (by decide) hw0 rfl dX3_standing_1 ?_
  refine lv_iload_n hx hb dX3_standing_4 rfl (lv_at hl 1 rfl) ?_
  refine h_aaldE (i := lz) hm.clv hx hb hK0 hV0 rfl rfl (by omega) (by omega) dX3_standing_5 ?_
  refine lv_iload_n hx hb dX3_standing_6 rfl (lv_at hl 2 rfl) ?_
  refine h_aaldE (i := r) (hm.clvl (l := lz) (by omega)) hx hb hK0 hV0 rfl rfl (by omega) (by omega) dX3_standing_7 ?_
  refine lv_astore_n (lv' := [(3, .ref (row lz r)), (0, .ref mo), (1, .int (nI lz)), (2, .int (nI r))]) hx hb dX3_standing_8 rfl hl (by decide) rfl (fun ls hl => ?_)
  refine lv_iconst (v := nI 0) hx hb dX3_standing_9 (by decide) ?_
  refine lv_istore (lv' := [(4, .int (nI 0)), (3, .ref (row lz r)), (0, .ref mo), (1, .int (nI lz)), (2, .int (nI r))]) hx hb dX3_standing_10 hl (by decide) rfl (fun ls hl => ?_)
  refine lv_iconst (v := nI 0) hx hb dX3_standing_12 (by decide) ?_
  refine lv_istore (lv' := [(5, .int (nI 0)), (4, .int (nI 0)), (3, .ref (row lz r)), (0, .ref mo), (1, .int (nI lz)), (2, .int (nI r))]) hx hb dX3_standing_13 hl (by decide) rfl (fun ls hl => ?_)
  replace hl : lv_has ls 9 [(5, .int (nI 0)), (4, .int (nI (cntB (fun x => !hasR d x && frA (bN V) (bG V) lz r x) 0))), (3, .ref (row lz r)), (0, .ref mo), (1, .int (nI lz)), (2, .int (nI r))] := lv_sub hl [0, 1, 2, 3, 4, 5] rfl
  revert ls
  refine h_loop 64 (fun i => [(5, .int (nI i)), (4, .int (nI (cntB (fun x => !hasR d x && frA (bN V) (bG V) lz r x) i))), (3, .ref (row lz r)), (0, .ref mo), (1, .int (nI lz)), (2, .int (nI r))]) (fun i => True) (fun i hi15 hI15 ih15 ls hl => ?_) 0 (Nat.zero_le _) trivial
  refine lv_iload hx hb dX3_standing_15 (lv_at hl 0 rfl) ?_
  refine lv_bipush (v := nI 64) hx hb dX3_standing_17 (by decide) ?_
  refine h_icmp_ge (a := i) (b := 64) (tgt := 146) hx hb dX3_standing_19 (by decide) (by omega) (by omega) (fun c_19 => ?_) (fun c_19 => ?_)
  · refine lv_iload hx hb dX3_standing_146 (lv_at hl 1 rfl) ?_
    exact h_iretR hx hb hr hlocks (by rw [show i = 64 by omega]; rfl) dX3_standing_148
  · refine lv_aload_n hx hb dX3_standing_22 rfl (lv_at hl 2 rfl) ?_
    refine lv_iload hx hb dX3_standing_23 (lv_at hl 0 rfl) ?_
    refine h_ialdE (i := i) (hm.crow (l := lz) (r := r) (by omega) (by omega)) hx hb hK0 hV0 (by omega) dX3_standing_25 ?_
    refine lv_iconst (v := (-1)) hx hb dX3_standing_26 (by decide) ?_
    refine lv_icmp_eq (tgt := 140) hx hb dX3_standing_27 (by decide) (fun c_27 => ?_) (fun c_27 => ?_)
    · refine lv_iinc (v := nI (i + 1)) (lv' := [(5, .int (nI (i + 1))), (4, .int (nI (cntB (fun x => !hasR d x && frA (bN V) (bG V) lz r x) i))), (3, .ref (row lz r)), (0, .ref mo), (1, .int (nI lz)), (2, .int (nI r))]) hx hb dX3_standing_140 hl (k := 0) rfl (nI_add (i) 1) (by decide) rfl (fun ls hl => ?_)
      refine lv_goto (tgt := 15) hx hb dX3_standing_143 (by decide) ?_
      exact ih15 (by omega) trivial ls (by show lv_has ls 9 [(5, .int (nI (i + 1))), (4, .int (nI (cntB (fun x => !hasR d x && frA (bN V) (bG V) lz r x) (i + 1)))), (3, .ref (row lz r)), (0, .ref mo), (1, .int (nI lz)), (2, .int (nI r))]; rw [cntB_n (p := (fun x => !hasR d x && frA (bN V) (bG V) lz r x)) (sd_n1 (sw_hf c_27))]; exact lv_sub hl [0, 1, 2, 3, 4, 5] rfl)
    · refine lv_aload_n hx hb dX3_standing_30 rfl (lv_at hl 3 rfl) ?_
      refine h_get (v := .ref dk) hx hb hts hi3 hown hK0 hV0 hm.cmo rfl 1 (by decide) hw1 rfl dX3_standing_31 ?_
      refine lv_iload hx hb dX3_standing_34 (lv_at hl 0 rfl) ?_
      refine h_ialdE (i := i) hm.cdk hx hb hK0 hV0 (by omega) dX3_standing_36 ?_
      refine lv_iconst (v := (-1)) hx hb dX3_standing_37 (by decide) ?_
      refine lv_icmp_eq (tgt := 44) hx hb dX3_standing_38 (by decide) (fun c_38 => ?_) (fun c_38 => ?_)
      · refine lv_iconst (v := nI 1) hx hb dX3_standing_44 (by decide) ?_
        refine lv_istore (lv' := [(6, .int (nI 1)), (5, .int (nI i)), (4, .int (nI (cntB (fun x => !hasR d x && frA (bN V) (bG V) lz r x) i))), (3, .ref (row lz r)), (0, .ref mo), (1, .int (nI lz)), (2, .int (nI r))]) hx hb dX3_standing_45 hl (by decide) rfl (fun ls hl => ?_)
        refine lv_iconst (v := nI 0) hx hb dX3_standing_47 (by decide) ?_
        refine lv_istore (lv' := [(7, .int (nI 0)), (6, .int (nI 1)), (5, .int (nI i)), (4, .int (nI (cntB (fun x => !hasR d x && frA (bN V) (bG V) lz r x) i))), (3, .ref (row lz r)), (0, .ref mo), (1, .int (nI lz)), (2, .int (nI r))]) hx hb dX3_standing_48 hl (by decide) rfl (fun ls hl => ?_)
        replace hl : lv_has ls 9 [(7, .int (nI 0)), (6, .int (bI (al2 (bN V) (bG V) lz r i 0))), (5, .int (nI i)), (4, .int (nI (cntB (fun x => !hasR d x && frA (bN V) (bG V) lz r x) i))), (3, .ref (row lz r)), (0, .ref mo), (1, .int (nI lz)), (2, .int (nI r))] := lv_sub hl [0, 1, 2, 3, 4, 5, 6, 7] rfl
        revert ls
        refine h_loop (lz + 1) (fun k => [(7, .int (nI k)), (6, .int (bI (al2 (bN V) (bG V) lz r i k))), (5, .int (nI i)), (4, .int (nI (cntB (fun x => !hasR d x && frA (bN V) (bG V) lz r x) i))), (3, .ref (row lz r)), (0, .ref mo), (1, .int (nI lz)), (2, .int (nI r))]) (fun k => True) (fun k hi50 hI50 ih50 ls hl => ?_) 0 (Nat.zero_le _) trivial
        refine lv_iload hx hb dX3_standing_50 (lv_at hl 0 rfl) ?_
        refine lv_iload_n hx hb dX3_standing_52 rfl (lv_at hl 6 rfl) ?_
        refine h_icmp_gt (a := k) (b := lz) (tgt := 125) hx hb dX3_standing_53 (by decide) (by omega) (by omega) (fun c_53 => ?_) (fun c_53 => ?_)
        · refine lv_iload hx hb dX3_standing_125 (lv_at hl 3 rfl) ?_
          refine lv_iload hx hb dX3_standing_127 (lv_at hl 1 rfl) ?_
          refine h_if_eqB (tgt := 136) hx hb dX3_standing_129 (by decide) (fun c_129 => ?_) (fun c_129 => ?_)
          · refine lv_iconst (v := nI 0) hx hb dX3_standing_136 (by decide) ?_
            refine h_iaddN hx hb dX3_standing_137 ?_
            refine lv_istore (lv' := [(4, .int (nI (cntB (fun x => !hasR d x && frA (bN V) (bG V) lz r x) i + 0))), (7, .int (nI k)), (6, .int (bI (al2 (bN V) (bG V) lz r i k))), (5, .int (nI i)), (3, .ref (row lz r)), (0, .ref mo), (1, .int (nI lz)), (2, .int (nI r))]) hx hb dX3_standing_138 hl (by decide) rfl (fun ls hl => ?_)
            refine lv_iinc (v := nI (i + 1)) (lv' := [(5, .int (nI (i + 1))), (4, .int (nI (cntB (fun x => !hasR d x && frA (bN V) (bG V) lz r x) i + 0))), (7, .int (nI k)), (6, .int (bI (al2 (bN V) (bG V) lz r i k))), (3, .ref (row lz r)), (0, .ref mo), (1, .int (nI lz)), (2, .int (nI r))]) hx hb dX3_standing_140 hl (k := 3) rfl (nI_add (i) 1) (by decide) rfl (fun ls hl => ?_)
            refine lv_goto (tgt := 15) hx hb dX3_standing_143 (by decide) ?_
            exact ih15 (by omega) trivial ls (by show lv_has ls 9 [(5, .int (nI (i + 1))), (4, .int (nI (cntB (fun x => !hasR d x && frA (bN V) (bG V) lz r x) (i + 1)))), (3, .ref (row lz r)), (0, .ref mo), (1, .int (nI lz)), (2, .int (nI r))]; rw [cntB_n (p := (fun x => !hasR d x && frA (bN V) (bG V) lz r x)) ((sd_y hr0 (sw_ht c_27) (sw_hf c_38)).trans (by rw [show lz + 1 = k by omega]; exact c_129))]; exact lv_sub hl [0, 1, 4, 5, 6, 7] rfl)
          · refine lv_iconst (v := nI 1) hx hb dX3_standing_132 (by decide) ?_
            refine lv_goto (tgt := 137) hx hb dX3_standing_133 (by decide) ?_
            refine h_iaddN hx hb dX3_standing_137 ?_
            refine lv_istore (lv' := [(4, .int (nI (cntB (fun x => !hasR d x && frA (bN V) (bG V) lz r x) i + 1))), (7, .int (nI k)), (6, .int (bI (al2 (bN V) (bG V) lz r i k))), (5, .int (nI i)), (3, .ref (row lz r)), (0, .ref mo), (1, .int (nI lz)), (2, .int (nI r))]) hx hb dX3_standing_138 hl (by decide) rfl (fun ls hl => ?_)
            refine lv_iinc (v := nI (i + 1)) (lv' := [(5, .int (nI (i + 1))), (4, .int (nI (cntB (fun x => !hasR d x && frA (bN V) (bG V) lz r x) i + 1))), (7, .int (nI k)), (6, .int (bI (al2 (bN V) (bG V) lz r i k))), (3, .ref (row lz r)), (0, .ref mo), (1, .int (nI lz)), (2, .int (nI r))]) hx hb dX3_standing_140 hl (k := 3) rfl (nI_add (i) 1) (by decide) rfl (fun ls hl => ?_)
            refine lv_goto (tgt := 15) hx hb dX3_standing_143 (by decide) ?_
            exact ih15 (by omega) trivial ls (by show lv_has ls 9 [(5, .int (nI (i + 1))), (4, .int (nI (cntB (fun x => !hasR d x && frA (bN V) (bG V) lz r x) (i + 1)))), (3, .ref (row lz r)), (0, .ref mo), (1, .int (nI lz)), (2, .int (nI r))]; rw [cntB_y (p := (fun x => !hasR d x && frA (bN V) (bG V) lz r x)) ((sd_y hr0 (sw_ht c_27) (sw_hf c_38)).trans (by rw [show lz + 1 = k by omega]; exact c_129))]; exact lv_sub hl [0, 1, 4, 5, 6, 7] rfl)
        · have hnk := hn k
          refine lv_iconst (v := nI 0) hx hb dX3_standing_56 (by decide) ?_
          refine lv_istore (lv' := [(8, .int (nI 0)), (7, .int (nI k)), (6, .int (bI (al2 (bN V) (bG V) lz r i k))), (5, .int (nI i)), (4, .int (nI (cntB (fun x => !hasR d x && frA (bN V) (bG V) lz r x) i))), (3, .ref (row lz r)), (0, .ref mo), (1, .int (nI lz)), (2, .int (nI r))]) hx hb dX3_standing_57 hl (by decide) rfl (fun ls hl => ?_)
          replace hl : lv_has ls 9 [(8, .int (nI 0)), (6, .int (bI (al1 (bG V) lz r i k (al2 (bN V) (bG V) lz r i k) 0))), (7, .int (nI k)), (5, .int (nI i)), (4, .int (nI (cntB (fun x => !hasR d x && frA (bN V) (bG V) lz r x) i))), (3, .ref (row lz r)), (0, .ref mo), (1, .int (nI lz)), (2, .int (nI r))] := lv_sub hl [0, 2, 1, 3, 4, 5, 6, 7, 8] rfl
          revert ls
          refine h_loop (bN V k) (fun j => [(8, .int (nI j)), (6, .int (bI (al1 (bG V) lz r i k (al2 (bN V) (bG V) lz r i k) j))), (7, .int (nI k)), (5, .int (nI i)), (4, .int (nI (cntB (fun x => !hasR d x && frA (bN V) (bG V) lz r x) i))), (3, .ref (row lz r)), (0, .ref mo), (1, .int (nI lz)), (2, .int (nI r))]) (fun j => True) (fun j hi59 hI59 ih59 ls hl => ?_) 0 (Nat.zero_le _) trivial
          refine lv_iload hx hb dX3_standing_59 (lv_at hl 0 rfl) ?_
          refine lv_aload_n hx hb dX3_standing_61 rfl (lv_at hl 6 rfl) ?_
          refine h_get (v := .ref lv) hx hb hts hi3 hown hK0 hV0 hm.cmo rfl 2 (by decide) hw0 rfl dX3_standing_62 ?_
          refine lv_iload hx hb dX3_standing_65 (lv_at hl 2 rfl) ?_
          refine h_aaldE (i := k) hm.clv hx hb hK0 hV0 rfl rfl (by omega) (by omega) dX3_standing_67 ?_
          refine h_alenQ (hm.clvl (l := k) (by omega)) hx hb hK0 hV0 rfl dX3_standing_68 ?_
          refine h_icmp_ge (a := j) (b := bN V k) (tgt := 119) hx hb dX3_standing_69 (by decide) (by omega) (by omega) (fun c_69 => ?_) (fun c_69 => ?_)
          · refine lv_iinc (v := nI (k + 1)) (lv' := [(7, .int (nI (k + 1))), (8, .int (nI j)), (6, .int (bI (al1 (bG V) lz r i k (al2 (bN V) (bG V) lz r i k) j))), (5, .int (nI i)), (4, .int (nI (cntB (fun x => !hasR d x && frA (bN V) (bG V) lz r x) i))), (3, .ref (row lz r)), (0, .ref mo), (1, .int (nI lz)), (2, .int (nI r))]) hx hb dX3_standing_119 hl (k := 2) rfl (nI_add (k) 1) (by decide) rfl (fun ls hl => ?_)
            refine lv_goto (tgt := 50) hx hb dX3_standing_122 (by decide) ?_
            have hk9 : al2 (bN V) (bG V) lz r i (k + 1) = al1 (bG V) lz r i k (al2 (bN V) (bG V) lz r i k) j := by rw [show j = bN V k by omega]; rfl
            exact ih50 (by omega) trivial ls (by show lv_has ls 9 [(7, .int (nI (k + 1))), (6, .int (bI (al2 (bN V) (bG V) lz r i (k + 1)))), (5, .int (nI i)), (4, .int (nI (cntB (fun x => !hasR d x && frA (bN V) (bG V) lz r x) i))), (3, .ref (row lz r)), (0, .ref mo), (1, .int (nI lz)), (2, .int (nI r))]; rw [hk9]; exact lv_sub hl [0, 2, 3, 4, 5, 6, 7, 8] rfl)
          · refine lv_iload hx hb dX3_standing_72 (lv_at hl 1 rfl) ?_
            refine h_if_eqB (tgt := 110) hx hb dX3_standing_74 (by decide) (fun c_74 => ?_) (fun c_74 => ?_)
            · refine lv_iconst (v := nI 0) hx hb dX3_standing_110 (by decide) ?_
              refine lv_istore (lv' := [(6, .int (nI 0)), (8, .int (nI j)), (7, .int (nI k)), (5, .int (nI i)), (4, .int (nI (cntB (fun x => !hasR d x && frA (bN V) (bG V) lz r x) i))), (3, .ref (row lz r)), (0, .ref mo), (1, .int (nI lz)), (2, .int (nI r))]) hx hb dX3_standing_111 hl (by decide) rfl (fun ls hl => ?_)
              refine lv_iinc (v := nI (j + 1)) (lv' := [(8, .int (nI (j + 1))), (6, .int (nI 0)), (7, .int (nI k)), (5, .int (nI i)), (4, .int (nI (cntB (fun x => !hasR d x && frA (bN V) (bG V) lz r x) i))), (3, .ref (row lz r)), (0, .ref mo), (1, .int (nI lz)), (2, .int (nI r))]) hx hb dX3_standing_113 hl (k := 1) rfl (nI_add (j) 1) (by decide) rfl (fun ls hl => ?_)
              refine lv_goto (tgt := 59) hx hb dX3_standing_116 (by decide) ?_
              exact ih59 (by omega) trivial ls (by show lv_has ls 9 [(8, .int (nI (j + 1))), (6, .int (bI (al1 (bG V) lz r i k (al2 (bN V) (bG V) lz r i k) (j + 1)))), (7, .int (nI k)), (5, .int (nI i)), (4, .int (nI (cntB (fun x => !hasR d x && frA (bN V) (bG V) lz r x) i))), (3, .ref (row lz r)), (0, .ref mo), (1, .int (nI lz)), (2, .int (nI r))]; rw [al1_f c_74]; exact lv_sub hl [0, 1, 2, 3, 4, 5, 6, 7, 8] rfl)
            · refine lv_iload hx hb dX3_standing_77 (lv_at hl 2 rfl) ?_
              refine lv_iload_n hx hb dX3_standing_79 rfl (lv_at hl 7 rfl) ?_
              refine h_icmp_ne (a := k) (b := lz) (tgt := 89) hx hb dX3_standing_80 (by decide) (by omega) (by omega) (fun c_80 => ?_) (fun c_80 => ?_)
              · refine lv_aload_n hx hb dX3_standing_89 rfl (lv_at hl 6 rfl) ?_
                refine h_get (v := .ref lv) hx hb hts hi3 hown hK0 hV0 hm.cmo rfl 2 (by decide) hw0 rfl dX3_standing_90 ?_
                refine lv_iload hx hb dX3_standing_93 (lv_at hl 2 rfl) ?_
                refine h_aaldE (i := k) hm.clv hx hb hK0 hV0 rfl rfl (by omega) (by omega) dX3_standing_95 ?_
                refine lv_iload hx hb dX3_standing_96 (lv_at hl 0 rfl) ?_
                refine h_aaldE (i := j) (hm.clvl (l := k) (by omega)) hx hb hK0 hV0 rfl rfl (by omega) (by omega) dX3_standing_98 ?_
                refine lv_iload hx hb dX3_standing_99 (lv_at hl 3 rfl) ?_
                refine h_ialdE (i := i) (hm.crow (l := k) (r := j) (by omega) (by omega)) hx hb hK0 hV0 (by omega) dX3_standing_101 ?_
                refine lv_iconst (v := (-1)) hx hb dX3_standing_102 (by decide) ?_
                refine lv_icmp_ne (tgt := 110) hx hb dX3_standing_103 (by decide) (fun c_103 => ?_) (fun c_103 => ?_)
                · refine lv_iconst (v := nI 0) hx hb dX3_standing_110 (by decide) ?_
                  refine lv_istore (lv' := [(6, .int (nI 0)), (8, .int (nI j)), (7, .int (nI k)), (5, .int (nI i)), (4, .int (nI (cntB (fun x => !hasR d x && frA (bN V) (bG V) lz r x) i))), (3, .ref (row lz r)), (0, .ref mo), (1, .int (nI lz)), (2, .int (nI r))]) hx hb dX3_standing_111 hl (by decide) rfl (fun ls hl => ?_)
                  refine lv_iinc (v := nI (j + 1)) (lv' := [(8, .int (nI (j + 1))), (6, .int (nI 0)), (7, .int (nI k)), (5, .int (nI i)), (4, .int (nI (cntB (fun x => !hasR d x && frA (bN V) (bG V) lz r x) i))), (3, .ref (row lz r)), (0, .ref mo), (1, .int (nI lz)), (2, .int (nI r))]) hx hb dX3_standing_113 hl (k := 1) rfl (nI_add (j) 1) (by decide) rfl (fun ls hl => ?_)
                  refine lv_goto (tgt := 59) hx hb dX3_standing_116 (by decide) ?_
                  exact ih59 (by omega) trivial ls (by show lv_has ls 9 [(8, .int (nI (j + 1))), (6, .int (bI (al1 (bG V) lz r i k (al2 (bN V) (bG V) lz r i k) (j + 1)))), (7, .int (nI k)), (5, .int (nI i)), (4, .int (nI (cntB (fun x => !hasR d x && frA (bN V) (bG V) lz r x) i))), (3, .ref (row lz r)), (0, .ref mo), (1, .int (nI lz)), (2, .int (nI r))]; rw [al1_g (okS_3 (by omega) (sw_ht c_103))]; exact lv_sub hl [0, 1, 2, 3, 4, 5, 6, 7, 8] rfl)
                · refine lv_iconst (v := nI 1) hx hb dX3_standing_106 (by decide) ?_
                  refine lv_goto (tgt := 111) hx hb dX3_standing_107 (by decide) ?_
                  refine lv_istore (lv' := [(6, .int (nI 1)), (8, .int (nI j)), (7, .int (nI k)), (5, .int (nI i)), (4, .int (nI (cntB (fun x => !hasR d x && frA (bN V) (bG V) lz r x) i))), (3, .ref (row lz r)), (0, .ref mo), (1, .int (nI lz)), (2, .int (nI r))]) hx hb dX3_standing_111 hl (by decide) rfl (fun ls hl => ?_)
                  refine lv_iinc (v := nI (j + 1)) (lv' := [(8, .int (nI (j + 1))), (6, .int (nI 1)), (7, .int (nI k)), (5, .int (nI i)), (4, .int (nI (cntB (fun x => !hasR d x && frA (bN V) (bG V) lz r x) i))), (3, .ref (row lz r)), (0, .ref mo), (1, .int (nI lz)), (2, .int (nI r))]) hx hb dX3_standing_113 hl (k := 1) rfl (nI_add (j) 1) (by decide) rfl (fun ls hl => ?_)
                  refine lv_goto (tgt := 59) hx hb dX3_standing_116 (by decide) ?_
                  exact ih59 (by omega) trivial ls (by show lv_has ls 9 [(8, .int (nI (j + 1))), (6, .int (bI (al1 (bG V) lz r i k (al2 (bN V) (bG V) lz r i k) (j + 1)))), (7, .int (nI k)), (5, .int (nI i)), (4, .int (nI (cntB (fun x => !hasR d x && frA (bN V) (bG V) lz r x) i))), (3, .ref (row lz r)), (0, .ref mo), (1, .int (nI lz)), (2, .int (nI r))]; rw [al1_t c_74 (okS_2 (sw_hf c_103))]; exact lv_sub hl [0, 1, 2, 3, 4, 5, 6, 7, 8] rfl)
              · refine lv_iload hx hb dX3_standing_83 (lv_at hl 0 rfl) ?_
                refine lv_iload_n hx hb dX3_standing_85 rfl (lv_at hl 8 rfl) ?_
                refine h_icmp_ge (a := j) (b := r) (tgt := 106) hx hb dX3_standing_86 (by decide) (by omega) (by omega) (fun c_86 => ?_) (fun c_86 => ?_)
                · refine lv_iconst (v := nI 1) hx hb dX3_standing_106 (by decide) ?_
                  refine lv_goto (tgt := 111) hx hb dX3_standing_107 (by decide) ?_
                  refine lv_istore (lv' := [(6, .int (nI 1)), (8, .int (nI j)), (7, .int (nI k)), (5, .int (nI i)), (4, .int (nI (cntB (fun x => !hasR d x && frA (bN V) (bG V) lz r x) i))), (3, .ref (row lz r)), (0, .ref mo), (1, .int (nI lz)), (2, .int (nI r))]) hx hb dX3_standing_111 hl (by decide) rfl (fun ls hl => ?_)
                  refine lv_iinc (v := nI (j + 1)) (lv' := [(8, .int (nI (j + 1))), (6, .int (nI 1)), (7, .int (nI k)), (5, .int (nI i)), (4, .int (nI (cntB (fun x => !hasR d x && frA (bN V) (bG V) lz r x) i))), (3, .ref (row lz r)), (0, .ref mo), (1, .int (nI lz)), (2, .int (nI r))]) hx hb dX3_standing_113 hl (k := 1) rfl (nI_add (j) 1) (by decide) rfl (fun ls hl => ?_)
                  refine lv_goto (tgt := 59) hx hb dX3_standing_116 (by decide) ?_
                  exact ih59 (by omega) trivial ls (by show lv_has ls 9 [(8, .int (nI (j + 1))), (6, .int (bI (al1 (bG V) lz r i k (al2 (bN V) (bG V) lz r i k) (j + 1)))), (7, .int (nI k)), (5, .int (nI i)), (4, .int (nI (cntB (fun x => !hasR d x && frA (bN V) (bG V) lz r x) i))), (3, .ref (row lz r)), (0, .ref mo), (1, .int (nI lz)), (2, .int (nI r))]; rw [al1_t c_74 (okS_1 (l := lz) (r := r) (k := k) (i := j) ⟨by omega, by omega⟩)]; exact lv_sub hl [0, 1, 2, 3, 4, 5, 6, 7, 8] rfl)
                · refine lv_aload_n hx hb dX3_standing_89 rfl (lv_at hl 6 rfl) ?_
                  refine h_get (v := .ref lv) hx hb hts hi3 hown hK0 hV0 hm.cmo rfl 2 (by decide) hw0 rfl dX3_standing_90 ?_
                  refine lv_iload hx hb dX3_standing_93 (lv_at hl 2 rfl) ?_
                  refine h_aaldE (i := k) hm.clv hx hb hK0 hV0 rfl rfl (by omega) (by omega) dX3_standing_95 ?_
                  refine lv_iload hx hb dX3_standing_96 (lv_at hl 0 rfl) ?_
                  refine h_aaldE (i := j) (hm.clvl (l := k) (by omega)) hx hb hK0 hV0 rfl rfl (by omega) (by omega) dX3_standing_98 ?_
                  refine lv_iload hx hb dX3_standing_99 (lv_at hl 3 rfl) ?_
                  refine h_ialdE (i := i) (hm.crow (l := k) (r := j) (by omega) (by omega)) hx hb hK0 hV0 (by omega) dX3_standing_101 ?_
                  refine lv_iconst (v := (-1)) hx hb dX3_standing_102 (by decide) ?_
                  refine lv_icmp_ne (tgt := 110) hx hb dX3_standing_103 (by decide) (fun c_103 => ?_) (fun c_103 => ?_)
                  · refine lv_iconst (v := nI 0) hx hb dX3_standing_110 (by decide) ?_
                    refine lv_istore (lv' := [(6, .int (nI 0)), (8, .int (nI j)), (7, .int (nI k)), (5, .int (nI i)), (4, .int (nI (cntB (fun x => !hasR d x && frA (bN V) (bG V) lz r x) i))), (3, .ref (row lz r)), (0, .ref mo), (1, .int (nI lz)), (2, .int (nI r))]) hx hb dX3_standing_111 hl (by decide) rfl (fun ls hl => ?_)
                    refine lv_iinc (v := nI (j + 1)) (lv' := [(8, .int (nI (j + 1))), (6, .int (nI 0)), (7, .int (nI k)), (5, .int (nI i)), (4, .int (nI (cntB (fun x => !hasR d x && frA (bN V) (bG V) lz r x) i))), (3, .ref (row lz r)), (0, .ref mo), (1, .int (nI lz)), (2, .int (nI r))]) hx hb dX3_standing_113 hl (k := 1) rfl (nI_add (j) 1) (by decide) rfl (fun ls hl => ?_)
                    refine lv_goto (tgt := 59) hx hb dX3_standing_116 (by decide) ?_
                    exact ih59 (by omega) trivial ls (by show lv_has ls 9 [(8, .int (nI (j + 1))), (6, .int (bI (al1 (bG V) lz r i k (al2 (bN V) (bG V) lz r i k) (j + 1)))), (7, .int (nI k)), (5, .int (nI i)), (4, .int (nI (cntB (fun x => !hasR d x && frA (bN V) (bG V) lz r x) i))), (3, .ref (row lz r)), (0, .ref mo), (1, .int (nI lz)), (2, .int (nI r))]; rw [al1_g (okS_3 (by omega) (sw_ht c_103))]; exact lv_sub hl [0, 1, 2, 3, 4, 5, 6, 7, 8] rfl)
                  · refine lv_iconst (v := nI 1) hx hb dX3_standing_106 (by decide) ?_
                    refine lv_goto (tgt := 111) hx hb dX3_standing_107 (by decide) ?_
                    refine lv_istore (lv' := [(6, .int (nI 1)), (8, .int (nI j)), (7, .int (nI k)), (5, .int (nI i)), (4, .int (nI (cntB (fun x => !hasR d x && frA (bN V) (bG V) lz r x) i))), (3, .ref (row lz r)), (0, .ref mo), (1, .int (nI lz)), (2, .int (nI r))]) hx hb dX3_standing_111 hl (by decide) rfl (fun ls hl => ?_)
                    refine lv_iinc (v := nI (j + 1)) (lv' := [(8, .int (nI (j + 1))), (6, .int (nI 1)), (7, .int (nI k)), (5, .int (nI i)), (4, .int (nI (cntB (fun x => !hasR d x && frA (bN V) (bG V) lz r x) i))), (3, .ref (row lz r)), (0, .ref mo), (1, .int (nI lz)), (2, .int (nI r))]) hx hb dX3_standing_113 hl (k := 1) rfl (nI_add (j) 1) (by decide) rfl (fun ls hl => ?_)
                    refine lv_goto (tgt := 59) hx hb dX3_standing_116 (by decide) ?_
                    exact ih59 (by omega) trivial ls (by show lv_has ls 9 [(8, .int (nI (j + 1))), (6, .int (bI (al1 (bG V) lz r i k (al2 (bN V) (bG V) lz r i k) (j + 1)))), (7, .int (nI k)), (5, .int (nI i)), (4, .int (nI (cntB (fun x => !hasR d x && frA (bN V) (bG V) lz r x) i))), (3, .ref (row lz r)), (0, .ref mo), (1, .int (nI lz)), (2, .int (nI r))]; rw [al1_t c_74 (okS_2 (sw_hf c_103))]; exact lv_sub hl [0, 1, 2, 3, 4, 5, 6, 7, 8] rfl)
      · refine lv_goto (tgt := 140) hx hb dX3_standing_41 (by decide) ?_
        refine lv_iinc (v := nI (i + 1)) (lv' := [(5, .int (nI (i + 1))), (4, .int (nI (cntB (fun x => !hasR d x && frA (bN V) (bG V) lz r x) i))), (3, .ref (row lz r)), (0, .ref mo), (1, .int (nI lz)), (2, .int (nI r))]) hx hb dX3_standing_140 hl (k := 0) rfl (nI_add (i) 1) (by decide) rfl (fun ls hl => ?_)
        refine lv_goto (tgt := 15) hx hb dX3_standing_143 (by decide) ?_
        exact ih15 (by omega) trivial ls (by show lv_has ls 9 [(5, .int (nI (i + 1))), (4, .int (nI (cntB (fun x => !hasR d x && frA (bN V) (bG V) lz r x) (i + 1)))), (3, .ref (row lz r)), (0, .ref mo), (1, .int (nI lz)), (2, .int (nI r))]; rw [cntB_n (p := (fun x => !hasR d x && frA (bN V) (bG V) lz r x)) (sd_n2 (sw_ht c_38))]; exact lv_sub hl [0, 1, 2, 3, 4, 5] rfl)

set_option maxHeartbeats 1000000 in
set_option maxRecDepth 100000 in
theorem c_X3_runTold (l : Launch) (G : hG) (hp : HP) (mo dk lv nb : Nat) (lvl : Nat → Nat) (row : Nat → Nat → Nat) (th : Int32) (d : Row) (V : BV) (rm dt : Int32) (hm : mA mo dk lv nb lvl row th d V rm dt hp) (lz r : Nat) (hl4 : lz < 4) (hr0 : r < bN V lz) (wh : Nat) (hw6 : wh < 6) : hRd l yX3_runTold wsX3_runTold 1 28 G hp [.ref mo, .int (nI lz), .int (nI r), .int (nI wh)] (some (.int (fcS (bG V lz r) (sdS d (bN V) (bG V) lz r) wh))) := by
  refine Met.ofW (cc := cX3_runTold) (maxL := 7) (ret := (some .int)) (by decide) rfl ?_
  intro p e s m args below meth c s₁ B hml hv
  obtain ⟨rfl, hV0, hK0⟩ := hv
  have hx := B.exec
  have hb := B.bytes
  have hr := B.returns
  have hts := atoms_spec (ws := wsX3_runTold) B.pre
  have hown : s.vm.findClass RX3 = some m.cls := findClass_of_methodNamed B.named
  have hlocks := B.notSynchronized
  have hF : CallFix p m c cX3_runTold 7 s [.ref mo, .int (nI lz), .int (nI r), .int (nI wh)].toArray wsX3_runTold RX3 := ⟨hx, hb, hml, hown, hts⟩
  have hw0 := hts (.fieldLink RX3 20 "SlipLevelsModel" "levels" "[[[I") (by decide +kernel)
  have hi3 : ∀ w ∈ u_ws RX3 TX3 4, w ∈ wsX3_runTold := by
    intro w h
    unfold wsX3_runTold
    simp only [List.mem_cons, List.mem_append, h, true_or, or_true]
  have hl := lv_entry ([.ref mo, .int (nI lz), .int (nI r), .int (nI wh)]) (n := 7) (Nat.le_of_ble_eq_true rfl)
  rw [lg_entry_eq]
  generalize (lg_sl ([.ref mo, .int (nI lz), .int (nI r), .int (nI wh)]) ++ List.replicate (7 - (lg_sl ([.ref mo, .int (nI lz), .int (nI r), .int (nI wh)])).length) Slot.unset).toArray = ls at hl ⊢
  replace hl : lv_has ls 7 [(0, .ref mo), (1, .int (nI lz)), (2, .int (nI r)), (3, .int (nI wh))] := hl
  have hn := hm.le
  have hnl := hn lz
  have hps := hm.pos hl4 hr0
  refine lv_aload_n hx hb dX3_runTold_0 rfl (lv_at hl 0 rfl) ?_
  refine h_get (v := .ref lv) hx hb hts hi3 hown hK0 hV0 hm.cmo rfl 2 (by decide) hw0 rfl dX3_runTold_1 ?_
  refine lv_iload_n hx hb dX3_runTold_4 rfl (lv_at hl 1 rfl) ?_
  refine h_aaldE (i := lz) hm.clv hx hb hK0 hV0 rfl rfl (by omega) (by omega) dX3_runTold_5 ?_
  refine lv_iload_n hx hb dX3_runTold_6 rfl (lv_at hl 2 rfl) ?_
  refine h_aaldE (i := r) (hm.clvl (l := lz) (by omega)) hx hb hK0 hV0 rfl rfl (by omega) (by omega) dX3_runTold_7 ?_
  refine lv_astore (lv' := [(4, .ref (row lz r)), (0, .ref mo), (1, .int (nI lz)), (2, .int (nI r)), (3, .int (nI wh))]) hx hb dX3_runTold_8 hl (by decide) rfl (fun ls hl => ?_)
  refine lv_iload_n hx hb dX3_runTold_10 rfl (lv_at hl 4 rfl) ?_
  rcases (show wh = 0 ∨ wh = 1 ∨ wh = 2 ∨ wh = 3 ∨ wh = 4 ∨ wh = 5 by omega) with hq | hq | hq | hq | hq | hq
  · subst hq
    refine lv_tableIn (off := 33) (tgt := 44) hx hb dX3_runTold_11 (by decide) (by decide) (by decide) (by decide) ?_
    refine lv_aload hx hb dX3_runTold_44 (lv_at hl 0 rfl) ?_
    refine h_rdS (As := [.ref (row lz r)]) (rest := []) hF (c_X3_size l G hp (row lz r) (bG V lz r) (hm.crow (l := lz) (r := r) (by omega) (by omega))) 1 gX3_runTold_X3_size rfl (by decide +kernel) ⟨Nat.le_of_ble_eq_true rfl, Nat.le_of_ble_eq_true rfl⟩ hK0 hV0 rfl hl.1 rfl (Nat.le_of_ble_eq_true rfl) (Nat.le_refl _) (Nat.le_refl _) dX3_runTold_46 ?_
    exact h_iretR hx hb hr hlocks rfl dX3_runTold_49
  · subst hq
    refine lv_tableIn (off := 39) (tgt := 50) hx hb dX3_runTold_11 (by decide) (by decide) (by decide) (by decide) ?_
    refine lv_aload hx hb dX3_runTold_50 (lv_at hl 0 rfl) ?_
    refine lv_iconst (v := nI 0) hx hb dX3_runTold_52 (by decide) ?_
    refine lv_iconst (v := nI 1) hx hb dX3_runTold_53 (by decide) ?_
    refine h_rdS (As := [.ref (row lz r), .int (nI 0), .int (nI 1)]) (rest := []) hF (c_X3_endL l G hp (row lz r) (bG V lz r) (hm.crow (l := lz) (r := r) (by omega) (by omega)) hps) 3 gX3_runTold_X3_end rfl (by decide +kernel) ⟨Nat.le_of_ble_eq_true rfl, Nat.le_of_ble_eq_true rfl⟩ hK0 hV0 rfl hl.1 rfl (Nat.le_of_ble_eq_true rfl) (Nat.le_refl _) (Nat.le_refl _) dX3_runTold_54 ?_
    exact h_iretR hx hb hr hlocks rfl dX3_runTold_57
  · subst hq
    refine lv_tableIn (off := 47) (tgt := 58) hx hb dX3_runTold_11 (by decide) (by decide) (by decide) (by decide) ?_
    refine lv_aload hx hb dX3_runTold_58 (lv_at hl 0 rfl) ?_
    refine lv_bipush (v := nI 63) hx hb dX3_runTold_60 (by decide) ?_
    refine lv_iconst (v := (-1)) hx hb dX3_runTold_62 (by decide) ?_
    refine h_rdS (As := [.ref (row lz r), .int (nI 63), .int (-1)]) (rest := []) hF (c_X3_endG l G hp (row lz r) (bG V lz r) (hm.crow (l := lz) (r := r) (by omega) (by omega)) hps) 3 gX3_runTold_X3_end rfl (by decide +kernel) ⟨Nat.le_of_ble_eq_true rfl, Nat.le_of_ble_eq_true rfl⟩ hK0 hV0 rfl hl.1 rfl (Nat.le_of_ble_eq_true rfl) (Nat.le_refl _) (Nat.le_refl _) dX3_runTold_63 ?_
    exact h_iretR hx hb hr hlocks rfl dX3_runTold_66
  · subst hq
    refine lv_tableIn (off := 56) (tgt := 67) hx hb dX3_runTold_11 (by decide) (by decide) (by decide) (by decide) ?_
    refine lv_iconst (v := nI 0) hx hb dX3_runTold_67 (by decide) ?_
    refine lv_istore (lv' := [(5, .int (nI 0)), (4, .ref (row lz r)), (0, .ref mo), (1, .int (nI lz)), (2, .int (nI r)), (3, .int (nI 3))]) hx hb dX3_runTold_68 hl (by decide) rfl (fun ls hl => ?_)
    refine lv_iconst (v := nI 0) hx hb dX3_runTold_70 (by decide) ?_
    refine lv_istore (lv' := [(6, .int (nI 0)), (5, .int (nI 0)), (4, .ref (row lz r)), (0, .ref mo), (1, .int (nI lz)), (2, .int (nI r)), (3, .int (nI 3))]) hx hb dX3_runTold_71 hl (by decide) rfl (fun ls hl => ?_)
    replace hl : lv_has ls 7 [(6, .int (nI 0)), (5, .int (svB (opR (bG V lz r)) 0)), (4, .ref (row lz r)), (0, .ref mo), (1, .int (nI lz)), (2, .int (nI r))] := lv_sub hl [0, 1, 2, 3, 4, 5] rfl
    revert ls
    refine h_loop 8 (fun i => [(6, .int (nI i)), (5, .int (svB (opR (bG V lz r)) i)), (4, .ref (row lz r)), (0, .ref mo), (1, .int (nI lz)), (2, .int (nI r))]) (fun i => True) (fun i hi73 hI73 ih73 ls hl => ?_) 0 (Nat.zero_le _) trivial
    refine lv_iload hx hb dX3_runTold_73 (lv_at hl 0 rfl) ?_
    refine lv_bipush (v := nI 8) hx hb dX3_runTold_75 (by decide) ?_
    refine h_icmp_ge (a := i) (b := 8) (tgt := 109) hx hb dX3_runTold_77 (by decide) (by omega) (by omega) (fun c_77 => ?_) (fun c_77 => ?_)
    · refine lv_iload hx hb dX3_runTold_109 (lv_at hl 1 rfl) ?_
      exact h_iretR hx hb hr hlocks (by rw [show i = 8 by omega]; rfl) dX3_runTold_111
    · refine lv_iload hx hb dX3_runTold_80 (lv_at hl 1 rfl) ?_
      refine lv_aload hx hb dX3_runTold_82 (lv_at hl 2 rfl) ?_
      refine lv_iload hx hb dX3_runTold_84 (lv_at hl 0 rfl) ?_
      refine h_rdS (As := [.ref (row lz r), .int (nI i)]) (rest := [.int (svB (opR (bG V lz r)) i)]) hF (c_X3_isOpen l G hp (row lz r) (bG V lz r) (hm.crow (l := lz) (r := r) (by omega) (by omega)) i (by omega)) 2 gX3_runTold_X3_isOpen rfl (by decide +kernel) ⟨Nat.le_of_ble_eq_true rfl, Nat.le_of_ble_eq_true rfl⟩ hK0 hV0 rfl hl.1 rfl (Nat.le_of_ble_eq_true rfl) (Nat.le_refl _) (Nat.le_refl _) dX3_runTold_86 ?_
      refine h_if_eqB (tgt := 99) hx hb dX3_runTold_89 (by decide) (fun c_89 => ?_) (fun c_89 => ?_)
      · refine lv_iconst (v := nI 0) hx hb dX3_runTold_99 (by decide) ?_
        refine lv_iadd hx hb dX3_runTold_100 ?_
        refine lv_istore (lv' := [(5, .int ((svB (opR (bG V lz r)) i) + nI 0)), (6, .int (nI i)), (4, .ref (row lz r)), (0, .ref mo), (1, .int (nI lz)), (2, .int (nI r))]) hx hb dX3_runTold_101 hl (by decide) rfl (fun ls hl => ?_)
        refine lv_iinc (v := nI (i + 1)) (lv' := [(6, .int (nI (i + 1))), (5, .int ((svB (opR (bG V lz r)) i) + nI 0)), (4, .ref (row lz r)), (0, .ref mo), (1, .int (nI lz)), (2, .int (nI r))]) hx hb dX3_runTold_103 hl (k := 1) rfl (nI_add (i) 1) (by decide) rfl (fun ls hl => ?_)
        refine lv_goto (tgt := 73) hx hb dX3_runTold_106 (by decide) ?_
        exact ih73 (by omega) trivial ls (by show lv_has ls 7 [(6, .int (nI (i + 1))), (5, .int (svB (opR (bG V lz r)) (i + 1))), (4, .ref (row lz r)), (0, .ref mo), (1, .int (nI lz)), (2, .int (nI r))]; rw [svB_n c_89]; exact lv_sub hl [0, 1, 2, 3, 4, 5] rfl)
      · refine lv_iconst (v := nI 1) hx hb dX3_runTold_92 (by decide) ?_
        refine lv_iload hx hb dX3_runTold_93 (lv_at hl 0 rfl) ?_
        refine lv_ishl hx hb dX3_runTold_95 ?_
        refine lv_goto (tgt := 100) hx hb dX3_runTold_96 (by decide) ?_
        refine lv_iadd hx hb dX3_runTold_100 ?_
        refine lv_istore (lv' := [(5, .int ((svB (opR (bG V lz r)) i) + (nI 1 <<< (nI i &&& 31)))), (6, .int (nI i)), (4, .ref (row lz r)), (0, .ref mo), (1, .int (nI lz)), (2, .int (nI r))]) hx hb dX3_runTold_101 hl (by decide) rfl (fun ls hl => ?_)
        refine lv_iinc (v := nI (i + 1)) (lv' := [(6, .int (nI (i + 1))), (5, .int ((svB (opR (bG V lz r)) i) + (nI 1 <<< (nI i &&& 31)))), (4, .ref (row lz r)), (0, .ref mo), (1, .int (nI lz)), (2, .int (nI r))]) hx hb dX3_runTold_103 hl (k := 1) rfl (nI_add (i) 1) (by decide) rfl (fun ls hl => ?_)
        refine lv_goto (tgt := 73) hx hb dX3_runTold_106 (by decide) ?_
        exact ih73 (by omega) trivial ls (by show lv_has ls 7 [(6, .int (nI (i + 1))), (5, .int (svB (opR (bG V lz r)) (i + 1))), (4, .ref (row lz r)), (0, .ref mo), (1, .int (nI lz)), (2, .int (nI r))]; rw [svB_y c_89]; exact lv_sub hl [0, 1, 2, 3, 4, 5] rfl)
  · subst hq
    refine lv_tableIn (off := 101) (tgt := 112) hx hb dX3_runTold_11 (by decide) (by decide) (by decide) (by decide) ?_
    refine lv_aload hx hb dX3_runTold_112 (lv_at hl 0 rfl) ?_
    refine h_rdS (As := [.ref (row lz r)]) (rest := []) hF (c_X3_tombs l G hp (row lz r) (bG V lz r) (hm.crow (l := lz) (r := r) (by omega) (by omega))) 1 gX3_runTold_X3_tombs rfl (by decide +kernel) ⟨Nat.le_of_ble_eq_true rfl, Nat.le_of_ble_eq_true rfl⟩ hK0 hV0 rfl hl.1 rfl (Nat.le_of_ble_eq_true rfl) (Nat.le_refl _) (Nat.le_refl _) dX3_runTold_114 ?_
    exact h_iretR hx hb hr hlocks rfl dX3_runTold_117
  · subst hq
    refine lv_tableOut (tgt := 118) hx hb dX3_runTold_11 (Or.inr (by decide)) (by decide) ?_
    refine lv_aload_n hx hb dX3_runTold_118 rfl (lv_at hl 1 rfl) ?_
    refine lv_iload_n hx hb dX3_runTold_119 rfl (lv_at hl 2 rfl) ?_
    refine lv_iload_n hx hb dX3_runTold_120 rfl (lv_at hl 3 rfl) ?_
    refine h_rdV (As := [.int (nI lz), .int (nI r)]) (rest := []) hF (c_X3_standing l G hp mo dk lv nb lvl row th d V rm dt hm lz r (by omega) (by omega)) 2 gX3_runTold_X3_standing rfl (by decide +kernel) ⟨Nat.le_of_ble_eq_true rfl, Nat.le_of_ble_eq_true rfl⟩ hK0 hV0 hm.cmo rfl rfl rfl hl.1 rfl (Nat.le_of_ble_eq_true rfl) (Nat.le_refl _) (Nat.le_refl _) dX3_runTold_121 ?_
    exact h_iretR hx hb hr hlocks rfl dX3_runTold_124

set_option maxHeartbeats 1000000 in
set_option maxRecDepth 100000 in
theorem c_X3_levelTold0 (l : Launch) (G : hG) (hp : HP) (mo dk lv nb : Nat) (lvl : Nat → Nat) (row : Nat → Nat → Nat) (th : Int32) (d : Row) (V : BV) (rm dt : Int32) (hm : mA mo dk lv nb lvl row th d V rm dt hp) (lz : Nat) (hl4 : lz < 4) : hRd l yX3_levelTold wsX3_levelTold 0 0 G hp [.ref mo, .int (nI lz), .int (nI 0)] (some (.int (nI (ltS V lz 0)))) := by
  refine Met.ofW (cc := cX3_levelTold) (maxL := 8) (ret := (some .int)) (by decide) rfl ?_
  intro p e s m args below meth c s₁ B hml hv
  obtain ⟨rfl, hV0, hK0⟩ := hv
  have hx := B.exec
  have hb := B.bytes
  have hr := B.returns
  have hts := atoms_spec (ws := wsX3_levelTold) B.pre
  have hown : s.vm.findClass RX3 = some m.cls := findClass_of_methodNamed B.named
  have hlocks := B.notSynchronized
  have hF : CallFix p m c cX3_levelTold 8 s [.ref mo, .int (nI lz), .int (nI 0)].toArray wsX3_levelTold RX3 := ⟨hx, hb, hml, hown, hts⟩
  have hw0 := hts (.fieldLink RX3 20 "SlipLevelsModel" "levels" "[[[I") (by decide +kernel)
  have hi3 : ∀ w ∈ u_ws RX3 TX3 4, w ∈ wsX3_levelTold := by
    intro w h
    unfold wsX3_levelTold
    simp only [List.mem_cons, List.mem_append, h, true_or, or_true]
  have hl := lv_entry ([.ref mo, .int (nI lz), .int (nI 0)]) (n := 8) (Nat.le_of_ble_eq_true rfl)
  rw [lg_entry_eq]
  generalize (lg_sl ([.ref mo, .int (nI lz), .int (nI 0)]) ++ List.replicate (8 - (lg_sl ([.ref mo, .int (nI lz), .int (nI 0)])).length) Slot.unset).toArray = ls at hl ⊢
  replace hl : lv_has ls 8 [(0, .ref mo), (1, .int (nI lz)), (2, .int (nI 0))] := hl
  have hn := hm.le
  have hnl := hn lz
  refine lv_iload_n hx hb dX3_levelTold_0 rfl (lv_at hl 2 rfl) ?_
  refine h_if_ne (a := 0) (tgt := 12) hx hb dX3_levelTold_1 (by decide) (by omega) (fun c_1 => absurd rfl c_1) (fun c_1 => ?_)
  refine lv_aload_n hx hb dX3_levelTold_4 rfl (lv_at hl 0 rfl) ?_
  refine h_get (v := .ref lv) hx hb hts hi3 hown hK0 hV0 hm.cmo rfl 2 (by decide) hw0 rfl dX3_levelTold_5 ?_
  refine lv_iload_n hx hb dX3_levelTold_8 rfl (lv_at hl 1 rfl) ?_
  refine h_aaldE (i := lz) hm.clv hx hb hK0 hV0 rfl rfl (by omega) (by omega) dX3_levelTold_9 ?_
  refine h_alenQ (hm.clvl (l := lz) (by omega)) hx hb hK0 hV0 rfl dX3_levelTold_10 ?_
  exact h_iretR hx hb hr hlocks rfl dX3_levelTold_11

set_option maxHeartbeats 1000000 in
set_option maxRecDepth 100000 in
theorem c_X3_levelTold1 (l : Launch) (G : hG) (hp : HP) (mo dk lv nb : Nat) (lvl : Nat → Nat) (row : Nat → Nat → Nat) (th : Int32) (d : Row) (V : BV) (rm dt : Int32) (hm : mA mo dk lv nb lvl row th d V rm dt hp) (lz : Nat) (hl4 : lz < 4) : hRd l yX3_levelTold wsX3_levelTold 1 25 G hp [.ref mo, .int (nI lz), .int (nI 1)] (some (.int (nI (ltS V lz 1)))) := by
  refine Met.ofW (cc := cX3_levelTold) (maxL := 8) (ret := (some .int)) (by decide) rfl ?_
  intro p e s m args below meth c s₁ B hml hv
  obtain ⟨rfl, hV0, hK0⟩ := hv
  have hx := B.exec
  have hb := B.bytes
  have hr := B.returns
  have hts := atoms_spec (ws := wsX3_levelTold) B.pre
  have hown : s.vm.findClass RX3 = some m.cls := findClass_of_methodNamed B.named
  have hlocks := B.notSynchronized
  have hF : CallFix p m c cX3_levelTold 8 s [.ref mo, .int (nI lz), .int (nI 1)].toArray wsX3_levelTold RX3 := ⟨hx, hb, hml, hown, hts⟩
  have hw0 := hts (.fieldLink RX3 20 "SlipLevelsModel" "levels" "[[[I") (by decide +kernel)
  have hi3 : ∀ w ∈ u_ws RX3 TX3 4, w ∈ wsX3_levelTold := by
    intro w h
    unfold wsX3_levelTold
    simp only [List.mem_cons, List.mem_append, h, true_or, or_true]
  have hl := lv_entry ([.ref mo, .int (nI lz), .int (nI 1)]) (n := 8) (Nat.le_of_ble_eq_true rfl)
  rw [lg_entry_eq]
  generalize (lg_sl ([.ref mo, .int (nI lz), .int (nI 1)]) ++ List.replicate (8 - (lg_sl ([.ref mo, .int (nI lz), .int (nI 1)])).length) Slot.unset).toArray = ls at hl ⊢
  replace hl : lv_has ls 8 [(0, .ref mo), (1, .int (nI lz)), (2, .int (nI 1))] := hl
  have hn := hm.le
  have hnl := hn lz
  refine lv_iload_n hx hb dX3_levelTold_0 rfl (lv_at hl 2 rfl) ?_
  refine h_if_ne (a := 1) (tgt := 12) hx hb dX3_levelTold_1 (by decide) (by omega) (fun c_1 => ?_) (fun c_1 => absurd c_1 (by decide))
  refine lv_iconst (v := nI 0) hx hb dX3_levelTold_12 (by decide) ?_
  refine lv_istore_n (lv' := [(3, .int (nI 0)), (0, .ref mo), (1, .int (nI lz)), (2, .int (nI 1))]) hx hb dX3_levelTold_13 rfl hl (by decide) rfl (fun ls hl => ?_)
  refine lv_aload_n hx hb dX3_levelTold_14 rfl (lv_at hl 1 rfl) ?_
  refine h_get (v := .ref lv) hx hb hts hi3 hown hK0 hV0 hm.cmo rfl 2 (by decide) hw0 rfl dX3_levelTold_15 ?_
  refine lv_iload_n hx hb dX3_levelTold_18 rfl (lv_at hl 2 rfl) ?_
  refine h_aaldE (i := lz) hm.clv hx hb hK0 hV0 rfl rfl (by omega) (by omega) dX3_levelTold_19 ?_
  refine lv_astore (lv' := [(4, .ref (lvl lz)), (3, .int (nI 0)), (0, .ref mo), (1, .int (nI lz)), (2, .int (nI 1))]) hx hb dX3_levelTold_20 hl (by decide) rfl (fun ls hl => ?_)
  refine lv_aload hx hb dX3_levelTold_22 (lv_at hl 0 rfl) ?_
  refine h_alenQ (hm.clvl (l := lz) (by omega)) hx hb hK0 hV0 rfl dX3_levelTold_24 ?_
  refine lv_istore (lv' := [(5, .int (nI (bN V lz))), (4, .ref (lvl lz)), (3, .int (nI 0)), (0, .ref mo), (1, .int (nI lz)), (2, .int (nI 1))]) hx hb dX3_levelTold_25 hl (by decide) rfl (fun ls hl => ?_)
  refine lv_iconst (v := nI 0) hx hb dX3_levelTold_27 (by decide) ?_
  refine lv_istore (lv' := [(6, .int (nI 0)), (5, .int (nI (bN V lz))), (4, .ref (lvl lz)), (3, .int (nI 0)), (0, .ref mo), (1, .int (nI lz)), (2, .int (nI 1))]) hx hb dX3_levelTold_28 hl (by decide) rfl (fun ls hl => ?_)
  replace hl : lv_has ls 8 [(6, .int (nI 0)), (3, .int (nI (snA (fun r => szR (bG V lz r)) 0))), (5, .int (nI (bN V lz))), (4, .ref (lvl lz)), (0, .ref mo), (1, .int (nI lz)), (2, .int (nI 1))] := lv_sub hl [0, 3, 1, 2, 4, 5, 6] rfl
  revert ls
  refine h_loop (bN V lz) (fun i => [(6, .int (nI i)), (3, .int (nI (snA (fun r => szR (bG V lz r)) i))), (5, .int (nI (bN V lz))), (4, .ref (lvl lz)), (0, .ref mo), (1, .int (nI lz)), (2, .int (nI 1))]) (fun i => True) (fun i hi30 hI30 ih30 ls hl => ?_) 0 (Nat.zero_le _) trivial
  refine lv_iload hx hb dX3_levelTold_30 (lv_at hl 0 rfl) ?_
  refine lv_iload hx hb dX3_levelTold_32 (lv_at hl 2 rfl) ?_
  refine h_icmp_ge (a := i) (b := bN V lz) (tgt := 71) hx hb dX3_levelTold_34 (by decide) (by omega) (by omega) (fun c_34 => ?_) (fun c_34 => ?_)
  · refine lv_iload_n hx hb dX3_levelTold_71 rfl (lv_at hl 1 rfl) ?_
    exact h_iretR hx hb hr hlocks (by rw [show i = bN V lz by omega]; rfl) dX3_levelTold_72
  · refine lv_aload hx hb dX3_levelTold_37 (lv_at hl 3 rfl) ?_
    refine lv_iload hx hb dX3_levelTold_39 (lv_at hl 0 rfl) ?_
    refine h_aaldE (i := i) (hm.clvl (l := lz) (by omega)) hx hb hK0 hV0 rfl rfl (by omega) (by omega) dX3_levelTold_41 ?_
    refine lv_astore (lv' := [(7, .ref (row lz i)), (6, .int (nI i)), (3, .int (nI (snA (fun r => szR (bG V lz r)) i))), (5, .int (nI (bN V lz))), (4, .ref (lvl lz)), (0, .ref mo), (1, .int (nI lz)), (2, .int (nI 1))]) hx hb dX3_levelTold_42 hl (by decide) rfl (fun ls hl => ?_)
    refine lv_iload_n hx hb dX3_levelTold_44 rfl (lv_at hl 2 rfl) ?_
    refine lv_iload_n hx hb dX3_levelTold_45 rfl (lv_at hl 7 rfl) ?_
    refine lv_iconst (v := nI 1) hx hb dX3_levelTold_46 (by decide) ?_
    refine h_icmp_ne (a := 1) (b := 1) (tgt := 58) hx hb dX3_levelTold_47 (by decide) (by omega) (by omega) (fun c_47 => absurd rfl c_47) (fun c_47 => ?_)
    refine lv_aload hx hb dX3_levelTold_50 (lv_at hl 0 rfl) ?_
    refine h_rdS (As := [.ref (row lz i)]) (rest := [.int (nI (snA (fun r => szR (bG V lz r)) i))]) hF (c_X3_size l G hp (row lz i) (bG V lz i) (hm.crow (l := lz) (r := i) (by omega) (by omega))) 1 gX3_levelTold_X3_size rfl (by decide +kernel) ⟨Nat.le_of_ble_eq_true rfl, Nat.le_of_ble_eq_true rfl⟩ hK0 hV0 rfl hl.1 rfl (Nat.le_of_ble_eq_true rfl) (Nat.le_refl _) (Nat.le_refl _) dX3_levelTold_52 ?_
    refine lv_goto (tgt := 63) hx hb dX3_levelTold_55 (by decide) ?_
    refine h_iaddN hx hb dX3_levelTold_63 ?_
    refine lv_istore_n (lv' := [(3, .int (nI (snA (fun r => szR (bG V lz r)) i + szR (bG V lz i)))), (7, .ref (row lz i)), (6, .int (nI i)), (5, .int (nI (bN V lz))), (4, .ref (lvl lz)), (0, .ref mo), (1, .int (nI lz)), (2, .int (nI 1))]) hx hb dX3_levelTold_64 rfl hl (by decide) rfl (fun ls hl => ?_)
    refine lv_iinc (v := nI (i + 1)) (lv' := [(6, .int (nI (i + 1))), (3, .int (nI (snA (fun r => szR (bG V lz r)) i + szR (bG V lz i)))), (7, .ref (row lz i)), (5, .int (nI (bN V lz))), (4, .ref (lvl lz)), (0, .ref mo), (1, .int (nI lz)), (2, .int (nI 1))]) hx hb dX3_levelTold_65 hl (k := 2) rfl (nI_add (i) 1) (by decide) rfl (fun ls hl => ?_)
    refine lv_goto (tgt := 30) hx hb dX3_levelTold_68 (by decide) ?_
    exact ih30 (by omega) trivial ls (lv_sub hl [0, 1, 3, 4, 5, 6, 7] rfl)

set_option maxHeartbeats 1000000 in
set_option maxRecDepth 100000 in
theorem c_X3_levelTold2 (l : Launch) (G : hG) (hp : HP) (mo dk lv nb : Nat) (lvl : Nat → Nat) (row : Nat → Nat → Nat) (th : Int32) (d : Row) (V : BV) (rm dt : Int32) (hm : mA mo dk lv nb lvl row th d V rm dt hp) (lz : Nat) (hl4 : lz < 4) : hRd l yX3_levelTold wsX3_levelTold 1 25 G hp [.ref mo, .int (nI lz), .int (nI 2)] (some (.int (nI (ltS V lz 2)))) := by
  refine Met.ofW (cc := cX3_levelTold) (maxL := 8) (ret := (some .int)) (by decide) rfl ?_
  intro p e s m args below meth c s₁ B hml hv
  obtain ⟨rfl, hV0, hK0⟩ := hv
  have hx := B.exec
  have hb := B.bytes
  have hr := B.returns
  have hts := atoms_spec (ws := wsX3_levelTold) B.pre
  have hown : s.vm.findClass RX3 = some m.cls := findClass_of_methodNamed B.named
  have hlocks := B.notSynchronized
  have hF : CallFix p m c cX3_levelTold 8 s [.ref mo, .int (nI lz), .int (nI 2)].toArray wsX3_levelTold RX3 := ⟨hx, hb, hml, hown, hts⟩
  have hw0 := hts (.fieldLink RX3 20 "SlipLevelsModel" "levels" "[[[I") (by decide +kernel)
  have hi3 : ∀ w ∈ u_ws RX3 TX3 4, w ∈ wsX3_levelTold := by
    intro w h
    unfold wsX3_levelTold
    simp only [List.mem_cons, List.mem_append, h, true_or, or_true]
  have hl := lv_entry ([.ref mo, .int (nI lz), .int (nI 2)]) (n := 8) (Nat.le_of_ble_eq_true rfl)
  rw [lg_entry_eq]
  generalize (lg_sl ([.ref mo, .int (nI lz), .int (nI 2)]) ++ List.replicate (8 - (lg_sl ([.ref mo, .int (nI lz), .int (nI 2)])).length) Slot.unset).toArray = ls at hl ⊢
  replace hl : lv_has ls 8 [(0, .ref mo), (1, .int (nI lz)), (2, .int (nI 2))] := hl
  have hn := hm.le
  have hnl := hn lz
  refine lv_iload_n hx hb dX3_levelTold_0 rfl (lv_at hl 2 rfl) ?_
  refine h_if_ne (a := 2) (tgt := 12) hx hb dX3_levelTold_1 (by decide) (by omega) (fun c_1 => ?_) (fun c_1 => absurd c_1 (by decide))
  refine lv_iconst (v := nI 0) hx hb dX3_levelTold_12 (by decide) ?_
  refine lv_istore_n (lv' := [(3, .int (nI 0)), (0, .ref mo), (1, .int (nI lz)), (2, .int (nI 2))]) hx hb dX3_levelTold_13 rfl hl (by decide) rfl (fun ls hl => ?_)
  refine lv_aload_n hx hb dX3_levelTold_14 rfl (lv_at hl 1 rfl) ?_
  refine h_get (v := .ref lv) hx hb hts hi3 hown hK0 hV0 hm.cmo rfl 2 (by decide) hw0 rfl dX3_levelTold_15 ?_
  refine lv_iload_n hx hb dX3_levelTold_18 rfl (lv_at hl 2 rfl) ?_
  refine h_aaldE (i := lz) hm.clv hx hb hK0 hV0 rfl rfl (by omega) (by omega) dX3_levelTold_19 ?_
  refine lv_astore (lv' := [(4, .ref (lvl lz)), (3, .int (nI 0)), (0, .ref mo), (1, .int (nI lz)), (2, .int (nI 2))]) hx hb dX3_levelTold_20 hl (by decide) rfl (fun ls hl => ?_)
  refine lv_aload hx hb dX3_levelTold_22 (lv_at hl 0 rfl) ?_
  refine h_alenQ (hm.clvl (l := lz) (by omega)) hx hb hK0 hV0 rfl dX3_levelTold_24 ?_
  refine lv_istore (lv' := [(5, .int (nI (bN V lz))), (4, .ref (lvl lz)), (3, .int (nI 0)), (0, .ref mo), (1, .int (nI lz)), (2, .int (nI 2))]) hx hb dX3_levelTold_25 hl (by decide) rfl (fun ls hl => ?_)
  refine lv_iconst (v := nI 0) hx hb dX3_levelTold_27 (by decide) ?_
  refine lv_istore (lv' := [(6, .int (nI 0)), (5, .int (nI (bN V lz))), (4, .ref (lvl lz)), (3, .int (nI 0)), (0, .ref mo), (1, .int (nI lz)), (2, .int (nI 2))]) hx hb dX3_levelTold_28 hl (by decide) rfl (fun ls hl => ?_)
  replace hl : lv_has ls 8 [(6, .int (nI 0)), (3, .int (nI (snA (fun r => tbR (bG V lz r)) 0))), (5, .int (nI (bN V lz))), (4, .ref (lvl lz)), (0, .ref mo), (1, .int (nI lz)), (2, .int (nI 2))] := lv_sub hl [0, 3, 1, 2, 4, 5, 6] rfl
  revert ls
  refine h_loop (bN V lz) (fun i => [(6, .int (nI i)), (3, .int (nI (snA (fun r => tbR (bG V lz r)) i))), (5, .int (nI (bN V lz))), (4, .ref (lvl lz)), (0, .ref mo), (1, .int (nI lz)), (2, .int (nI 2))]) (fun i => True) (fun i hi30 hI30 ih30 ls hl => ?_) 0 (Nat.zero_le _) trivial
  refine lv_iload hx hb dX3_levelTold_30 (lv_at hl 0 rfl) ?_
  refine lv_iload hx hb dX3_levelTold_32 (lv_at hl 2 rfl) ?_
  refine h_icmp_ge (a := i) (b := bN V lz) (tgt := 71) hx hb dX3_levelTold_34 (by decide) (by omega) (by omega) (fun c_34 => ?_) (fun c_34 => ?_)
  · refine lv_iload_n hx hb dX3_levelTold_71 rfl (lv_at hl 1 rfl) ?_
    exact h_iretR hx hb hr hlocks (by rw [show i = bN V lz by omega]; rfl) dX3_levelTold_72
  · refine lv_aload hx hb dX3_levelTold_37 (lv_at hl 3 rfl) ?_
    refine lv_iload hx hb dX3_levelTold_39 (lv_at hl 0 rfl) ?_
    refine h_aaldE (i := i) (hm.clvl (l := lz) (by omega)) hx hb hK0 hV0 rfl rfl (by omega) (by omega) dX3_levelTold_41 ?_
    refine lv_astore (lv' := [(7, .ref (row lz i)), (6, .int (nI i)), (3, .int (nI (snA (fun r => tbR (bG V lz r)) i))), (5, .int (nI (bN V lz))), (4, .ref (lvl lz)), (0, .ref mo), (1, .int (nI lz)), (2, .int (nI 2))]) hx hb dX3_levelTold_42 hl (by decide) rfl (fun ls hl => ?_)
    refine lv_iload_n hx hb dX3_levelTold_44 rfl (lv_at hl 2 rfl) ?_
    refine lv_iload_n hx hb dX3_levelTold_45 rfl (lv_at hl 7 rfl) ?_
    refine lv_iconst (v := nI 1) hx hb dX3_levelTold_46 (by decide) ?_
    refine h_icmp_ne (a := 2) (b := 1) (tgt := 58) hx hb dX3_levelTold_47 (by decide) (by omega) (by omega) (fun c_47 => ?_) (fun c_47 => absurd c_47 (by decide))
    refine lv_aload hx hb dX3_levelTold_58 (lv_at hl 0 rfl) ?_
    refine h_rdS (As := [.ref (row lz i)]) (rest := [.int (nI (snA (fun r => tbR (bG V lz r)) i))]) hF (c_X3_tombs l G hp (row lz i) (bG V lz i) (hm.crow (l := lz) (r := i) (by omega) (by omega))) 1 gX3_levelTold_X3_tombs rfl (by decide +kernel) ⟨Nat.le_of_ble_eq_true rfl, Nat.le_of_ble_eq_true rfl⟩ hK0 hV0 rfl hl.1 rfl (Nat.le_of_ble_eq_true rfl) (Nat.le_refl _) (Nat.le_refl _) dX3_levelTold_60 ?_
    refine h_iaddN hx hb dX3_levelTold_63 ?_
    refine lv_istore_n (lv' := [(3, .int (nI (snA (fun r => tbR (bG V lz r)) i + tbR (bG V lz i)))), (7, .ref (row lz i)), (6, .int (nI i)), (5, .int (nI (bN V lz))), (4, .ref (lvl lz)), (0, .ref mo), (1, .int (nI lz)), (2, .int (nI 2))]) hx hb dX3_levelTold_64 rfl hl (by decide) rfl (fun ls hl => ?_)
    refine lv_iinc (v := nI (i + 1)) (lv' := [(6, .int (nI (i + 1))), (3, .int (nI (snA (fun r => tbR (bG V lz r)) i + tbR (bG V lz i)))), (7, .ref (row lz i)), (5, .int (nI (bN V lz))), (4, .ref (lvl lz)), (0, .ref mo), (1, .int (nI lz)), (2, .int (nI 2))]) hx hb dX3_levelTold_65 hl (k := 2) rfl (nI_add (i) 1) (by decide) rfl (fun ls hl => ?_)
    refine lv_goto (tgt := 30) hx hb dX3_levelTold_68 (by decide) ?_
    exact ih30 (by omega) trivial ls (lv_sub hl [0, 1, 3, 4, 5, 6, 7] rfl)

set_option maxHeartbeats 1000000 in
set_option maxRecDepth 100000 in
theorem c_X3_slips (l : Launch) (G : hG) (hp : HP) (mo dk lv nb : Nat) (lvl : Nat → Nat) (row : Nat → Nat → Nat) (th : Int32) (d : Row) (V : BV) (rm dt : Int32) (hm : mA mo dk lv nb lvl row th d V rm dt hp) : hRd l yX3_slips wsX3_slips 2 52 G hp [.ref mo] (some (.int (nI (snA (fun l => ltS V l 1) 4)))) := by
  refine Met.ofW (cc := cX3_slips) (maxL := 3) (ret := (some .int)) (by decide) rfl ?_
  intro p e s m args below meth c s₁ B hml hv
  obtain ⟨rfl, hV0, hK0⟩ := hv
  have hx := B.exec
  have hb := B.bytes
  have hr := B.returns
  have hts := atoms_spec (ws := wsX3_slips) B.pre
  have hown : s.vm.findClass RX3 = some m.cls := findClass_of_methodNamed B.named
  have hlocks := B.notSynchronized
  have hF : CallFix p m c cX3_slips 3 s [.ref mo].toArray wsX3_slips RX3 := ⟨hx, hb, hml, hown, hts⟩
  have hl := lv_entry ([.ref mo]) (n := 3) (Nat.le_of_ble_eq_true rfl)
  rw [lg_entry_eq]
  generalize (lg_sl ([.ref mo]) ++ List.replicate (3 - (lg_sl ([.ref mo])).length) Slot.unset).toArray = ls at hl ⊢
  replace hl : lv_has ls 3 [(0, .ref mo)] := hl
  have hn := hm.le
  refine lv_iconst (v := nI 0) hx hb dX3_slips_0 (by decide) ?_
  refine lv_istore_n (lv' := [(1, .int (nI 0)), (0, .ref mo)]) hx hb dX3_slips_1 rfl hl (by decide) rfl (fun ls hl => ?_)
  refine lv_iconst (v := nI 0) hx hb dX3_slips_2 (by decide) ?_
  refine lv_istore_n (lv' := [(2, .int (nI 0)), (1, .int (nI 0)), (0, .ref mo)]) hx hb dX3_slips_3 rfl hl (by decide) rfl (fun ls hl => ?_)
  replace hl : lv_has ls 3 [(2, .int (nI 0)), (1, .int (nI (snA (fun l => ltS V l 1) 0))), (0, .ref mo)] := lv_sub hl [0, 1, 2] rfl
  revert ls
  refine h_loop 4 (fun i => [(2, .int (nI i)), (1, .int (nI (snA (fun l => ltS V l 1) i))), (0, .ref mo)]) (fun i => True) (fun i hi4 hI4 ih4 ls hl => ?_) 0 (Nat.zero_le _) trivial
  refine lv_iload_n hx hb dX3_slips_4 rfl (lv_at hl 0 rfl) ?_
  refine lv_iconst (v := nI 4) hx hb dX3_slips_5 (by decide) ?_
  refine h_icmp_ge (a := i) (b := 4) (tgt := 24) hx hb dX3_slips_6 (by decide) (by omega) (by omega) (fun c_6 => ?_) (fun c_6 => ?_)
  · refine lv_iload_n hx hb dX3_slips_24 rfl (lv_at hl 1 rfl) ?_
    exact h_iretR hx hb hr hlocks (by rw [show i = 4 by omega]) dX3_slips_25
  · refine lv_iload_n hx hb dX3_slips_9 rfl (lv_at hl 1 rfl) ?_
    refine lv_aload_n hx hb dX3_slips_10 rfl (lv_at hl 2 rfl) ?_
    refine lv_iload_n hx hb dX3_slips_11 rfl (lv_at hl 0 rfl) ?_
    refine lv_iconst (v := nI 1) hx hb dX3_slips_12 (by decide) ?_
    refine h_rdV (As := [.int (nI i), .int (nI 1)]) (rest := [.int (nI (snA (fun l => ltS V l 1) i))]) hF (c_X3_levelTold1 l G hp mo dk lv nb lvl row th d V rm dt hm i (by omega)) 2 gX3_slips_X3_levelTold rfl (by decide +kernel) ⟨Nat.le_of_ble_eq_true rfl, Nat.le_of_ble_eq_true rfl⟩ hK0 hV0 hm.cmo rfl rfl rfl hl.1 rfl (Nat.le_of_ble_eq_true rfl) (Nat.le_refl _) (Nat.le_refl _) dX3_slips_13 ?_
    refine h_iaddN hx hb dX3_slips_16 ?_
    refine lv_istore_n (lv' := [(1, .int (nI (snA (fun l => ltS V l 1) i + ltS V i 1))), (2, .int (nI i)), (0, .ref mo)]) hx hb dX3_slips_17 rfl hl (by decide) rfl (fun ls hl => ?_)
    refine lv_iinc (v := nI (i + 1)) (lv' := [(2, .int (nI (i + 1))), (1, .int (nI (snA (fun l => ltS V l 1) i + ltS V i 1))), (0, .ref mo)]) hx hb dX3_slips_18 hl (k := 1) rfl (nI_add (i) 1) (by decide) rfl (fun ls hl => ?_)
    refine lv_goto (tgt := 4) hx hb dX3_slips_21 (by decide) ?_
    exact ih4 (by omega) trivial ls (lv_sub hl [0, 1, 2] rfl)

set_option maxHeartbeats 1000000 in
set_option maxRecDepth 100000 in
theorem c_X3_counted (l : Launch) (G : hG) (hp : HP) (mo dk lv nb : Nat) (lvl : Nat → Nat) (row : Nat → Nat → Nat) (th : Int32) (d : Row) (V : BV) (rm dt : Int32) (hm : mA mo dk lv nb lvl row th d V rm dt hp) (wh : Nat) (hw7 : wh < 7) : hRd l yX3_counted wsX3_counted 3 74 G hp [.ref mo, .int (nI wh)] (some (.int (tlS d (bN V) (bG V) rm (bM V) dt (bK V) wh))) := by
  refine Met.ofW (cc := cX3_counted) (maxL := 4) (ret := (some .int)) (by decide) rfl ?_
  intro p e s m args below meth c s₁ B hml hv
  obtain ⟨rfl, hV0, hK0⟩ := hv
  have hx := B.exec
  have hb := B.bytes
  have hr := B.returns
  have hts := atoms_spec (ws := wsX3_counted) B.pre
  have hown : s.vm.findClass RX3 = some m.cls := findClass_of_methodNamed B.named
  have hlocks := B.notSynchronized
  have hF : CallFix p m c cX3_counted 4 s [.ref mo, .int (nI wh)].toArray wsX3_counted RX3 := ⟨hx, hb, hml, hown, hts⟩
  have hw0 := hts (.fieldLink RX3 13 "SlipLevelsModel" "desk" "[I") (by decide +kernel)
  have hw1 := hts (.fieldLink RX3 24 "SlipLevelsModel" "numbers" "[I") (by decide +kernel)
  have hi3 : ∀ w ∈ u_ws RX3 TX3 4, w ∈ wsX3_counted := by
    intro w h
    unfold wsX3_counted
    simp only [List.mem_cons, List.mem_append, h, true_or, or_true]
  have hl := lv_entry ([.ref mo, .int (nI wh)]) (n := 4) (Nat.le_of_ble_eq_true rfl)
  rw [lg_entry_eq]
  generalize (lg_sl ([.ref mo, .int (nI wh)]) ++ List.replicate (4 - (lg_sl ([.ref mo, .int (nI wh)])).length) Slot.unset).toArray = ls at hl ⊢
  replace hl : lv_has ls 4 [(0, .ref mo), (1, .int (nI wh))] := hl
  have hn := hm.le
  refine lv_iload_n hx hb dX3_counted_0 rfl (lv_at hl 1 rfl) ?_
  rcases (show wh = 0 ∨ wh = 1 ∨ wh = 2 ∨ wh = 3 ∨ wh = 4 ∨ wh = 5 ∨ wh = 6 by omega) with hq | hq | hq | hq | hq | hq | hq
  · subst hq
    refine lv_tableIn (off := 39) (tgt := 40) hx hb dX3_counted_1 (by decide) (by decide) (by decide) (by decide) ?_
    refine lv_aload_n hx hb dX3_counted_40 rfl (lv_at hl 0 rfl) ?_
    refine h_get (v := .ref dk) hx hb hts hi3 hown hK0 hV0 hm.cmo rfl 1 (by decide) hw0 rfl dX3_counted_41 ?_
    refine h_rdS (As := [.ref dk]) (rest := []) hF (c_X3_size l G hp dk d hm.cdk) 1 gX3_counted_X3_size rfl (by decide +kernel) ⟨Nat.le_of_ble_eq_true rfl, Nat.le_of_ble_eq_true rfl⟩ hK0 hV0 rfl hl.1 rfl (Nat.le_of_ble_eq_true rfl) (Nat.le_refl _) (Nat.le_refl _) dX3_counted_44 ?_
    exact h_iretR hx hb hr hlocks rfl dX3_counted_47
  · subst hq
    refine lv_tableIn (off := 47) (tgt := 48) hx hb dX3_counted_1 (by decide) (by decide) (by decide) (by decide) ?_
    refine lv_aload_n hx hb dX3_counted_48 rfl (lv_at hl 0 rfl) ?_
    refine h_get (v := .ref nb) hx hb hts hi3 hown hK0 hV0 hm.cmo rfl 3 (by decide) hw1 rfl dX3_counted_49 ?_
    refine lv_iconst (v := nI 0) hx hb dX3_counted_52 (by decide) ?_
    refine h_ialdN (i := 0) (x := rm) hm.cnb rfl (by omega) hx hb hK0 hV0 dX3_counted_53 ?_
    exact h_iretR hx hb hr hlocks rfl dX3_counted_54
  · subst hq
    refine lv_tableIn (off := 54) (tgt := 55) hx hb dX3_counted_1 (by decide) (by decide) (by decide) (by decide) ?_
    refine lv_aload_n hx hb dX3_counted_55 rfl (lv_at hl 0 rfl) ?_
    refine h_rdV (As := []) (rest := []) hF (c_X3_slips l G hp mo dk lv nb lvl row th d V rm dt hm) 0 gX3_counted_X3_slips rfl (by decide +kernel) ⟨Nat.le_of_ble_eq_true rfl, Nat.le_of_ble_eq_true rfl⟩ hK0 hV0 hm.cmo rfl rfl rfl hl.1 rfl (Nat.le_of_ble_eq_true rfl) (Nat.le_refl _) (Nat.le_refl _) dX3_counted_56 ?_
    exact h_iretR hx hb hr hlocks rfl dX3_counted_59
  · subst hq
    refine lv_tableIn (off := 59) (tgt := 60) hx hb dX3_counted_1 (by decide) (by decide) (by decide) (by decide) ?_
    refine lv_iconst (v := nI 0) hx hb dX3_counted_60 (by decide) ?_
    refine lv_istore_n (lv' := [(2, .int (nI 0)), (0, .ref mo), (1, .int (nI 3))]) hx hb dX3_counted_61 rfl hl (by decide) rfl (fun ls hl => ?_)
    refine lv_iconst (v := nI 0) hx hb dX3_counted_62 (by decide) ?_
    refine lv_istore_n (lv' := [(3, .int (nI 0)), (2, .int (nI 0)), (0, .ref mo), (1, .int (nI 3))]) hx hb dX3_counted_63 rfl hl (by decide) rfl (fun ls hl => ?_)
    replace hl : lv_has ls 4 [(3, .int (nI 0)), (2, .int (nI (cntB (fun x => decide (0 ≤ wdS d (bN V) (bG V) x)) 0))), (0, .ref mo)] := lv_sub hl [0, 1, 2] rfl
    revert ls
    refine h_loop 64 (fun i => [(3, .int (nI i)), (2, .int (nI (cntB (fun x => decide (0 ≤ wdS d (bN V) (bG V) x)) i))), (0, .ref mo)]) (fun i => True) (fun i hi64 hI64 ih64 ls hl => ?_) 0 (Nat.zero_le _) trivial
    refine lv_iload_n hx hb dX3_counted_64 rfl (lv_at hl 0 rfl) ?_
    refine lv_bipush (v := nI 64) hx hb dX3_counted_65 (by decide) ?_
    refine h_icmp_ge (a := i) (b := 64) (tgt := 93) hx hb dX3_counted_67 (by decide) (by omega) (by omega) (fun c_67 => ?_) (fun c_67 => ?_)
    · refine lv_iload_n hx hb dX3_counted_93 rfl (lv_at hl 1 rfl) ?_
      exact h_iretR hx hb hr hlocks (by rw [show i = 64 by omega]; rfl) dX3_counted_94
    · refine lv_iload_n hx hb dX3_counted_70 rfl (lv_at hl 1 rfl) ?_
      refine lv_aload_n hx hb dX3_counted_71 rfl (lv_at hl 2 rfl) ?_
      refine lv_iload_n hx hb dX3_counted_72 rfl (lv_at hl 0 rfl) ?_
      refine h_rdV (As := [.int (nI i)]) (rest := [.int (nI (cntB (fun x => decide (0 ≤ wdS d (bN V) (bG V) x)) i))]) hF (c_X3_word l G hp mo dk lv nb lvl row th d V rm dt hm i (by omega)) 1 gX3_counted_X3_word rfl (by decide +kernel) ⟨Nat.le_of_ble_eq_true rfl, Nat.le_of_ble_eq_true rfl⟩ hK0 hV0 hm.cmo rfl rfl rfl hl.1 rfl (Nat.le_of_ble_eq_true rfl) (Nat.le_refl _) (Nat.le_refl _) dX3_counted_73 ?_
      refine lv_iconst (v := (-1)) hx hb dX3_counted_76 (by decide) ?_
      refine lv_icmp_ne (tgt := 84) hx hb dX3_counted_77 (by decide) (fun c_77 => ?_) (fun c_77 => ?_)
      · refine lv_iconst (v := nI 1) hx hb dX3_counted_84 (by decide) ?_
        refine h_iaddN hx hb dX3_counted_85 ?_
        refine lv_istore_n (lv' := [(2, .int (nI (cntB (fun x => decide (0 ≤ wdS d (bN V) (bG V) x)) i + 1))), (3, .int (nI i)), (0, .ref mo)]) hx hb dX3_counted_86 rfl hl (by decide) rfl (fun ls hl => ?_)
        refine lv_iinc (v := nI (i + 1)) (lv' := [(3, .int (nI (i + 1))), (2, .int (nI (cntB (fun x => decide (0 ≤ wdS d (bN V) (bG V) x)) i + 1))), (0, .ref mo)]) hx hb dX3_counted_87 hl (k := 1) rfl (nI_add (i) 1) (by decide) rfl (fun ls hl => ?_)
        refine lv_goto (tgt := 64) hx hb dX3_counted_90 (by decide) ?_
        exact ih64 (by omega) trivial ls (by show lv_has ls 4 [(3, .int (nI (i + 1))), (2, .int (nI (cntB (fun x => decide (0 ≤ wdS d (bN V) (bG V) x)) (i + 1)))), (0, .ref mo)]; rw [cntB_y (p := (fun x => decide (0 ≤ wdS d (bN V) (bG V) x))) (wd_nn c_77)]; exact lv_sub hl [0, 1, 2] rfl)
      · refine lv_iconst (v := nI 0) hx hb dX3_counted_80 (by decide) ?_
        refine lv_goto (tgt := 85) hx hb dX3_counted_81 (by decide) ?_
        refine h_iaddN hx hb dX3_counted_85 ?_
        refine lv_istore_n (lv' := [(2, .int (nI (cntB (fun x => decide (0 ≤ wdS d (bN V) (bG V) x)) i + 0))), (3, .int (nI i)), (0, .ref mo)]) hx hb dX3_counted_86 rfl hl (by decide) rfl (fun ls hl => ?_)
        refine lv_iinc (v := nI (i + 1)) (lv' := [(3, .int (nI (i + 1))), (2, .int (nI (cntB (fun x => decide (0 ≤ wdS d (bN V) (bG V) x)) i + 0))), (0, .ref mo)]) hx hb dX3_counted_87 hl (k := 1) rfl (nI_add (i) 1) (by decide) rfl (fun ls hl => ?_)
        refine lv_goto (tgt := 64) hx hb dX3_counted_90 (by decide) ?_
        exact ih64 (by omega) trivial ls (by show lv_has ls 4 [(3, .int (nI (i + 1))), (2, .int (nI (cntB (fun x => decide (0 ≤ wdS d (bN V) (bG V) x)) (i + 1)))), (0, .ref mo)]; rw [cntB_n (p := (fun x => decide (0 ≤ wdS d (bN V) (bG V) x))) (wd_n1 c_77)]; exact lv_sub hl [0, 1, 2] rfl)
  · subst hq
    refine lv_tableIn (off := 94) (tgt := 95) hx hb dX3_counted_1 (by decide) (by decide) (by decide) (by decide) ?_
    refine lv_aload_n hx hb dX3_counted_95 rfl (lv_at hl 0 rfl) ?_
    refine h_get (v := .ref nb) hx hb hts hi3 hown hK0 hV0 hm.cmo rfl 3 (by decide) hw1 rfl dX3_counted_96 ?_
    refine lv_iconst (v := nI 1) hx hb dX3_counted_99 (by decide) ?_
    refine h_ialdN (i := 1) (x := bM V) hm.cnb rfl (by omega) hx hb hK0 hV0 dX3_counted_100 ?_
    exact h_iretR hx hb hr hlocks rfl dX3_counted_101
  · subst hq
    refine lv_tableIn (off := 101) (tgt := 102) hx hb dX3_counted_1 (by decide) (by decide) (by decide) (by decide) ?_
    refine lv_aload_n hx hb dX3_counted_102 rfl (lv_at hl 0 rfl) ?_
    refine h_get (v := .ref nb) hx hb hts hi3 hown hK0 hV0 hm.cmo rfl 3 (by decide) hw1 rfl dX3_counted_103 ?_
    refine lv_iconst (v := nI 2) hx hb dX3_counted_106 (by decide) ?_
    refine h_ialdN (i := 2) (x := dt) hm.cnb rfl (by omega) hx hb hK0 hV0 dX3_counted_107 ?_
    exact h_iretR hx hb hr hlocks rfl dX3_counted_108
  · subst hq
    refine lv_tableOut (tgt := 109) hx hb dX3_counted_1 (Or.inr (by decide)) (by decide) ?_
    refine lv_aload_n hx hb dX3_counted_109 rfl (lv_at hl 0 rfl) ?_
    refine h_get (v := .ref nb) hx hb hts hi3 hown hK0 hV0 hm.cmo rfl 3 (by decide) hw1 rfl dX3_counted_110 ?_
    refine lv_iconst (v := nI 3) hx hb dX3_counted_113 (by decide) ?_
    refine h_ialdN (i := 3) (x := bK V) hm.cnb rfl (by omega) hx hb hK0 hV0 dX3_counted_114 ?_
    exact h_iretR hx hb hr hlocks rfl dX3_counted_115

set_option maxHeartbeats 1000000 in
set_option maxRecDepth 100000 in
theorem c_X3_isRun (l : Launch) (G : hG) (hp : HP) (mo dk lv nb : Nat) (lvl : Nat → Nat) (row : Nat → Nat → Nat) (th : Int32) (d : Row) (V : BV) (rm dt : Int32) (hm : mA mo dk lv nb lvl row th d V rm dt hp) (lz r : Nat) (hl4 : lz < 4) (hr0 : r < bN V lz) : hRd l yX3_isRun wsX3_isRun 2 42 G hp [.ref mo, .int (nI lz), .int (nI r)] (some (.int (bI true))) := by
  refine Met.ofW (cc := cX3_isRun) (maxL := 3) (ret := (some .boolean)) (by decide) rfl ?_
  intro p e s m args below meth c s₁ B hml hv
  obtain ⟨rfl, hV0, hK0⟩ := hv
  have hx := B.exec
  have hb := B.bytes
  have hr := B.returns
  have hts := atoms_spec (ws := wsX3_isRun) B.pre
  have hown : s.vm.findClass RX3 = some m.cls := findClass_of_methodNamed B.named
  have hlocks := B.notSynchronized
  have hF : CallFix p m c cX3_isRun 3 s [.ref mo, .int (nI lz), .int (nI r)].toArray wsX3_isRun RX3 := ⟨hx, hb, hml, hown, hts⟩
  have hw0 := hts (.fieldLink RX3 20 "SlipLevelsModel" "levels" "[[[I") (by decide +kernel)
  have hi3 : ∀ w ∈ u_ws RX3 TX3 4, w ∈ wsX3_isRun := by
    intro w h
    unfold wsX3_isRun
    simp only [List.mem_cons, List.mem_append, h, true_or, or_true]
  have hl := lv_entry ([.ref mo, .int (nI lz), .int (nI r)]) (n := 3) (Nat.le_of_ble_eq_true rfl)
  rw [lg_entry_eq]
  generalize (lg_sl ([.ref mo, .int (nI lz), .int (nI r)]) ++ List.replicate (3 - (lg_sl ([.ref mo, .int (nI lz), .int (nI r)])).length) Slot.unset).toArray = ls at hl ⊢
  replace hl : lv_has ls 3 [(0, .ref mo), (1, .int (nI lz)), (2, .int (nI r))] := hl
  have hn := hm.le
  have hnl := hn lz
  refine lv_iload_n hx hb dX3_isRun_0 rfl (lv_at hl 1 rfl) ?_
  refine h_rdS (As := [.int (nI lz)]) (rest := []) hF (c_X3_isLevel l G hp (nI lz)) 1 gX3_isRun_X3_isLevel rfl (by decide +kernel) ⟨Nat.le_of_ble_eq_true rfl, Nat.le_of_ble_eq_true rfl⟩ hK0 hV0 rfl hl.1 rfl (Nat.le_of_ble_eq_true rfl) (Nat.le_refl _) (Nat.le_refl _) dX3_isRun_1 ?_
  refine h_if_eqB (tgt := 28) hx hb dX3_isRun_4 (by decide) (fun c_4 => absurd ((isN_y (x := lz) (c := 3) (by omega) (by omega)).symm.trans c_4) (by decide)) (fun c_4 => ?_)
  refine lv_iload_n hx hb dX3_isRun_7 rfl (lv_at hl 2 rfl) ?_
  refine lv_iconst (v := nI 0) hx hb dX3_isRun_8 (by decide) ?_
  refine lv_aload_n hx hb dX3_isRun_9 rfl (lv_at hl 0 rfl) ?_
  refine h_get (v := .ref lv) hx hb hts hi3 hown hK0 hV0 hm.cmo rfl 2 (by decide) hw0 rfl dX3_isRun_10 ?_
  refine lv_iload_n hx hb dX3_isRun_13 rfl (lv_at hl 1 rfl) ?_
  refine h_aaldE (i := lz) hm.clv hx hb hK0 hV0 rfl rfl (by omega) (by omega) dX3_isRun_14 ?_
  refine h_alenQ (hm.clvl (l := lz) (by omega)) hx hb hK0 hV0 rfl dX3_isRun_15 ?_
  refine lv_iconst (v := nI 1) hx hb dX3_isRun_16 (by decide) ?_
  refine lv_isub hx hb dX3_isRun_17 ?_
  refine h_rdS (As := [.int (nI r), .int (nI 0), .int (nI (bN V lz) - nI 1)]) (rest := []) hF (c_X3_isIn l G hp (nI r) (nI 0) ((nI (bN V lz) - nI 1))) 3 gX3_isRun_X3_isIn rfl (by decide +kernel) ⟨Nat.le_of_ble_eq_true rfl, Nat.le_of_ble_eq_true rfl⟩ hK0 hV0 rfl hl.1 rfl (Nat.le_of_ble_eq_true rfl) (Nat.le_refl _) (Nat.le_refl _) dX3_isRun_18 ?_
  refine h_if_eqB (tgt := 28) hx hb dX3_isRun_21 (by decide) (fun c_21 => absurd ((isR_y (k := r) (n := bN V lz) (by omega) (by omega)).symm.trans c_21) (by decide)) (fun c_21 => ?_)
  refine lv_iconst (v := nI 1) hx hb dX3_isRun_24 (by decide) ?_
  refine lv_goto (tgt := 29) hx hb dX3_isRun_25 (by decide) ?_
  exact h_zretR hx hb hr hlocks rfl dX3_isRun_29

set_option maxHeartbeats 1000000 in
set_option maxRecDepth 100000 in
theorem c_X3_isRunR (l : Launch) (G : hG) (hp : HP) (mo dk lv nb : Nat) (lvl : Nat → Nat) (row : Nat → Nat → Nat) (th : Int32) (d : Row) (V : BV) (rm dt : Int32) (hm : mA mo dk lv nb lvl row th d V rm dt hp) (lz : Nat) (hl4 : lz < 4) (y : Int32) (hb0 : y < 0 ∨ nI (bN V lz) ≤ y) : hRd l yX3_isRun wsX3_isRun 2 42 G hp [.ref mo, .int (nI lz), .int y] (some (.int (bI false))) := by
  refine Met.ofW (cc := cX3_isRun) (maxL := 3) (ret := (some .boolean)) (by decide) rfl ?_
  intro p e s m args below meth c s₁ B hml hv
  obtain ⟨rfl, hV0, hK0⟩ := hv
  have hx := B.exec
  have hb := B.bytes
  have hr := B.returns
  have hts := atoms_spec (ws := wsX3_isRun) B.pre
  have hown : s.vm.findClass RX3 = some m.cls := findClass_of_methodNamed B.named
  have hlocks := B.notSynchronized
  have hF : CallFix p m c cX3_isRun 3 s [.ref mo, .int (nI lz), .int y].toArray wsX3_isRun RX3 := ⟨hx, hb, hml, hown, hts⟩
  have hw0 := hts (.fieldLink RX3 20 "SlipLevelsModel" "levels" "[[[I") (by decide +kernel)
  have hi3 : ∀ w ∈ u_ws RX3 TX3 4, w ∈ wsX3_isRun := by
    intro w h
    unfold wsX3_isRun
    simp only [List.mem_cons, List.mem_append, h, true_or, or_true]
  have hl := lv_entry ([.ref mo, .int (nI lz), .int y]) (n := 3) (Nat.le_of_ble_eq_true rfl)
  rw [lg_entry_eq]
  generalize (lg_sl ([.ref mo, .int (nI lz), .int y]) ++ List.replicate (3 - (lg_sl ([.ref mo, .int (nI lz), .int y])).length) Slot.unset).toArray = ls at hl ⊢
  replace hl : lv_has ls 3 [(0, .ref mo), (1, .int (nI lz)), (2, .int y)] := hl
  have hn := hm.le
  have hnl := hn lz
  refine lv_iload_n hx hb dX3_isRun_0 rfl (lv_at hl 1 rfl) ?_
  refine h_rdS (As := [.int (nI lz)]) (rest := []) hF (c_X3_isLevel l G hp (nI lz)) 1 gX3_isRun_X3_isLevel rfl (by decide +kernel) ⟨Nat.le_of_ble_eq_true rfl, Nat.le_of_ble_eq_true rfl⟩ hK0 hV0 rfl hl.1 rfl (Nat.le_of_ble_eq_true rfl) (Nat.le_refl _) (Nat.le_refl _) dX3_isRun_1 ?_
  refine h_if_eqB (tgt := 28) hx hb dX3_isRun_4 (by decide) (fun c_4 => absurd ((isN_y (x := lz) (c := 3) (by omega) (by omega)).symm.trans c_4) (by decide)) (fun c_4 => ?_)
  refine lv_iload_n hx hb dX3_isRun_7 rfl (lv_at hl 2 rfl) ?_
  refine lv_iconst (v := nI 0) hx hb dX3_isRun_8 (by decide) ?_
  refine lv_aload_n hx hb dX3_isRun_9 rfl (lv_at hl 0 rfl) ?_
  refine h_get (v := .ref lv) hx hb hts hi3 hown hK0 hV0 hm.cmo rfl 2 (by decide) hw0 rfl dX3_isRun_10 ?_
  refine lv_iload_n hx hb dX3_isRun_13 rfl (lv_at hl 1 rfl) ?_
  refine h_aaldE (i := lz) hm.clv hx hb hK0 hV0 rfl rfl (by omega) (by omega) dX3_isRun_14 ?_
  refine h_alenQ (hm.clvl (l := lz) (by omega)) hx hb hK0 hV0 rfl dX3_isRun_15 ?_
  refine lv_iconst (v := nI 1) hx hb dX3_isRun_16 (by decide) ?_
  refine lv_isub hx hb dX3_isRun_17 ?_
  refine h_rdS (As := [.int y, .int (nI 0), .int (nI (bN V lz) - nI 1)]) (rest := []) hF (c_X3_isIn l G hp (y) (nI 0) ((nI (bN V lz) - nI 1))) 3 gX3_isRun_X3_isIn rfl (by decide +kernel) ⟨Nat.le_of_ble_eq_true rfl, Nat.le_of_ble_eq_true rfl⟩ hK0 hV0 rfl hl.1 rfl (Nat.le_of_ble_eq_true rfl) (Nat.le_refl _) (Nat.le_refl _) dX3_isRun_18 ?_
  refine h_if_eqB (tgt := 28) hx hb dX3_isRun_21 (by decide) (fun c_21 => ?_) (fun c_21 => absurd ((isR_n hb0 (by omega)).symm.trans c_21) (by decide))
  refine lv_iconst (v := nI 0) hx hb dX3_isRun_28 (by decide) ?_
  exact h_zretR hx hb hr hlocks rfl dX3_isRun_29

set_option maxHeartbeats 1000000 in
set_option maxRecDepth 100000 in
theorem c_X3_isRunL (l : Launch) (G : hG) (hp : HP) (mo dk lv nb : Nat) (lvl : Nat → Nat) (row : Nat → Nat → Nat) (th : Int32) (d : Row) (V : BV) (rm dt : Int32) (hm : mA mo dk lv nb lvl row th d V rm dt hp) (x y : Int32) (hb0 : x < 0 ∨ nI 4 ≤ x) : hRd l yX3_isRun wsX3_isRun 2 42 G hp [.ref mo, .int x, .int y] (some (.int (bI false))) := by
  refine Met.ofW (cc := cX3_isRun) (maxL := 3) (ret := (some .boolean)) (by decide) rfl ?_
  intro p e s m args below meth c s₁ B hml hv
  obtain ⟨rfl, hV0, hK0⟩ := hv
  have hx := B.exec
  have hb := B.bytes
  have hr := B.returns
  have hts := atoms_spec (ws := wsX3_isRun) B.pre
  have hown : s.vm.findClass RX3 = some m.cls := findClass_of_methodNamed B.named
  have hlocks := B.notSynchronized
  have hF : CallFix p m c cX3_isRun 3 s [.ref mo, .int x, .int y].toArray wsX3_isRun RX3 := ⟨hx, hb, hml, hown, hts⟩
  have hl := lv_entry ([.ref mo, .int x, .int y]) (n := 3) (Nat.le_of_ble_eq_true rfl)
  rw [lg_entry_eq]
  generalize (lg_sl ([.ref mo, .int x, .int y]) ++ List.replicate (3 - (lg_sl ([.ref mo, .int x, .int y])).length) Slot.unset).toArray = ls at hl ⊢
  replace hl : lv_has ls 3 [(0, .ref mo), (1, .int x), (2, .int y)] := hl
  have hn := hm.le
  refine lv_iload_n hx hb dX3_isRun_0 rfl (lv_at hl 1 rfl) ?_
  refine h_rdS (As := [.int x]) (rest := []) hF (c_X3_isLevel l G hp (x)) 1 gX3_isRun_X3_isLevel rfl (by decide +kernel) ⟨Nat.le_of_ble_eq_true rfl, Nat.le_of_ble_eq_true rfl⟩ hK0 hV0 rfl hl.1 rfl (Nat.le_of_ble_eq_true rfl) (Nat.le_refl _) (Nat.le_refl _) dX3_isRun_1 ?_
  refine h_if_eqB (tgt := 28) hx hb dX3_isRun_4 (by decide) (fun c_4 => ?_) (fun c_4 => absurd ((isN_n (c := 3) hb0 (by omega)).symm.trans c_4) (by decide))
  refine lv_iconst (v := nI 0) hx hb dX3_isRun_28 (by decide) ?_
  exact h_zretR hx hb hr hlocks rfl dX3_isRun_29
