theorem c_X3_endL (l : Launch) (G : hG) (hp : HP) (a : Nat) (f : Row) (hmr : mR hp a f) (hz : 0 < szR f) : hRd l yX3_end wsX3_end 0 0 G hp [.ref a, .int (nI 0), .int (nI 1)] (some (.int (nI (lsR f)))) :=
  c_X3_endU l G hp a f hmr 0 (lsR f) (Nat.zero_le _) (ls_at hz).1 (ls_at hz).2.1 (ls_at hz).2.2
theorem c_X3_endG (l : Launch) (G : hG) (hp : HP) (a : Nat) (f : Row) (hmr : mR hp a f) (hz : 0 < szR f) : hRd l yX3_end wsX3_end 0 0 G hp [.ref a, .int (nI 63), .int (-1)] (some (.int (grR f))) := by
  obtain ⟨y, h1, h2, h3, h4⟩ := gr_at hz
  rw [h2]
  exact c_X3_endD l G hp a f hmr y h1 h3 h4
set_option maxHeartbeats 1000000 in
set_option maxRecDepth 100000 in
theorem c_X3_said (l : Launch) (G : hG) (hp : HP) (mo dk lv nb : Nat) (lvl : Nat → Nat) (row : Nat → Nat → Nat) (th : Int32) (d : Row) (V : BV) (rm dt : Int32) (hm : mA mo dk lv nb lvl row th d V rm dt hp) (x : Nat) (hx6 : x < 64) : hRd l yX3_said wsX3_said 0 0 G hp [.ref mo, .int (nI x)] (some (.int (sw (wd0 d (bN V) (bG V) x)))) := by
  refine Met.ofW (cc := cX3_said) (maxL := 10) (ret := (some .int)) (by decide) rfl ?_
  intro p e s m args below meth c s₁ B hml hv
  obtain ⟨rfl, hV0, hK0⟩ := hv
  have hx := B.exec
  have hb := B.bytes
  have hr := B.returns
  have hts := atoms_spec (ws := wsX3_said) B.pre
  have hown : s.vm.findClass RX3 = some m.cls := findClass_of_methodNamed B.named
  have hlocks := B.notSynchronized
  have hF : CallFix p m c cX3_said 10 s [.ref mo, .int (nI x)].toArray wsX3_said RX3 := ⟨hx, hb, hml, hown, hts⟩
  have hw0 := hts (.fieldLink RX3 13 "SlipLevelsModel" "desk" "[I") (by decide +kernel)
  have hw1 := hts (.fieldLink RX3 20 "SlipLevelsModel" "levels" "[[[I") (by decide +kernel)
  have hi3 : ∀ w ∈ u_ws RX3 TX3 4, w ∈ wsX3_said := by
    intro w h
    unfold wsX3_said
    simp only [List.mem_cons, List.mem_append, h, true_or, or_true]
  have hl := lv_entry ([.ref mo, .int (nI x)]) (n := 10) (Nat.le_of_ble_eq_true rfl)
  rw [lg_entry_eq]
  generalize (lg_sl ([.ref mo, .int (nI x)]) ++ List.replicate (10 - (lg_sl ([.ref mo, .int (nI x)])).length) Slot.unset).toArray = ls at hl ⊢
  replace hl : lv_has ls 10 [(0, .ref mo), (1, .int (nI x))] := hl
  have hn := hm.le
  refine lv_aload_n hx hb dX3_said_0 rfl (lv_at hl 0 rfl) ?_
  refine h_get (v := .ref dk) hx hb hts hi3 hown hK0 hV0 hm.cmo rfl 1 (by decide) hw0 rfl dX3_said_1 ?_
  refine lv_iload_n hx hb dX3_said_4 rfl (lv_at hl 1 rfl) ?_
  refine h_ialdE (i := x) hm.cdk hx hb hK0 hV0 (by omega) dX3_said_5 ?_
  refine lv_iconst (v := (-1)) hx hb dX3_said_6 (by decide) ?_
  refine lv_icmp_eq (tgt := 17) hx hb dX3_said_7 (by decide) (fun c_7 => ?_) (fun c_7 => ?_)
  · refine lv_aload_n hx hb dX3_said_17 rfl (lv_at hl 0 rfl) ?_
    refine h_get (v := .ref lv) hx hb hts hi3 hown hK0 hV0 hm.cmo rfl 2 (by decide) hw1 rfl dX3_said_18 ?_
    refine lv_astore_n (lv' := [(2, .ref lv), (0, .ref mo), (1, .int (nI x))]) hx hb dX3_said_21 rfl hl (by decide) rfl (fun ls hl => ?_)
    refine lv_aload_n hx hb dX3_said_22 rfl (lv_at hl 0 rfl) ?_
    refine h_alenQ hm.clv hx hb hK0 hV0 rfl dX3_said_23 ?_
    refine lv_istore_n (lv' := [(3, .int (nI 4)), (2, .ref lv), (0, .ref mo), (1, .int (nI x))]) hx hb dX3_said_24 rfl hl (by decide) rfl (fun ls hl => ?_)
    refine lv_iconst (v := nI 0) hx hb dX3_said_25 (by decide) ?_
    refine lv_istore (lv' := [(4, .int (nI 0)), (3, .int (nI 4)), (2, .ref lv), (0, .ref mo), (1, .int (nI x))]) hx hb dX3_said_26 hl (by decide) rfl (fun ls hl => ?_)
    replace hl : lv_has ls 10 [(4, .int (nI 0)), (3, .int (nI 4)), (2, .ref lv), (0, .ref mo), (1, .int (nI x))] := lv_sub hl [0, 1, 2, 3, 4] rfl
    revert ls
    refine h_loop 4 (fun i => [(4, .int (nI i)), (3, .int (nI 4)), (2, .ref lv), (0, .ref mo), (1, .int (nI x))]) (fun i => ∀ l2, l2 < i → fsL (bG V l2) x (bN V l2) 0 = -2) (fun i hi28 hI28 ih28 ls hl => ?_) 0 (Nat.zero_le _) (fun l2 h => absurd h (Nat.not_lt_zero l2))
    refine lv_iload hx hb dX3_said_28 (lv_at hl 0 rfl) ?_
    refine lv_iload_n hx hb dX3_said_30 rfl (lv_at hl 1 rfl) ?_
    refine h_icmp_ge (a := i) (b := 4) (tgt := 91) hx hb dX3_said_31 (by decide) (by omega) (by omega) (fun c_31 => ?_) (fun c_31 => ?_)
    · refine lv_iconst (v := (-1)) hx hb dX3_said_91 (by decide) ?_
      exact h_iretR hx hb hr hlocks (by rw [wd0_y (sw_n1.mp c_7), fsA_none (fun l2 _ h => hI28 l2 (by omega)), sw_2]) dX3_said_92
    · have hni := hn i
      refine lv_aload_n hx hb dX3_said_34 rfl (lv_at hl 2 rfl) ?_
      refine lv_iload hx hb dX3_said_35 (lv_at hl 0 rfl) ?_
      refine h_aaldE (i := i) hm.clv hx hb hK0 hV0 rfl rfl (by omega) (by omega) dX3_said_37 ?_
      refine lv_astore (lv' := [(5, .ref (lvl i)), (4, .int (nI i)), (3, .int (nI 4)), (2, .ref lv), (0, .ref mo), (1, .int (nI x))]) hx hb dX3_said_38 hl (by decide) rfl (fun ls hl => ?_)
      refine lv_aload hx hb dX3_said_40 (lv_at hl 0 rfl) ?_
      refine lv_astore (lv' := [(6, .ref (lvl i)), (5, .ref (lvl i)), (4, .int (nI i)), (3, .int (nI 4)), (2, .ref lv), (0, .ref mo), (1, .int (nI x))]) hx hb dX3_said_42 hl (by decide) rfl (fun ls hl => ?_)
      refine lv_aload hx hb dX3_said_44 (lv_at hl 0 rfl) ?_
      refine h_alenQ (hm.clvl (l := i) (by omega)) hx hb hK0 hV0 rfl dX3_said_46 ?_
      refine lv_istore (lv' := [(7, .int (nI (bN V i))), (6, .ref (lvl i)), (5, .ref (lvl i)), (4, .int (nI i)), (3, .int (nI 4)), (2, .ref lv), (0, .ref mo), (1, .int (nI x))]) hx hb dX3_said_47 hl (by decide) rfl (fun ls hl => ?_)
      refine lv_iconst (v := nI 0) hx hb dX3_said_49 (by decide) ?_
      refine lv_istore (lv' := [(8, .int (nI 0)), (7, .int (nI (bN V i))), (6, .ref (lvl i)), (5, .ref (lvl i)), (4, .int (nI i)), (3, .int (nI 4)), (2, .ref lv), (0, .ref mo), (1, .int (nI x))]) hx hb dX3_said_50 hl (by decide) rfl (fun ls hl => ?_)
      replace hl : lv_has ls 10 [(8, .int (nI 0)), (7, .int (nI (bN V i))), (6, .ref (lvl i)), (4, .int (nI i)), (3, .int (nI 4)), (2, .ref lv), (0, .ref mo), (1, .int (nI x))] := lv_sub hl [0, 1, 2, 4, 5, 6, 7, 8] rfl
      revert ls
      refine h_loop (bN V i) (fun j => [(8, .int (nI j)), (7, .int (nI (bN V i))), (6, .ref (lvl i)), (4, .int (nI i)), (3, .int (nI 4)), (2, .ref lv), (0, .ref mo), (1, .int (nI x))]) (fun j => ∀ r2, r2 < j → hasR (bG V i r2) x = false) (fun j hi52 hI52 ih52 ls hl => ?_) 0 (Nat.zero_le _) (fun r2 h => absurd h (Nat.not_lt_zero r2))
      refine lv_iload hx hb dX3_said_52 (lv_at hl 0 rfl) ?_
      refine lv_iload hx hb dX3_said_54 (lv_at hl 1 rfl) ?_
      refine h_icmp_ge (a := j) (b := bN V i) (tgt := 85) hx hb dX3_said_56 (by decide) (by omega) (by omega) (fun c_56 => ?_) (fun c_56 => ?_)
      · refine lv_iinc (v := nI (i + 1)) (lv' := [(4, .int (nI (i + 1))), (8, .int (nI j)), (7, .int (nI (bN V i))), (6, .ref (lvl i)), (3, .int (nI 4)), (2, .ref lv), (0, .ref mo), (1, .int (nI x))]) hx hb dX3_said_85 hl (k := 3) rfl (nI_add (i) 1) (by decide) rfl (fun ls hl => ?_)
        refine lv_goto (tgt := 28) hx hb dX3_said_88 (by decide) ?_
        exact ih28 (by omega) (fun l2 h => by by_cases e : l2 = i; rw [e]; exact fsL_none (fun r2 _ h2 => hI52 r2 (by omega)); exact hI28 l2 (by omega)) ls (lv_sub hl [0, 4, 5, 6, 7] rfl)
      · refine lv_aload hx hb dX3_said_59 (lv_at hl 2 rfl) ?_
        refine lv_iload hx hb dX3_said_61 (lv_at hl 0 rfl) ?_
        refine h_aaldE (i := j) (hm.clvl (l := i) (by omega)) hx hb hK0 hV0 rfl rfl (by omega) (by omega) dX3_said_63 ?_
        refine lv_astore (lv' := [(9, .ref (row i j)), (8, .int (nI j)), (7, .int (nI (bN V i))), (6, .ref (lvl i)), (4, .int (nI i)), (3, .int (nI 4)), (2, .ref lv), (0, .ref mo), (1, .int (nI x))]) hx hb dX3_said_64 hl (by decide) rfl (fun ls hl => ?_)
        refine lv_aload hx hb dX3_said_66 (lv_at hl 0 rfl) ?_
        refine lv_iload_n hx hb dX3_said_68 rfl (lv_at hl 8 rfl) ?_
        refine h_ialdE (i := x) (hm.crow (l := i) (r := j) (by omega) (by omega)) hx hb hK0 hV0 (by omega) dX3_said_69 ?_
        refine lv_iconst (v := (-1)) hx hb dX3_said_70 (by decide) ?_
        refine lv_icmp_eq (tgt := 79) hx hb dX3_said_71 (by decide) (fun c_71 => ?_) (fun c_71 => ?_)
        · refine lv_iinc (v := nI (j + 1)) (lv' := [(8, .int (nI (j + 1))), (9, .ref (row i j)), (7, .int (nI (bN V i))), (6, .ref (lvl i)), (4, .int (nI i)), (3, .int (nI 4)), (2, .ref lv), (0, .ref mo), (1, .int (nI x))]) hx hb dX3_said_79 hl (k := 1) rfl (nI_add (j) 1) (by decide) rfl (fun ls hl => ?_)
          refine lv_goto (tgt := 52) hx hb dX3_said_82 (by decide) ?_
          exact ih52 (by omega) (fun r2 h => by by_cases e : r2 = j; rw [e]; exact sw_hf c_71; exact hI52 r2 (by omega)) ls (lv_sub hl [0, 2, 3, 4, 5, 6, 7, 8] rfl)
        · refine lv_aload hx hb dX3_said_74 (lv_at hl 0 rfl) ?_
          refine lv_iload_n hx hb dX3_said_76 rfl (lv_at hl 8 rfl) ?_
          refine h_ialdE (i := x) (hm.crow (l := i) (r := j) (by omega) (by omega)) hx hb hK0 hV0 (by omega) dX3_said_77 ?_
          have h9 := fsL_some (g := bG V i) (x := x) (i := j) (sw_ht c_71) (m := bN V i) (r := 0) (Nat.zero_le _) (by omega) (fun r2 _ h => hI52 r2 h)
          have h8 : ¬ fsL (bG V i) x (bN V i) 0 = -2 := fun z => by
            rw [h9] at z
            exact absurd (sw_ht c_71) (by simp [hasR, z])
          exact h_iretR hx hb hr hlocks (by rw [wd0_y (sw_n1.mp c_7), fsA_some (i := i) h8 (Nat.zero_le _) (by omega) (fun l2 _ h => hI28 l2 h), h9]) dX3_said_78
  · refine lv_aload_n hx hb dX3_said_10 rfl (lv_at hl 0 rfl) ?_
    refine h_get (v := .ref dk) hx hb hts hi3 hown hK0 hV0 hm.cmo rfl 1 (by decide) hw0 rfl dX3_said_11 ?_
    refine lv_iload_n hx hb dX3_said_14 rfl (lv_at hl 1 rfl) ?_
    refine h_ialdE (i := x) hm.cdk hx hb hK0 hV0 (by omega) dX3_said_15 ?_
    exact h_iretR hx hb hr hlocks (by rw [wd0_n (fun z => c_7 (sw_n1.mpr z))]) dX3_said_16

set_option maxHeartbeats 1000000 in
set_option maxRecDepth 100000 in
theorem c_X3_word (l : Launch) (G : hG) (hp : HP) (mo dk lv nb : Nat) (lvl : Nat → Nat) (row : Nat → Nat → Nat) (th : Int32) (d : Row) (V : BV) (rm dt : Int32) (hm : mA mo dk lv nb lvl row th d V rm dt hp) (x : Nat) (hx6 : x < 64) : hRd l yX3_word wsX3_word 1 29 G hp [.ref mo, .int (nI x)] (some (.int (wdS d (bN V) (bG V) x))) := by
  refine Met.ofW (cc := cX3_word) (maxL := 2) (ret := (some .int)) (by decide) rfl ?_
  intro p e s m args below meth c s₁ B hml hv
  obtain ⟨rfl, hV0, hK0⟩ := hv
  have hx := B.exec
  have hb := B.bytes
  have hr := B.returns
  have hts := atoms_spec (ws := wsX3_word) B.pre
  have hown : s.vm.findClass RX3 = some m.cls := findClass_of_methodNamed B.named
  have hlocks := B.notSynchronized
  have hF : CallFix p m c cX3_word 2 s [.ref mo, .int (nI x)].toArray wsX3_word RX3 := ⟨hx, hb, hml, hown, hts⟩
  have hw0 := hts (.methodLink RX3 84 Lib.Math.max.name) (by decide +kernel)
  have hw1 := hts (.static Lib.Math.max.name) (by decide +kernel)
  have hw2 := hts (.initialized "java/lang/Math") (by decide +kernel)
  have hw3 := hts (.code Lib.Math.max.name Lib.Math.max.code 2 (some .int)) (by decide +kernel)
  have hl := lv_entry ([.ref mo, .int (nI x)]) (n := 2) (Nat.le_of_ble_eq_true rfl)
  rw [lg_entry_eq]
  generalize (lg_sl ([.ref mo, .int (nI x)]) ++ List.replicate (2 - (lg_sl ([.ref mo, .int (nI x)])).length) Slot.unset).toArray = ls at hl ⊢
  replace hl : lv_has ls 2 [(0, .ref mo), (1, .int (nI x))] := hl
  have hn := hm.le
  refine lv_iconst (v := (-1)) hx hb dX3_word_0 (by decide) ?_
  refine lv_aload_n hx hb dX3_word_1 rfl (lv_at hl 0 rfl) ?_
  refine lv_iload_n hx hb dX3_word_2 rfl (lv_at hl 1 rfl) ?_
  refine h_rdV (As := [.int (nI x)]) (rest := [.int (-1)]) hF (c_X3_said l G hp mo dk lv nb lvl row th d V rm dt hm x (by omega)) 1 gX3_word_X3_said rfl (by decide +kernel) ⟨Nat.le_of_ble_eq_true rfl, Nat.le_of_ble_eq_true rfl⟩ hK0 hV0 hm.cmo rfl rfl rfl hl.1 rfl (Nat.le_of_ble_eq_true rfl) (Nat.le_refl _) (Nat.le_refl _) dX3_word_3 ?_
  refine va_mmax hx hb (hml.trans hl.1.symm) hown hw0 hw1 hw2 hw3 (Nat.le_of_ble_eq_true rfl) (Nat.le_of_ble_eq_true rfl) (Nat.le_of_ble_eq_true rfl) (Nat.le_of_ble_eq_true rfl) dX3_word_6 ?_
  exact h_iretR hx hb hr hlocks (sw_max _) dX3_word_9

theorem opn_h {f : Row} {x : Nat} (h : hasR f x = true) (hx : x < 64 := by omega) : opnC f x = true := by
  have hz : 0 < szR f := by
    have h1 := cntB_mono (hasR f) (x + 1) 64 (by omega)
    rw [cntB_y h] at h1
    unfold szR
    omega
  obtain ⟨g1, g2, g3⟩ := ls_at hz
  obtain ⟨y, h1, h2, h3, h4⟩ := gr_at hz
  unfold opnC
  have a1 : lsR f ≤ x := by
    rcases Nat.lt_or_ge x (lsR f) with q | q
    · rw [g3 x (Nat.zero_le _) q] at h; cases h
    · exact q
  have a2 : x ≤ y := by
    rcases Nat.lt_or_ge y x with q | q
    · rw [h4 x q hx] at h; cases h
    · exact q
  rw [decide_eq_true a1, h2, decide_eq_true ((nI_leI (by omega) (by omega)).mpr a2), opR_t (h := x % 8) (j := x / 8) (by omega) (by rw [show x % 8 + 8 * (x / 8) = x by omega]; exact h)]
  rfl
set_option maxHeartbeats 1000000 in
set_option maxRecDepth 100000 in
theorem c_X3_opened (l : Launch) (G : hG) (hp : HP) (mo dk lv nb : Nat) (lvl : Nat → Nat) (row : Nat → Nat → Nat) (th : Int32) (d : Row) (V : BV) (rm dt : Int32) (hm : mA mo dk lv nb lvl row th d V rm dt hp) (x : Nat) (hx6 : x < 64) : hRd l yX3_opened wsX3_opened 1 23 G hp [.ref mo, .int (nI x)] (some (.int (nI (dtS d (bN V) (bG V) x)))) := by
  refine Met.ofW (cc := cX3_opened) (maxL := 11) (ret := (some .int)) (by decide) rfl ?_
  intro p e s m args below meth c s₁ B hml hv
  obtain ⟨rfl, hV0, hK0⟩ := hv
  have hx := B.exec
  have hb := B.bytes
  have hr := B.returns
  have hts := atoms_spec (ws := wsX3_opened) B.pre
  have hown : s.vm.findClass RX3 = some m.cls := findClass_of_methodNamed B.named
  have hlocks := B.notSynchronized
  have hF : CallFix p m c cX3_opened 11 s [.ref mo, .int (nI x)].toArray wsX3_opened RX3 := ⟨hx, hb, hml, hown, hts⟩
  have hw0 := hts (.fieldLink RX3 13 "SlipLevelsModel" "desk" "[I") (by decide +kernel)
  have hw1 := hts (.fieldLink RX3 20 "SlipLevelsModel" "levels" "[[[I") (by decide +kernel)
  have hi3 : ∀ w ∈ u_ws RX3 TX3 4, w ∈ wsX3_opened := by
    intro w h
    unfold wsX3_opened
    simp only [List.mem_cons, List.mem_append, h, true_or, or_true]
  have hl := lv_entry ([.ref mo, .int (nI x)]) (n := 11) (Nat.le_of_ble_eq_true rfl)
  rw [lg_entry_eq]
  generalize (lg_sl ([.ref mo, .int (nI x)]) ++ List.replicate (11 - (lg_sl ([.ref mo, .int (nI x)])).length) Slot.unset).toArray = ls at hl ⊢
  replace hl : lv_has ls 11 [(0, .ref mo), (1, .int (nI x))] := hl
  have hn := hm.le
  refine lv_aload_n hx hb dX3_opened_0 rfl (lv_at hl 0 rfl) ?_
  refine h_get (v := .ref dk) hx hb hts hi3 hown hK0 hV0 hm.cmo rfl 1 (by decide) hw0 rfl dX3_opened_1 ?_
  refine lv_iload_n hx hb dX3_opened_4 rfl (lv_at hl 1 rfl) ?_
  refine h_ialdE (i := x) hm.cdk hx hb hK0 hV0 (by omega) dX3_opened_5 ?_
  refine lv_iconst (v := (-1)) hx hb dX3_opened_6 (by decide) ?_
  refine lv_icmp_eq (tgt := 12) hx hb dX3_opened_7 (by decide) (fun c_7 => ?_) (fun c_7 => ?_)
  · refine lv_iconst (v := nI 0) hx hb dX3_opened_12 (by decide) ?_
    refine lv_istore_n (lv' := [(2, .int (nI 0)), (0, .ref mo), (1, .int (nI x))]) hx hb dX3_opened_13 rfl hl (by decide) rfl (fun ls hl => ?_)
    refine lv_aload_n hx hb dX3_opened_14 rfl (lv_at hl 1 rfl) ?_
    refine h_get (v := .ref lv) hx hb hts hi3 hown hK0 hV0 hm.cmo rfl 2 (by decide) hw1 rfl dX3_opened_15 ?_
    refine lv_astore_n (lv' := [(3, .ref lv), (2, .int (nI 0)), (0, .ref mo), (1, .int (nI x))]) hx hb dX3_opened_18 rfl hl (by decide) rfl (fun ls hl => ?_)
    refine lv_aload_n hx hb dX3_opened_19 rfl (lv_at hl 0 rfl) ?_
    refine h_alenQ hm.clv hx hb hK0 hV0 rfl dX3_opened_20 ?_
    refine lv_istore (lv' := [(4, .int (nI 4)), (3, .ref lv), (2, .int (nI 0)), (0, .ref mo), (1, .int (nI x))]) hx hb dX3_opened_21 hl (by decide) rfl (fun ls hl => ?_)
    refine lv_iconst (v := nI 0) hx hb dX3_opened_23 (by decide) ?_
    refine lv_istore (lv' := [(5, .int (nI 0)), (4, .int (nI 4)), (3, .ref lv), (2, .int (nI 0)), (0, .ref mo), (1, .int (nI x))]) hx hb dX3_opened_24 hl (by decide) rfl (fun ls hl => ?_)
    replace hl : lv_has ls 11 [(5, .int (nI 0)), (2, .int (nI 0)), (4, .int (nI 4)), (3, .ref lv), (0, .ref mo), (1, .int (nI x))] := lv_sub hl [0, 3, 1, 2, 4, 5] rfl
    revert ls
    refine h_loopO 4 (fun i o => [(5, .int (nI i)), (2, .int (nI o)), (4, .int (nI 4)), (3, .ref lv), (0, .ref mo), (1, .int (nI x))]) (fun i o => o + dtA (bN V) (bG V) x (4 - i) i = dtA (bN V) (bG V) x 4 0) (fun i hi26 o hO26 ih26 ls hl => ?_) 0 (Nat.zero_le _) 0 (Nat.zero_add _)
    refine lv_iload hx hb dX3_opened_26 (lv_at hl 0 rfl) ?_
    refine lv_iload hx hb dX3_opened_28 (lv_at hl 2 rfl) ?_
    refine h_icmp_ge (a := i) (b := 4) (tgt := 132) hx hb dX3_opened_30 (by decide) (by omega) (by omega) (fun c_30 => ?_) (fun c_30 => ?_)
    · refine lv_iload_n hx hb dX3_opened_132 rfl (lv_at hl 1 rfl) ?_
      exact h_iretR hx hb hr hlocks (by rw [show dtS d (bN V) (bG V) x = dtA (bN V) (bG V) x 4 0 from if_neg (by rw [sw_hf c_7]; decide), ← hO26, show 4 - i = 0 by omega]; rfl) dX3_opened_133
    · have hni := hn i
      refine lv_aload_n hx hb dX3_opened_33 rfl (lv_at hl 3 rfl) ?_
      refine lv_iload hx hb dX3_opened_34 (lv_at hl 0 rfl) ?_
      refine h_aaldE (i := i) hm.clv hx hb hK0 hV0 rfl rfl (by omega) (by omega) dX3_opened_36 ?_
      refine lv_astore (lv' := [(6, .ref (lvl i)), (5, .int (nI i)), (2, .int (nI o)), (4, .int (nI 4)), (3, .ref lv), (0, .ref mo), (1, .int (nI x))]) hx hb dX3_opened_37 hl (by decide) rfl (fun ls hl => ?_)
      refine lv_aload hx hb dX3_opened_39 (lv_at hl 0 rfl) ?_
      refine lv_astore (lv' := [(7, .ref (lvl i)), (6, .ref (lvl i)), (5, .int (nI i)), (2, .int (nI o)), (4, .int (nI 4)), (3, .ref lv), (0, .ref mo), (1, .int (nI x))]) hx hb dX3_opened_41 hl (by decide) rfl (fun ls hl => ?_)
      refine lv_aload hx hb dX3_opened_43 (lv_at hl 0 rfl) ?_
      refine h_alenQ (hm.clvl (l := i) (by omega)) hx hb hK0 hV0 rfl dX3_opened_45 ?_
      refine lv_istore (lv' := [(8, .int (nI (bN V i))), (7, .ref (lvl i)), (6, .ref (lvl i)), (5, .int (nI i)), (2, .int (nI o)), (4, .int (nI 4)), (3, .ref lv), (0, .ref mo), (1, .int (nI x))]) hx hb dX3_opened_46 hl (by decide) rfl (fun ls hl => ?_)
      refine lv_iconst (v := nI 0) hx hb dX3_opened_48 (by decide) ?_
      refine lv_istore (lv' := [(9, .int (nI 0)), (8, .int (nI (bN V i))), (7, .ref (lvl i)), (6, .ref (lvl i)), (5, .int (nI i)), (2, .int (nI o)), (4, .int (nI 4)), (3, .ref lv), (0, .ref mo), (1, .int (nI x))]) hx hb dX3_opened_49 hl (by decide) rfl (fun ls hl => ?_)
      have hO26c : o + dtL (bG V i) x (dtA (bN V) (bG V) x (4 - (i + 1)) (i + 1)) (bN V i) 0 = dtA (bN V) (bG V) x 4 0 := by rw [← hO26, show 4 - i = (4 - (i + 1)) + 1 by omega]; rfl
      replace hl : lv_has ls 11 [(9, .int (nI 0)), (2, .int (nI o)), (8, .int (nI (bN V i))), (7, .ref (lvl i)), (5, .int (nI i)), (4, .int (nI 4)), (3, .ref lv), (0, .ref mo), (1, .int (nI x))] := lv_sub hl [0, 5, 1, 2, 4, 6, 7, 8, 9] rfl
      revert ls
      refine h_loopO (bN V i) (fun j o => [(9, .int (nI j)), (2, .int (nI o)), (8, .int (nI (bN V i))), (7, .ref (lvl i)), (5, .int (nI i)), (4, .int (nI 4)), (3, .ref lv), (0, .ref mo), (1, .int (nI x))]) (fun j o => o + dtL (bG V i) x (dtA (bN V) (bG V) x (4 - (i + 1)) (i + 1)) (bN V i - j) j = dtA (bN V) (bG V) x 4 0) (fun j hi51 o hO51 ih51 ls hl => ?_) 0 (Nat.zero_le _) o hO26c
      refine lv_iload hx hb dX3_opened_51 (lv_at hl 0 rfl) ?_
      refine lv_iload hx hb dX3_opened_53 (lv_at hl 2 rfl) ?_
      refine h_icmp_ge (a := j) (b := bN V i) (tgt := 126) hx hb dX3_opened_55 (by decide) (by omega) (by omega) (fun c_55 => ?_) (fun c_55 => ?_)
      · have hO26b : o + dtA (bN V) (bG V) x (4 - (i + 1)) (i + 1) = dtA (bN V) (bG V) x 4 0 := by rw [← hO51, show bN V i - j = 0 by omega]; rfl
        refine lv_iinc (v := nI (i + 1)) (lv' := [(5, .int (nI (i + 1))), (9, .int (nI j)), (2, .int (nI o)), (8, .int (nI (bN V i))), (7, .ref (lvl i)), (4, .int (nI 4)), (3, .ref lv), (0, .ref mo), (1, .int (nI x))]) hx hb dX3_opened_126 hl (k := 4) rfl (nI_add (i) 1) (by decide) rfl (fun ls hl => ?_)
        refine lv_goto (tgt := 26) hx hb dX3_opened_129 (by decide) ?_
        exact ih26 (by omega) (o) hO26b ls (lv_sub hl [0, 2, 5, 6, 7, 8] rfl)
      · refine lv_aload hx hb dX3_opened_58 (lv_at hl 3 rfl) ?_
        refine lv_iload hx hb dX3_opened_60 (lv_at hl 0 rfl) ?_
        refine h_aaldE (i := j) (hm.clvl (l := i) (by omega)) hx hb hK0 hV0 rfl rfl (by omega) (by omega) dX3_opened_62 ?_
        refine lv_astore (lv' := [(10, .ref (row i j)), (9, .int (nI j)), (2, .int (nI o)), (8, .int (nI (bN V i))), (7, .ref (lvl i)), (5, .int (nI i)), (4, .int (nI 4)), (3, .ref lv), (0, .ref mo), (1, .int (nI x))]) hx hb dX3_opened_63 hl (by decide) rfl (fun ls hl => ?_)
        refine lv_aload hx hb dX3_opened_65 (lv_at hl 0 rfl) ?_
        refine lv_iload_n hx hb dX3_opened_67 rfl (lv_at hl 9 rfl) ?_
        refine h_ialdE (i := x) (hm.crow (l := i) (r := j) (by omega) (by omega)) hx hb hK0 hV0 (by omega) dX3_opened_68 ?_
        refine lv_iconst (v := (-1)) hx hb dX3_opened_69 (by decide) ?_
        refine lv_icmp_eq (tgt := 77) hx hb dX3_opened_70 (by decide) (fun c_70 => ?_) (fun c_70 => ?_)
        · have hps := hm.pos (l := i) (r := j) (by omega) (by omega)
          have hls := lsR_le (bG V i j)
          refine lv_iload_n hx hb dX3_opened_77 rfl (lv_at hl 2 rfl) ?_
          refine lv_iload_n hx hb dX3_opened_78 rfl (lv_at hl 9 rfl) ?_
          refine lv_aload hx hb dX3_opened_79 (lv_at hl 0 rfl) ?_
          refine lv_iconst (v := nI 0) hx hb dX3_opened_81 (by decide) ?_
          refine lv_iconst (v := nI 1) hx hb dX3_opened_82 (by decide) ?_
          refine h_rdS (As := [.ref (row i j), .int (nI 0), .int (nI 1)]) (rest := [.int (nI x), .int (nI o)]) hF (c_X3_endL l G hp (row i j) (bG V i j) (hm.crow (l := i) (r := j) (by omega) (by omega)) hps) 3 gX3_opened_X3_end rfl (by decide +kernel) ⟨Nat.le_of_ble_eq_true rfl, Nat.le_of_ble_eq_true rfl⟩ hK0 hV0 rfl hl.1 rfl (Nat.le_of_ble_eq_true rfl) (Nat.le_refl _) (Nat.le_refl _) dX3_opened_83 ?_
          refine h_icmp_le (a := x) (b := lsR (bG V i j)) (tgt := 117) hx hb dX3_opened_86 (by decide) (by omega) (by omega) (fun c_86 => ?_) (fun c_86 => ?_)
          · refine lv_iconst (v := nI 0) hx hb dX3_opened_117 (by decide) ?_
            refine h_iaddN hx hb dX3_opened_118 ?_
            refine lv_istore_n (lv' := [(2, .int (nI (o + 0))), (10, .ref (row i j)), (9, .int (nI j)), (8, .int (nI (bN V i))), (7, .ref (lvl i)), (5, .int (nI i)), (4, .int (nI 4)), (3, .ref lv), (0, .ref mo), (1, .int (nI x))]) hx hb dX3_opened_119 rfl hl (by decide) rfl (fun ls hl => ?_)
            refine lv_iinc (v := nI (j + 1)) (lv' := [(9, .int (nI (j + 1))), (2, .int (nI (o + 0))), (10, .ref (row i j)), (8, .int (nI (bN V i))), (7, .ref (lvl i)), (5, .int (nI i)), (4, .int (nI 4)), (3, .ref lv), (0, .ref mo), (1, .int (nI x))]) hx hb dX3_opened_120 hl (k := 2) rfl (nI_add (j) 1) (by decide) rfl (fun ls hl => ?_)
            refine lv_goto (tgt := 51) hx hb dX3_opened_123 (by decide) ?_
            exact ih51 (by omega) (o + 0) (by rw [← hO51, show bN V i - j = (bN V i - (j + 1)) + 1 by omega, dtL_s, opn_1 hps (sw_hf c_70) c_86]; rfl) ls (lv_sub hl [0, 1, 3, 4, 5, 6, 7, 8, 9] rfl)
          · refine lv_iload_n hx hb dX3_opened_89 rfl (lv_at hl 9 rfl) ?_
            refine lv_aload hx hb dX3_opened_90 (lv_at hl 0 rfl) ?_
            refine lv_bipush (v := nI 63) hx hb dX3_opened_92 (by decide) ?_
            refine lv_iconst (v := (-1)) hx hb dX3_opened_94 (by decide) ?_
            refine h_rdS (As := [.ref (row i j), .int (nI 63), .int (-1)]) (rest := [.int (nI x), .int (nI o)]) hF (c_X3_endG l G hp (row i j) (bG V i j) (hm.crow (l := i) (r := j) (by omega) (by omega)) hps) 3 gX3_opened_X3_end rfl (by decide +kernel) ⟨Nat.le_of_ble_eq_true rfl, Nat.le_of_ble_eq_true rfl⟩ hK0 hV0 rfl hl.1 rfl (Nat.le_of_ble_eq_true rfl) (Nat.le_refl _) (Nat.le_refl _) dX3_opened_95 ?_
            refine lv_icmp_ge (tgt := 117) hx hb dX3_opened_98 (by decide) (fun c_98 => ?_) (fun c_98 => ?_)
            · refine lv_iconst (v := nI 0) hx hb dX3_opened_117 (by decide) ?_
              refine h_iaddN hx hb dX3_opened_118 ?_
              refine lv_istore_n (lv' := [(2, .int (nI (o + 0))), (10, .ref (row i j)), (9, .int (nI j)), (8, .int (nI (bN V i))), (7, .ref (lvl i)), (5, .int (nI i)), (4, .int (nI 4)), (3, .ref lv), (0, .ref mo), (1, .int (nI x))]) hx hb dX3_opened_119 rfl hl (by decide) rfl (fun ls hl => ?_)
              refine lv_iinc (v := nI (j + 1)) (lv' := [(9, .int (nI (j + 1))), (2, .int (nI (o + 0))), (10, .ref (row i j)), (8, .int (nI (bN V i))), (7, .ref (lvl i)), (5, .int (nI i)), (4, .int (nI 4)), (3, .ref lv), (0, .ref mo), (1, .int (nI x))]) hx hb dX3_opened_120 hl (k := 2) rfl (nI_add (j) 1) (by decide) rfl (fun ls hl => ?_)
              refine lv_goto (tgt := 51) hx hb dX3_opened_123 (by decide) ?_
              exact ih51 (by omega) (o + 0) (by rw [← hO51, show bN V i - j = (bN V i - (j + 1)) + 1 by omega, dtL_s, opn_2 hx6 hps (sw_hf c_70) c_98]; rfl) ls (lv_sub hl [0, 1, 3, 4, 5, 6, 7, 8, 9] rfl)
            · refine lv_aload hx hb dX3_opened_101 (lv_at hl 0 rfl) ?_
              refine lv_iload_n hx hb dX3_opened_103 rfl (lv_at hl 9 rfl) ?_
              refine lv_bipush (v := nI 8) hx hb dX3_opened_104 (by decide) ?_
              refine h_iremN hx hb (by omega) (by decide) (by decide) dX3_opened_106 ?_
              refine h_rdS (As := [.ref (row i j), .int (nI (x % 8))]) (rest := [.int (nI o)]) hF (c_X3_isOpen l G hp (row i j) (bG V i j) (hm.crow (l := i) (r := j) (by omega) (by omega)) (x % 8) (by omega)) 2 gX3_opened_X3_isOpen rfl (by decide +kernel) ⟨Nat.le_of_ble_eq_true rfl, Nat.le_of_ble_eq_true rfl⟩ hK0 hV0 rfl hl.1 rfl (Nat.le_of_ble_eq_true rfl) (Nat.le_refl _) (Nat.le_refl _) dX3_opened_107 ?_
              refine h_if_eqB (tgt := 117) hx hb dX3_opened_110 (by decide) (fun c_110 => ?_) (fun c_110 => ?_)
              · refine lv_iconst (v := nI 0) hx hb dX3_opened_117 (by decide) ?_
                refine h_iaddN hx hb dX3_opened_118 ?_
                refine lv_istore_n (lv' := [(2, .int (nI (o + 0))), (10, .ref (row i j)), (9, .int (nI j)), (8, .int (nI (bN V i))), (7, .ref (lvl i)), (5, .int (nI i)), (4, .int (nI 4)), (3, .ref lv), (0, .ref mo), (1, .int (nI x))]) hx hb dX3_opened_119 rfl hl (by decide) rfl (fun ls hl => ?_)
                refine lv_iinc (v := nI (j + 1)) (lv' := [(9, .int (nI (j + 1))), (2, .int (nI (o + 0))), (10, .ref (row i j)), (8, .int (nI (bN V i))), (7, .ref (lvl i)), (5, .int (nI i)), (4, .int (nI 4)), (3, .ref lv), (0, .ref mo), (1, .int (nI x))]) hx hb dX3_opened_120 hl (k := 2) rfl (nI_add (j) 1) (by decide) rfl (fun ls hl => ?_)
                refine lv_goto (tgt := 51) hx hb dX3_opened_123 (by decide) ?_
                exact ih51 (by omega) (o + 0) (by rw [← hO51, show bN V i - j = (bN V i - (j + 1)) + 1 by omega, dtL_s, opn_3 c_86 c_98, c_110]; rfl) ls (lv_sub hl [0, 1, 3, 4, 5, 6, 7, 8, 9] rfl)
              · refine lv_iconst (v := nI 1) hx hb dX3_opened_113 (by decide) ?_
                refine lv_goto (tgt := 118) hx hb dX3_opened_114 (by decide) ?_
                refine h_iaddN hx hb dX3_opened_118 ?_
                refine lv_istore_n (lv' := [(2, .int (nI (o + 1))), (10, .ref (row i j)), (9, .int (nI j)), (8, .int (nI (bN V i))), (7, .ref (lvl i)), (5, .int (nI i)), (4, .int (nI 4)), (3, .ref lv), (0, .ref mo), (1, .int (nI x))]) hx hb dX3_opened_119 rfl hl (by decide) rfl (fun ls hl => ?_)
                refine lv_iinc (v := nI (j + 1)) (lv' := [(9, .int (nI (j + 1))), (2, .int (nI (o + 1))), (10, .ref (row i j)), (8, .int (nI (bN V i))), (7, .ref (lvl i)), (5, .int (nI i)), (4, .int (nI 4)), (3, .ref lv), (0, .ref mo), (1, .int (nI x))]) hx hb dX3_opened_120 hl (k := 2) rfl (nI_add (j) 1) (by decide) rfl (fun ls hl => ?_)
                refine lv_goto (tgt := 51) hx hb dX3_opened_123 (by decide) ?_
                exact ih51 (by omega) (o + 1) (by rw [← hO51, show bN V i - j = (bN V i - (j + 1)) + 1 by omega, dtL_s, opn_3 c_86 c_98, c_110, sw_hf c_70]; simp; omega) ls (lv_sub hl [0, 1, 3, 4, 5, 6, 7, 8, 9] rfl)
        · refine lv_iload_n hx hb dX3_opened_73 rfl (lv_at hl 2 rfl) ?_
          refine lv_iconst (v := nI 1) hx hb dX3_opened_74 (by decide) ?_
          refine h_iaddN hx hb dX3_opened_75 ?_
          exact h_iretR hx hb hr hlocks (by rw [show dtS d (bN V) (bG V) x = dtA (bN V) (bG V) x 4 0 from if_neg (by rw [sw_hf c_7]; decide), ← hO51, show bN V i - j = (bN V i - (j + 1)) + 1 by omega, dtL_s, opn_h (sw_ht c_70), sw_ht c_70]; rfl) dX3_opened_76
  · refine lv_iconst (v := nI 0) hx hb dX3_opened_10 (by decide) ?_
    exact h_iretR hx hb hr hlocks (by rw [show dtS d (bN V) (bG V) x = 0 from if_pos (sw_ht c_7)]) dX3_opened_11

set_option maxHeartbeats 1000000 in
set_option maxRecDepth 100000 in
theorem c_X3_allOpened (l : Launch) (G : hG) (hp : HP) (mo dk lv nb : Nat) (lvl : Nat → Nat) (row : Nat → Nat → Nat) (th : Int32) (d : Row) (V : BV) (rm dt : Int32) (hm : mA mo dk lv nb lvl row th d V rm dt hp) : hRd l yX3_allOpened wsX3_allOpened 2 53 G hp [.ref mo] (some (.int (nI (allD d (bN V) (bG V))))) := by
  refine Met.ofW (cc := cX3_allOpened) (maxL := 3) (ret := (some .int)) (by decide) rfl ?_
  intro p e s m args below meth c s₁ B hml hv
  obtain ⟨rfl, hV0, hK0⟩ := hv
  have hx := B.exec
  have hb := B.bytes
  have hr := B.returns
  have hts := atoms_spec (ws := wsX3_allOpened) B.pre
  have hown : s.vm.findClass RX3 = some m.cls := findClass_of_methodNamed B.named
  have hlocks := B.notSynchronized
  have hF : CallFix p m c cX3_allOpened 3 s [.ref mo].toArray wsX3_allOpened RX3 := ⟨hx, hb, hml, hown, hts⟩
  have hl := lv_entry ([.ref mo]) (n := 3) (Nat.le_of_ble_eq_true rfl)
  rw [lg_entry_eq]
  generalize (lg_sl ([.ref mo]) ++ List.replicate (3 - (lg_sl ([.ref mo])).length) Slot.unset).toArray = ls at hl ⊢
  replace hl : lv_has ls 3 [(0, .ref mo)] := hl
  have hn := hm.le
  refine lv_iconst (v := nI 0) hx hb dX3_allOpened_0 (by decide) ?_
  refine lv_istore_n (lv' := [(1, .int (nI 0)), (0, .ref mo)]) hx hb dX3_allOpened_1 rfl hl (by decide) rfl (fun ls hl => ?_)
  refine lv_iconst (v := nI 0) hx hb dX3_allOpened_2 (by decide) ?_
  refine lv_istore_n (lv' := [(2, .int (nI 0)), (1, .int (nI 0)), (0, .ref mo)]) hx hb dX3_allOpened_3 rfl hl (by decide) rfl (fun ls hl => ?_)
  replace hl : lv_has ls 3 [(2, .int (nI 0)), (1, .int (nI (snA (dtS d (bN V) (bG V)) 0))), (0, .ref mo)] := lv_sub hl [0, 1, 2] rfl
  revert ls
  refine h_loop 64 (fun i => [(2, .int (nI i)), (1, .int (nI (snA (dtS d (bN V) (bG V)) i))), (0, .ref mo)]) (fun i => True) (fun i hi4 hI4 ih4 ls hl => ?_) 0 (Nat.zero_le _) trivial
  refine lv_iload_n hx hb dX3_allOpened_4 rfl (lv_at hl 0 rfl) ?_
  refine lv_bipush (v := nI 64) hx hb dX3_allOpened_5 (by decide) ?_
  refine h_icmp_ge (a := i) (b := 64) (tgt := 24) hx hb dX3_allOpened_7 (by decide) (by omega) (by omega) (fun c_7 => ?_) (fun c_7 => ?_)
  · refine lv_iload_n hx hb dX3_allOpened_24 rfl (lv_at hl 1 rfl) ?_
    exact h_iretR hx hb hr hlocks (by rw [show i = 64 by omega]; rfl) dX3_allOpened_25
  · refine lv_iload_n hx hb dX3_allOpened_10 rfl (lv_at hl 1 rfl) ?_
    refine lv_aload_n hx hb dX3_allOpened_11 rfl (lv_at hl 2 rfl) ?_
    refine lv_iload_n hx hb dX3_allOpened_12 rfl (lv_at hl 0 rfl) ?_
    refine h_rdV (As := [.int (nI i)]) (rest := [.int (nI (snA (dtS d (bN V) (bG V)) i))]) hF (c_X3_opened l G hp mo dk lv nb lvl row th d V rm dt hm i (by omega)) 1 gX3_allOpened_X3_opened rfl (by decide +kernel) ⟨Nat.le_of_ble_eq_true rfl, Nat.le_of_ble_eq_true rfl⟩ hK0 hV0 hm.cmo rfl rfl rfl hl.1 rfl (Nat.le_of_ble_eq_true rfl) (Nat.le_refl _) (Nat.le_refl _) dX3_allOpened_13 ?_
    refine h_iaddN hx hb dX3_allOpened_16 ?_
    refine lv_istore_n (lv' := [(1, .int (nI (snA (dtS d (bN V) (bG V)) i + dtS d (bN V) (bG V) i))), (2, .int (nI i)), (0, .ref mo)]) hx hb dX3_allOpened_17 rfl hl (by decide) rfl (fun ls hl => ?_)
    refine lv_iinc (v := nI (i + 1)) (lv' := [(2, .int (nI (i + 1))), (1, .int (nI (snA (dtS d (bN V) (bG V)) i + dtS d (bN V) (bG V) i))), (0, .ref mo)]) hx hb dX3_allOpened_18 hl (k := 1) rfl (nI_add (i) 1) (by decide) rfl (fun ls hl => ?_)
    refine lv_goto (tgt := 4) hx hb dX3_allOpened_21 (by decide) ?_
    exact ih4 (by omega) trivial ls (lv_sub hl [0, 1, 2] rfl)
