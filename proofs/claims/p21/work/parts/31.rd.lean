/-! Sim: what reads -/
set_option maxHeartbeats 1000000 in
set_option maxRecDepth 100000 in
theorem c_X3_latest (l : Launch) (G : hG) (hp : HP) (mo dk lv : Nat) (lvl : Nat → Nat) (row : Nat → Nat → Nat) (rm : Int32) (tm : Nat) (dt : Int32) (d : Row) (δ : TG) (V : BV) (ω : TS) (hm : sA mo dk lv lvl row rm tm dt d δ V ω hp) (hoT : oT V ω) (hoD : oD d δ V ω) (hokd : okR d) (x : Nat) (hx6 : x < 64) : hRd l yX3_latest wsX3_latest 0 0 G hp [.ref mo, .int (nI x)] (some (va_rf (oA (laS d δ V ω x)))) := by
  refine Met.ofW (cc := cX3_latest) (maxL := 15) (ret := (some (.array .int))) (by decide) rfl ?_
  intro p e s m args below meth c s₁ B hml hv
  obtain ⟨rfl, hV0, hK0⟩ := hv
  have hx := B.exec
  have hb := B.bytes
  have hr := B.returns
  have hts := atoms_spec (ws := wsX3_latest) B.pre
  have hown : s.vm.findClass RX3 = some m.cls := findClass_of_methodNamed B.named
  have hlocks := B.notSynchronized
  have hF : CallFix p m c cX3_latest 15 s [.ref mo, .int (nI x)].toArray wsX3_latest RX3 := ⟨hx, hb, hml, hown, hts⟩
  have hw0 := hts (.fieldLink RX3 15 "SlipLevelsLaw$Sim" "desk" "[[I") (by decide +kernel)
  have hw1 := hts (.fieldLink RX3 22 "SlipLevelsLaw$Sim" "levels" "[[[[I") (by decide +kernel)
  have hi3 : ∀ w ∈ u_ws RX3 TX3 7, w ∈ wsX3_latest := by
    intro w h
    unfold wsX3_latest
    simp only [List.mem_cons, List.mem_append, h, true_or, or_true]
  have hl := lv_entry ([.ref mo, .int (nI x)]) (n := 15) (Nat.le_of_ble_eq_true rfl)
  rw [lg_entry_eq]
  generalize (lg_sl ([.ref mo, .int (nI x)]) ++ List.replicate (15 - (lg_sl ([.ref mo, .int (nI x)])).length) Slot.unset).toArray = ls at hl ⊢
  replace hl : lv_has ls 15 [(0, .ref mo), (1, .int (nI x))] := hl
  have hn := hm.le
  have hzd := szR_le d
  refine lv_null hx hb dX3_latest_0 ?_
  refine lv_astore_nN (lv' := [(2, .null), (0, .ref mo), (1, .int (nI x))]) hx hb dX3_latest_1 rfl hl (by decide) rfl (fun ls hl => ?_)
  refine lv_aload_n hx hb dX3_latest_2 rfl (lv_at hl 1 rfl) ?_
  refine h_get (v := .ref dk) hx hb hts hi3 hown hK0 hV0 hm.cmo rfl 5 (by decide) hw0 rfl dX3_latest_3 ?_
  refine lv_astore_n (lv' := [(3, .ref dk), (2, .null), (0, .ref mo), (1, .int (nI x))]) hx hb dX3_latest_6 rfl hl (by decide) rfl (fun ls hl => ?_)
  refine lv_aload_n hx hb dX3_latest_7 rfl (lv_at hl 0 rfl) ?_
  refine h_alenQ hm.cdk.1 hx hb hK0 hV0 rfl dX3_latest_8 ?_
  refine lv_istore (lv' := [(4, .int (nI (szR d))), (3, .ref dk), (2, .null), (0, .ref mo), (1, .int (nI x))]) hx hb dX3_latest_9 hl (by decide) rfl (fun ls hl => ?_)
  refine lv_iconst (v := nI 0) hx hb dX3_latest_11 (by decide) ?_
  refine lv_istore (lv' := [(5, .int (nI 0)), (4, .int (nI (szR d))), (3, .ref dk), (2, .null), (0, .ref mo), (1, .int (nI x))]) hx hb dX3_latest_12 hl (by decide) rfl (fun ls hl => ?_)
  replace hl : lv_has ls 15 [(5, .int (nI 0)), (2, va_rf (oA (bkR none d δ x 0))), (4, .int (nI (szR d))), (3, .ref dk), (0, .ref mo), (1, .int (nI x))] := by rw [bk_0]; exact lv_sub hl [0, 3, 1, 2, 4, 5] rfl
  revert ls
  refine h_loop (szR d) (fun k => [(5, .int (nI k)), (2, va_rf (oA (bkR none d δ x k))), (4, .int (nI (szR d))), (3, .ref dk), (0, .ref mo), (1, .int (nI x))]) (fun _ => True) (fun k hi14 hI14 ih14 ls hl => ?_) 0 (Nat.zero_le _) trivial
  refine lv_iload hx hb dX3_latest_14 (lv_at hl 0 rfl) ?_
  refine lv_iload hx hb dX3_latest_16 (lv_at hl 2 rfl) ?_
  refine h_icmp_ge (a := k) (b := szR d) (tgt := 44) hx hb dX3_latest_18 (by decide) (by omega) (by omega) (fun c_18 => ?_) (fun c_18 => ?_)
  · obtain rfl : k = szR d := by omega
    replace hl : lv_has ls 15 [(2, va_rf (oA (tg d δ x))), (0, .ref mo), (1, .int (nI x))] := by rw [bk_e hx6] at hl; exact lv_sub hl [1, 4, 5] rfl
    refine lv_aload_n hx hb dX3_latest_44 rfl (lv_at hl 1 rfl) ?_
    refine h_get (v := .ref lv) hx hb hts hi3 hown hK0 hV0 hm.cmo rfl 6 (by decide) hw1 rfl dX3_latest_45 ?_
    refine lv_astore_n (lv' := [(3, .ref lv), (2, va_rf (oA (tg d δ x))), (0, .ref mo), (1, .int (nI x))]) hx hb dX3_latest_48 rfl hl (by decide) (by generalize oA (tg d δ x) = o9; cases o9 <;> rfl) (fun ls hl => ?_)
    refine lv_aload_n hx hb dX3_latest_49 rfl (lv_at hl 0 rfl) ?_
    refine h_alenQ hm.clv hx hb hK0 hV0 rfl dX3_latest_50 ?_
    refine lv_istore (lv' := [(4, .int (nI 4)), (3, .ref lv), (2, va_rf (oA (tg d δ x))), (0, .ref mo), (1, .int (nI x))]) hx hb dX3_latest_51 hl (by decide) rfl (fun ls hl => ?_)
    refine lv_iconst (v := nI 0) hx hb dX3_latest_53 (by decide) ?_
    refine lv_istore (lv' := [(5, .int (nI 0)), (4, .int (nI 4)), (3, .ref lv), (2, va_rf (oA (tg d δ x))), (0, .ref mo), (1, .int (nI x))]) hx hb dX3_latest_54 hl (by decide) rfl (fun ls hl => ?_)
    replace hl : lv_has ls 15 [(5, .int (nI 0)), (2, va_rf (oA (laL V ω x (tg d δ x) 0))), (4, .int (nI 4)), (3, .ref lv), (0, .ref mo), (1, .int (nI x))] := lv_sub hl [0, 3, 1, 2, 4, 5] rfl
    revert ls
    refine h_loop 4 (fun i => [(5, .int (nI i)), (2, va_rf (oA (laL V ω x (tg d δ x) i))), (4, .int (nI 4)), (3, .ref lv), (0, .ref mo), (1, .int (nI x))]) (fun _ => True) (fun i hi56 hI56 ih56 ls hl => ?_) 0 (Nat.zero_le _) trivial
    refine lv_iload hx hb dX3_latest_56 (lv_at hl 0 rfl) ?_
    refine lv_iload hx hb dX3_latest_58 (lv_at hl 2 rfl) ?_
    refine h_icmp_ge (a := i) (b := 4) (tgt := 164) hx hb dX3_latest_60 (by decide) (by omega) (by omega) (fun c_60 => ?_) (fun c_60 => ?_)
    · obtain rfl : i = 4 := by omega
      rcases hS : laL V ω x (tg d δ x) 4 with _ | t
      · replace hl : lv_has ls 15 [(5, .int (nI 4)), (2, .null), (4, .int (nI 4)), (3, .ref lv), (0, .ref mo), (1, .int (nI x))] := by rw [hS] at hl; exact hl
        refine lv_aload_nN hx hb dX3_latest_164 rfl (lv_at hl 1 rfl) ?_
        exact h_aretR hx hb hr (Or.inr ⟨_, rfl⟩) hlocks (by show _ = va_rf (oA (laL V ω x (tg d δ x) 4)); rw [hS]; rfl) dX3_latest_165
      · replace hl : lv_has ls 15 [(5, .int (nI 4)), (2, .ref (t.2)), (4, .int (nI 4)), (3, .ref lv), (0, .ref mo), (1, .int (nI x))] := by rw [hS] at hl; exact hl
        refine lv_aload_n hx hb dX3_latest_164 rfl (lv_at hl 1 rfl) ?_
        exact h_aretR hx hb hr (Or.inr ⟨_, rfl⟩) hlocks (by show _ = va_rf (oA (laL V ω x (tg d δ x) 4)); rw [hS]; rfl) dX3_latest_165
    · refine lv_aload_n hx hb dX3_latest_63 rfl (lv_at hl 3 rfl) ?_
      refine lv_iload hx hb dX3_latest_64 (lv_at hl 0 rfl) ?_
      refine h_aaldE (i := i) hm.clv hx hb hK0 hV0 rfl rfl (by omega) (by omega) dX3_latest_66 ?_
      refine lv_astore (lv' := [(6, .ref (lvl i)), (5, .int (nI i)), (2, va_rf (oA (laL V ω x (tg d δ x) i))), (4, .int (nI 4)), (3, .ref lv), (0, .ref mo), (1, .int (nI x))]) hx hb dX3_latest_67 hl (by decide) rfl (fun ls hl => ?_)
      refine lv_aload hx hb dX3_latest_69 (lv_at hl 0 rfl) ?_
      refine lv_astore (lv' := [(7, .ref (lvl i)), (6, .ref (lvl i)), (5, .int (nI i)), (2, va_rf (oA (laL V ω x (tg d δ x) i))), (4, .int (nI 4)), (3, .ref lv), (0, .ref mo), (1, .int (nI x))]) hx hb dX3_latest_71 hl (by decide) rfl (fun ls hl => ?_)
      refine lv_aload hx hb dX3_latest_73 (lv_at hl 0 rfl) ?_
      refine h_alenQ (hm.clvl (l := i) (by omega)) hx hb hK0 hV0 rfl dX3_latest_75 ?_
      refine lv_istore (lv' := [(8, .int (nI (bN V i))), (7, .ref (lvl i)), (6, .ref (lvl i)), (5, .int (nI i)), (2, va_rf (oA (laL V ω x (tg d δ x) i))), (4, .int (nI 4)), (3, .ref lv), (0, .ref mo), (1, .int (nI x))]) hx hb dX3_latest_76 hl (by decide) rfl (fun ls hl => ?_)
      refine lv_iconst (v := nI 0) hx hb dX3_latest_78 (by decide) ?_
      refine lv_istore (lv' := [(9, .int (nI 0)), (8, .int (nI (bN V i))), (7, .ref (lvl i)), (6, .ref (lvl i)), (5, .int (nI i)), (2, va_rf (oA (laL V ω x (tg d δ x) i))), (4, .int (nI 4)), (3, .ref lv), (0, .ref mo), (1, .int (nI x))]) hx hb dX3_latest_79 hl (by decide) rfl (fun ls hl => ?_)
      have hni := hn i
      replace hl : lv_has ls 15 [(9, .int (nI 0)), (2, va_rf (oA (laR (bG V i) (ω i) x (laL V ω x (tg d δ x) i) 0))), (8, .int (nI (bN V i))), (7, .ref (lvl i)), (6, .ref (lvl i)), (5, .int (nI i)), (3, .ref lv), (4, .int (nI 4)), (0, .ref mo), (1, .int (nI x))] := lv_sub hl [0, 5, 1, 2, 3, 4, 7, 6, 8, 9] rfl
      revert ls
      refine h_loop (bN V i) (fun r => [(9, .int (nI r)), (2, va_rf (oA (laR (bG V i) (ω i) x (laL V ω x (tg d δ x) i) r))), (8, .int (nI (bN V i))), (7, .ref (lvl i)), (6, .ref (lvl i)), (5, .int (nI i)), (3, .ref lv), (4, .int (nI 4)), (0, .ref mo), (1, .int (nI x))]) (fun _ => True) (fun r hi81 hI81 ih81 ls hl => ?_) 0 (Nat.zero_le _) trivial
      refine lv_iload hx hb dX3_latest_81 (lv_at hl 0 rfl) ?_
      refine lv_iload hx hb dX3_latest_83 (lv_at hl 2 rfl) ?_
      refine h_icmp_ge (a := r) (b := bN V i) (tgt := 158) hx hb dX3_latest_85 (by decide) (by omega) (by omega) (fun c_85 => ?_) (fun c_85 => ?_)
      · refine lv_iinc (v := nI (i + 1)) (lv' := [(5, .int (nI (i + 1))), (9, .int (nI r)), (2, va_rf (oA (laR (bG V i) (ω i) x (laL V ω x (tg d δ x) i) r))), (8, .int (nI (bN V i))), (7, .ref (lvl i)), (6, .ref (lvl i)), (3, .ref lv), (4, .int (nI 4)), (0, .ref mo), (1, .int (nI x))]) hx hb dX3_latest_158 hl (k := 5) rfl (nI_add (i) 1) (by decide) rfl (fun ls hl => ?_)
        refine lv_goto (tgt := 56) hx hb dX3_latest_161 (by decide) ?_
        obtain rfl : r = bN V i := by omega
        exact ih56 (by omega) trivial ls (lv_sub hl [0, 2, 7, 6, 8, 9] rfl)
      · refine lv_aload hx hb dX3_latest_88 (lv_at hl 3 rfl) ?_
        refine lv_iload hx hb dX3_latest_90 (lv_at hl 0 rfl) ?_
        refine h_aaldE (i := r) (hm.clvl (l := i) (by omega)) hx hb hK0 hV0 rfl rfl (by omega) (by omega) dX3_latest_92 ?_
        refine lv_astore (lv' := [(10, .ref (row i r)), (9, .int (nI r)), (2, va_rf (oA (laR (bG V i) (ω i) x (laL V ω x (tg d δ x) i) r))), (8, .int (nI (bN V i))), (7, .ref (lvl i)), (6, .ref (lvl i)), (5, .int (nI i)), (3, .ref lv), (4, .int (nI 4)), (0, .ref mo), (1, .int (nI x))]) hx hb dX3_latest_93 hl (by decide) rfl (fun ls hl => ?_)
        refine lv_aload hx hb dX3_latest_95 (lv_at hl 0 rfl) ?_
        refine lv_astore (lv' := [(11, .ref (row i r)), (10, .ref (row i r)), (9, .int (nI r)), (2, va_rf (oA (laR (bG V i) (ω i) x (laL V ω x (tg d δ x) i) r))), (8, .int (nI (bN V i))), (7, .ref (lvl i)), (6, .ref (lvl i)), (5, .int (nI i)), (3, .ref lv), (4, .int (nI 4)), (0, .ref mo), (1, .int (nI x))]) hx hb dX3_latest_97 hl (by decide) rfl (fun ls hl => ?_)
        refine lv_aload hx hb dX3_latest_99 (lv_at hl 0 rfl) ?_
        refine h_alenQ (hm.crow (l := i) (r := r) (by omega) (by omega)).1 hx hb hK0 hV0 rfl dX3_latest_101 ?_
        refine lv_istore (lv' := [(12, .int (nI (szR (bG V i r)))), (11, .ref (row i r)), (10, .ref (row i r)), (9, .int (nI r)), (2, va_rf (oA (laR (bG V i) (ω i) x (laL V ω x (tg d δ x) i) r))), (8, .int (nI (bN V i))), (7, .ref (lvl i)), (6, .ref (lvl i)), (5, .int (nI i)), (3, .ref lv), (4, .int (nI 4)), (0, .ref mo), (1, .int (nI x))]) hx hb dX3_latest_102 hl (by decide) rfl (fun ls hl => ?_)
        refine lv_iconst (v := nI 0) hx hb dX3_latest_104 (by decide) ?_
        refine lv_istore (lv' := [(13, .int (nI 0)), (12, .int (nI (szR (bG V i r)))), (11, .ref (row i r)), (10, .ref (row i r)), (9, .int (nI r)), (2, va_rf (oA (laR (bG V i) (ω i) x (laL V ω x (tg d δ x) i) r))), (8, .int (nI (bN V i))), (7, .ref (lvl i)), (6, .ref (lvl i)), (5, .int (nI i)), (3, .ref lv), (4, .int (nI 4)), (0, .ref mo), (1, .int (nI x))]) hx hb dX3_latest_105 hl (by decide) rfl (fun ls hl => ?_)
        have hz8 := szR_le (bG V i r)
        replace hl : lv_has ls 15 [(13, .int (nI 0)), (2, va_rf (oA (bkR (laR (bG V i) (ω i) x (laL V ω x (tg d δ x) i) r) (bG V i r) (ω i r) x 0))), (12, .int (nI (szR (bG V i r)))), (11, .ref (row i r)), (10, .ref (row i r)), (9, .int (nI r)), (8, .int (nI (bN V i))), (7, .ref (lvl i)), (6, .ref (lvl i)), (5, .int (nI i)), (3, .ref lv), (4, .int (nI 4)), (0, .ref mo), (1, .int (nI x))] := by rw [bk_0]; exact lv_sub hl [0, 5, 1, 2, 3, 4, 6, 7, 8, 9, 10, 11, 12, 13] rfl
        revert ls
        refine h_loop (szR (bG V i r)) (fun k => [(13, .int (nI k)), (2, va_rf (oA (bkR (laR (bG V i) (ω i) x (laL V ω x (tg d δ x) i) r) (bG V i r) (ω i r) x k))), (12, .int (nI (szR (bG V i r)))), (11, .ref (row i r)), (10, .ref (row i r)), (9, .int (nI r)), (8, .int (nI (bN V i))), (7, .ref (lvl i)), (6, .ref (lvl i)), (5, .int (nI i)), (3, .ref lv), (4, .int (nI 4)), (0, .ref mo), (1, .int (nI x))]) (fun _ => True) (fun k hi107 hI107 ih107 ls hl => ?_) 0 (Nat.zero_le _) trivial
        refine lv_iload hx hb dX3_latest_107 (lv_at hl 0 rfl) ?_
        refine lv_iload hx hb dX3_latest_109 (lv_at hl 2 rfl) ?_
        refine h_icmp_ge (a := k) (b := szR (bG V i r)) (tgt := 152) hx hb dX3_latest_111 (by decide) (by omega) (by omega) (fun c_111 => ?_) (fun c_111 => ?_)
        · refine lv_iinc (v := nI (r + 1)) (lv' := [(9, .int (nI (r + 1))), (13, .int (nI k)), (2, va_rf (oA (bkR (laR (bG V i) (ω i) x (laL V ω x (tg d δ x) i) r) (bG V i r) (ω i r) x k))), (12, .int (nI (szR (bG V i r)))), (11, .ref (row i r)), (10, .ref (row i r)), (8, .int (nI (bN V i))), (7, .ref (lvl i)), (6, .ref (lvl i)), (5, .int (nI i)), (3, .ref lv), (4, .int (nI 4)), (0, .ref mo), (1, .int (nI x))]) hx hb dX3_latest_152 hl (k := 5) rfl (nI_add (r) 1) (by decide) rfl (fun ls hl => ?_)
          refine lv_goto (tgt := 81) hx hb dX3_latest_155 (by decide) ?_
          obtain rfl : k = szR (bG V i r) := by omega
          exact ih81 (by omega) trivial ls (lv_sub (by rw [bk_e hx6] at hl; exact hl) [0, 2, 6, 7, 8, 9, 10, 11, 12, 13] rfl)
        · refine lv_aload hx hb dX3_latest_114 (lv_at hl 3 rfl) ?_
          refine lv_iload hx hb dX3_latest_116 (lv_at hl 0 rfl) ?_
          refine h_aaldE (i := k) (hm.crow (l := i) (r := r) (by omega) (by omega)).1 hx hb hK0 hV0 rfl rfl (by omega) (by omega) dX3_latest_118 ?_
          refine lv_astore (lv' := [(14, .ref (((ω i r) (nthR (bG V i r) k)).2)), (13, .int (nI k)), (2, va_rf (oA (bkR (laR (bG V i) (ω i) x (laL V ω x (tg d δ x) i) r) (bG V i r) (ω i r) x k))), (12, .int (nI (szR (bG V i r)))), (11, .ref (row i r)), (10, .ref (row i r)), (9, .int (nI r)), (8, .int (nI (bN V i))), (7, .ref (lvl i)), (6, .ref (lvl i)), (5, .int (nI i)), (3, .ref lv), (4, .int (nI 4)), (0, .ref mo), (1, .int (nI x))]) hx hb dX3_latest_119 hl (by decide) rfl (fun ls hl => ?_)
          refine lv_aload hx hb dX3_latest_121 (lv_at hl 0 rfl) ?_
          refine lv_iconst (v := nI 0) hx hb dX3_latest_123 (by decide) ?_
          refine h_sl0 ((hm.crow (l := i) (r := r) (by omega) (by omega)).at (k := k) (by omega)) hx hb hK0 hV0 dX3_latest_124 ?_
          refine lv_iload_n hx hb dX3_latest_125 rfl (lv_at hl 14 rfl) ?_
          have hnk := (nth_at (f := (bG V i r)) (k := k) (by omega)).1
          refine h_icmp_ne (a := nthR (bG V i r) k) (b := x) (tgt := 146) hx hb dX3_latest_126 (by decide) (by omega) (by omega) (fun c_126 => ?_) (fun c_126 => ?_)
          · refine lv_iinc (v := nI (k + 1)) (lv' := [(13, .int (nI (k + 1))), (14, .ref (((ω i r) (nthR (bG V i r) k)).2)), (2, va_rf (oA (bkR (laR (bG V i) (ω i) x (laL V ω x (tg d δ x) i) r) (bG V i r) (ω i r) x k))), (12, .int (nI (szR (bG V i r)))), (11, .ref (row i r)), (10, .ref (row i r)), (9, .int (nI r)), (8, .int (nI (bN V i))), (7, .ref (lvl i)), (6, .ref (lvl i)), (5, .int (nI i)), (3, .ref lv), (4, .int (nI 4)), (0, .ref mo), (1, .int (nI x))]) hx hb dX3_latest_146 hl (k := 1) rfl (nI_add (k) 1) (by decide) rfl (fun ls hl => ?_)
            refine lv_goto (tgt := 107) hx hb dX3_latest_149 (by decide) ?_
            exact ih107 (by omega) trivial ls (by show lv_has ls 15 [(13, .int (nI (k + 1))), (2, va_rf (oA (bkR (laR (bG V i) (ω i) x (laL V ω x (tg d δ x) i) r) (bG V i r) (ω i r) x (k + 1)))), (12, .int (nI (szR (bG V i r)))), (11, .ref (row i r)), (10, .ref (row i r)), (9, .int (nI r)), (8, .int (nI (bN V i))), (7, .ref (lvl i)), (6, .ref (lvl i)), (5, .int (nI i)), (3, .ref lv), (4, .int (nI 4)), (0, .ref mo), (1, .int (nI x))]; rw [bk_n hx6 (by omega) c_126]; exact lv_sub hl [0, 2, 3, 4, 5, 6, 7, 8, 9, 10, 11, 12, 13, 14] rfl)
          · have hby := bk_y (B := laR (bG V i) (ω i) x (laL V ω x (tg d δ x) i) r) (w := (ω i r)) (by omega) c_126
            have hhas := ((nth_tri (f := (bG V i r)) (k := k) (x := x) (by omega)).1 c_126).1
            rcases hB : laR (bG V i) (ω i) x (laL V ω x (tg d δ x) i) r with _ | t
            · replace hl : lv_has ls 15 [(14, .ref (((ω i r) (nthR (bG V i r) k)).2)), (13, .int (nI k)), (2, .null), (12, .int (nI (szR (bG V i r)))), (11, .ref (row i r)), (10, .ref (row i r)), (9, .int (nI r)), (8, .int (nI (bN V i))), (7, .ref (lvl i)), (6, .ref (lvl i)), (5, .int (nI i)), (3, .ref lv), (4, .int (nI 4)), (0, .ref mo), (1, .int (nI x))] := by rw [hby.2, hB] at hl; exact hl
              refine lv_aload_nN hx hb dX3_latest_129 rfl (lv_at hl 2 rfl) ?_
              refine lv_ifnullN (tgt := 143) hx hb dX3_latest_130 (by decide) ?_
              refine lv_aload hx hb dX3_latest_143 (lv_at hl 0 rfl) ?_
              refine lv_astore_n (lv' := [(2, .ref (((ω i r) (nthR (bG V i r) k)).2)), (14, .ref (((ω i r) (nthR (bG V i r) k)).2)), (13, .int (nI k)), (12, .int (nI (szR (bG V i r)))), (11, .ref (row i r)), (10, .ref (row i r)), (9, .int (nI r)), (8, .int (nI (bN V i))), (7, .ref (lvl i)), (6, .ref (lvl i)), (5, .int (nI i)), (3, .ref lv), (4, .int (nI 4)), (0, .ref mo), (1, .int (nI x))]) hx hb dX3_latest_145 rfl hl (by decide) rfl (fun ls hl => ?_)
              refine lv_iinc (v := nI (k + 1)) (lv' := [(13, .int (nI (k + 1))), (2, .ref (((ω i r) (nthR (bG V i r) k)).2)), (14, .ref (((ω i r) (nthR (bG V i r) k)).2)), (12, .int (nI (szR (bG V i r)))), (11, .ref (row i r)), (10, .ref (row i r)), (9, .int (nI r)), (8, .int (nI (bN V i))), (7, .ref (lvl i)), (6, .ref (lvl i)), (5, .int (nI i)), (3, .ref lv), (4, .int (nI 4)), (0, .ref mo), (1, .int (nI x))]) hx hb dX3_latest_146 hl (k := 2) rfl (nI_add (k) 1) (by decide) rfl (fun ls hl => ?_)
              refine lv_goto (tgt := 107) hx hb dX3_latest_149 (by decide) ?_
              rw [c_126] at hl
              exact ih107 (by omega) trivial ls (by show lv_has ls 15 [(13, .int (nI (k + 1))), (2, va_rf (oA (bkR (laR (bG V i) (ω i) x (laL V ω x (tg d δ x) i) r) (bG V i r) (ω i r) x (k + 1)))), (12, .int (nI (szR (bG V i r)))), (11, .ref (row i r)), (10, .ref (row i r)), (9, .int (nI r)), (8, .int (nI (bN V i))), (7, .ref (lvl i)), (6, .ref (lvl i)), (5, .int (nI i)), (3, .ref lv), (4, .int (nI 4)), (0, .ref mo), (1, .int (nI x))]; rw [hby.1, hB]; exact lv_sub hl [0, 1, 3, 4, 5, 6, 7, 8, 9, 10, 11, 12, 13, 14] rfl)
            · replace hl : lv_has ls 15 [(14, .ref (((ω i r) (nthR (bG V i r) k)).2)), (13, .int (nI k)), (2, .ref (t.2)), (12, .int (nI (szR (bG V i r)))), (11, .ref (row i r)), (10, .ref (row i r)), (9, .int (nI r)), (8, .int (nI (bN V i))), (7, .ref (lvl i)), (6, .ref (lvl i)), (5, .int (nI i)), (3, .ref lv), (4, .int (nI 4)), (0, .ref mo), (1, .int (nI x))] := by rw [hby.2, hB] at hl; exact hl
              obtain ⟨⟨v9, hst⟩, hlt⟩ := hm.src hoT hoD hx6 (by omega) hB (by omega) hhas
              have ht1 := hst.2.2
              have ht3 := ((hm.crow (l := i) (r := r) (by omega) (by omega)).at (k := k) (by omega)).2.2
              have hle9 : ((ω i r) (nthR (bG V i r) k)).1 ≤ t.1 := by rw [c_126]; omega
              refine lv_aload_n hx hb dX3_latest_129 rfl (lv_at hl 2 rfl) ?_
              refine lv_ifnull hx hb dX3_latest_130 ?_
              refine lv_aload hx hb dX3_latest_133 (lv_at hl 0 rfl) ?_
              refine lv_iconst (v := nI 2) hx hb dX3_latest_135 (by decide) ?_
              refine h_sl2 ((hm.crow (l := i) (r := r) (by omega) (by omega)).at (k := k) (by omega)) hx hb hK0 hV0 dX3_latest_136 ?_
              refine lv_aload_n hx hb dX3_latest_137 rfl (lv_at hl 2 rfl) ?_
              refine lv_iconst (v := nI 2) hx hb dX3_latest_138 (by decide) ?_
              refine h_sl2 hst hx hb hK0 hV0 dX3_latest_139 ?_
              refine h_icmp_le (a := ((ω i r) (nthR (bG V i r) k)).1) (b := t.1) (tgt := 146) hx hb dX3_latest_140 (by decide) (by omega) (by omega) (fun c_140 => ?_) (fun c_140 => absurd hle9 c_140)
              refine lv_iinc (v := nI (k + 1)) (lv' := [(13, .int (nI (k + 1))), (14, .ref (((ω i r) (nthR (bG V i r) k)).2)), (2, .ref (t.2)), (12, .int (nI (szR (bG V i r)))), (11, .ref (row i r)), (10, .ref (row i r)), (9, .int (nI r)), (8, .int (nI (bN V i))), (7, .ref (lvl i)), (6, .ref (lvl i)), (5, .int (nI i)), (3, .ref lv), (4, .int (nI 4)), (0, .ref mo), (1, .int (nI x))]) hx hb dX3_latest_146 hl (k := 1) rfl (nI_add (k) 1) (by decide) rfl (fun ls hl => ?_)
              refine lv_goto (tgt := 107) hx hb dX3_latest_149 (by decide) ?_
              exact ih107 (by omega) trivial ls (by show lv_has ls 15 [(13, .int (nI (k + 1))), (2, va_rf (oA (bkR (laR (bG V i) (ω i) x (laL V ω x (tg d δ x) i) r) (bG V i r) (ω i r) x (k + 1)))), (12, .int (nI (szR (bG V i r)))), (11, .ref (row i r)), (10, .ref (row i r)), (9, .int (nI r)), (8, .int (nI (bN V i))), (7, .ref (lvl i)), (6, .ref (lvl i)), (5, .int (nI i)), (3, .ref lv), (4, .int (nI 4)), (0, .ref mo), (1, .int (nI x))]; rw [hby.1, hB]; exact lv_sub hl [0, 2, 3, 4, 5, 6, 7, 8, 9, 10, 11, 12, 13, 14] rfl)
  · refine lv_aload_n hx hb dX3_latest_21 rfl (lv_at hl 3 rfl) ?_
    refine lv_iload hx hb dX3_latest_22 (lv_at hl 0 rfl) ?_
    refine h_aaldE (i := k) hm.cdk.1 hx hb hK0 hV0 rfl rfl (by omega) (by omega) dX3_latest_24 ?_
    refine lv_astore (lv' := [(6, .ref ((δ (nthR d k)).2)), (5, .int (nI k)), (2, va_rf (oA (bkR none d δ x k))), (4, .int (nI (szR d))), (3, .ref dk), (0, .ref mo), (1, .int (nI x))]) hx hb dX3_latest_25 hl (by decide) rfl (fun ls hl => ?_)
    refine lv_aload hx hb dX3_latest_27 (lv_at hl 0 rfl) ?_
    refine lv_iconst (v := nI 0) hx hb dX3_latest_29 (by decide) ?_
    refine h_sl0 (hm.cdk.at (k := k) (by omega)) hx hb hK0 hV0 dX3_latest_30 ?_
    refine lv_iload_n hx hb dX3_latest_31 rfl (lv_at hl 6 rfl) ?_
    have hnk := (nth_at (f := d) (k := k) (by omega)).1
    refine h_icmp_ne (a := nthR d k) (b := x) (tgt := 38) hx hb dX3_latest_32 (by decide) (by omega) (by omega) (fun c_32 => ?_) (fun c_32 => ?_)
    · refine lv_iinc (v := nI (k + 1)) (lv' := [(5, .int (nI (k + 1))), (6, .ref ((δ (nthR d k)).2)), (2, va_rf (oA (bkR none d δ x k))), (4, .int (nI (szR d))), (3, .ref dk), (0, .ref mo), (1, .int (nI x))]) hx hb dX3_latest_38 hl (k := 1) rfl (nI_add (k) 1) (by decide) rfl (fun ls hl => ?_)
      refine lv_goto (tgt := 14) hx hb dX3_latest_41 (by decide) ?_
      exact ih14 (by omega) trivial ls (by show lv_has ls 15 [(5, .int (nI (k + 1))), (2, va_rf (oA (bkR none d δ x (k + 1)))), (4, .int (nI (szR d))), (3, .ref dk), (0, .ref mo), (1, .int (nI x))]; rw [bk_n hx6 (by omega) c_32]; exact lv_sub hl [0, 2, 3, 4, 5, 6] rfl)
    · refine lv_aload hx hb dX3_latest_35 (lv_at hl 0 rfl) ?_
      refine lv_astore_n (lv' := [(2, .ref ((δ (nthR d k)).2)), (6, .ref ((δ (nthR d k)).2)), (5, .int (nI k)), (4, .int (nI (szR d))), (3, .ref dk), (0, .ref mo), (1, .int (nI x))]) hx hb dX3_latest_37 rfl hl (by decide) rfl (fun ls hl => ?_)
      refine lv_iinc (v := nI (k + 1)) (lv' := [(5, .int (nI (k + 1))), (2, .ref ((δ (nthR d k)).2)), (6, .ref ((δ (nthR d k)).2)), (4, .int (nI (szR d))), (3, .ref dk), (0, .ref mo), (1, .int (nI x))]) hx hb dX3_latest_38 hl (k := 2) rfl (nI_add (k) 1) (by decide) rfl (fun ls hl => ?_)
      refine lv_goto (tgt := 14) hx hb dX3_latest_41 (by decide) ?_
      rw [c_32] at hl
      exact ih14 (by omega) trivial ls (by show lv_has ls 15 [(5, .int (nI (k + 1))), (2, va_rf (oA (bkR none d δ x (k + 1)))), (4, .int (nI (szR d))), (3, .ref dk), (0, .ref mo), (1, .int (nI x))]; rw [(bk_y (by omega) c_32).1]; exact lv_sub hl [0, 1, 3, 4, 5, 6] rfl)

set_option maxHeartbeats 1000000 in
set_option maxRecDepth 100000 in
theorem c_X3_word (l : Launch) (G : hG) (hp : HP) (mo dk lv : Nat) (lvl : Nat → Nat) (row : Nat → Nat → Nat) (rm : Int32) (tm : Nat) (dt : Int32) (d : Row) (δ : TG) (V : BV) (ω : TS) (hm : sA mo dk lv lvl row rm tm dt d δ V ω hp) (hoT : oT V ω) (hoD : oD d δ V ω) (hokd : okR d) (x : Nat) (hx6 : x < 64) : hRd l yX3_word wsX3_word 1 34 G hp [.ref mo, .int (nI x)] (some (.int (wdS d (bN V) (bG V) x))) := by
  refine Met.ofW (cc := cX3_word) (maxL := 3) (ret := (some .int)) (by decide) rfl ?_
  intro p e s m args below meth c s₁ B hml hv
  obtain ⟨rfl, hV0, hK0⟩ := hv
  have hx := B.exec
  have hb := B.bytes
  have hr := B.returns
  have hts := atoms_spec (ws := wsX3_word) B.pre
  have hown : s.vm.findClass RX3 = some m.cls := findClass_of_methodNamed B.named
  have hlocks := B.notSynchronized
  have hF : CallFix p m c cX3_word 3 s [.ref mo, .int (nI x)].toArray wsX3_word RX3 := ⟨hx, hb, hml, hown, hts⟩
  have hl := lv_entry ([.ref mo, .int (nI x)]) (n := 3) (Nat.le_of_ble_eq_true rfl)
  rw [lg_entry_eq]
  generalize (lg_sl ([.ref mo, .int (nI x)]) ++ List.replicate (3 - (lg_sl ([.ref mo, .int (nI x)])).length) Slot.unset).toArray = ls at hl ⊢
  replace hl : lv_has ls 3 [(0, .ref mo), (1, .int (nI x))] := hl
  have hn := hm.le
  refine lv_aload_n hx hb dX3_word_0 rfl (lv_at hl 0 rfl) ?_
  refine lv_iload_n hx hb dX3_word_1 rfl (lv_at hl 1 rfl) ?_
  refine h_rdV (As := [.int (nI x)]) (rest := []) hF (c_X3_latest l G hp mo dk lv lvl row rm tm dt d δ V ω hm hoT hoD hokd x hx6) 1 gX3_word_X3_latest rfl (by decide +kernel) ⟨Nat.le_of_ble_eq_true rfl, Nat.le_of_ble_eq_true rfl⟩ hK0 hV0 hm.cmo rfl rfl rfl hl.1 rfl (Nat.le_of_ble_eq_true rfl) (Nat.le_refl _) (Nat.le_refl _) dX3_word_2 ?_
  rcases hS : laS d δ V ω x with _ | t
  · have hw1 := la_word hS
    refine lv_astore_nN (lv' := [(2, .null), (0, .ref mo), (1, .int (nI x))]) hx hb dX3_word_5 rfl hl (by decide) rfl (fun ls hl => ?_)
    refine lv_aload_nN hx hb dX3_word_6 rfl (lv_at hl 0 rfl) ?_
    refine lv_ifnonnullN hx hb dX3_word_7 ?_
    refine lv_iconst (v := (-1)) hx hb dX3_word_10 (by decide) ?_
    refine lv_goto (tgt := 17) hx hb dX3_word_11 (by decide) ?_
    exact h_iretR hx hb hr hlocks hw1 dX3_word_17
  · have hsw := hm.sw hokd hx6 hS
    refine lv_astore_n (lv' := [(2, .ref (t.2)), (0, .ref mo), (1, .int (nI x))]) hx hb dX3_word_5 rfl hl (by decide) rfl (fun ls hl => ?_)
    refine lv_aload_n hx hb dX3_word_6 rfl (lv_at hl 0 rfl) ?_
    refine lv_ifnonnull (tgt := 14) hx hb dX3_word_7 (by decide) ?_
    refine lv_aload_n hx hb dX3_word_14 rfl (lv_at hl 0 rfl) ?_
    refine lv_iconst (v := nI 1) hx hb dX3_word_15 (by decide) ?_
    refine h_sl1 hsw.1 hx hb hK0 hV0 dX3_word_16 ?_
    exact h_iretR hx hb hr hlocks hsw.2 dX3_word_17

set_option maxHeartbeats 1000000 in
set_option maxRecDepth 100000 in
theorem c_X3_opened (l : Launch) (G : hG) (hp : HP) (mo dk lv : Nat) (lvl : Nat → Nat) (row : Nat → Nat → Nat) (rm : Int32) (tm : Nat) (dt : Int32) (d : Row) (δ : TG) (V : BV) (ω : TS) (hm : sA mo dk lv lvl row rm tm dt d δ V ω hp) (x : Nat) (hx6 : x < 64) : hRd l yX3_opened wsX3_opened 0 0 G hp [.ref mo, .int (nI x)] (some (.int (nI (dtS d (bN V) (bG V) x)))) := by
  refine Met.ofW (cc := cX3_opened) (maxL := 17) (ret := (some .int)) (by decide) rfl ?_
  intro p e s m args below meth c s₁ B hml hv
  obtain ⟨rfl, hV0, hK0⟩ := hv
  have hx := B.exec
  have hb := B.bytes
  have hr := B.returns
  have hts := atoms_spec (ws := wsX3_opened) B.pre
  have hown : s.vm.findClass RX3 = some m.cls := findClass_of_methodNamed B.named
  have hlocks := B.notSynchronized
  have hF : CallFix p m c cX3_opened 17 s [.ref mo, .int (nI x)].toArray wsX3_opened RX3 := ⟨hx, hb, hml, hown, hts⟩
  have hw0 := hts (.fieldLink RX3 15 "SlipLevelsLaw$Sim" "desk" "[[I") (by decide +kernel)
  have hw1 := hts (.fieldLink RX3 22 "SlipLevelsLaw$Sim" "levels" "[[[[I") (by decide +kernel)
  have hi3 : ∀ w ∈ u_ws RX3 TX3 7, w ∈ wsX3_opened := by
    intro w h
    unfold wsX3_opened
    simp only [List.mem_cons, List.mem_append, h, true_or, or_true]
  have hl := lv_entry ([.ref mo, .int (nI x)]) (n := 17) (Nat.le_of_ble_eq_true rfl)
  rw [lg_entry_eq]
  generalize (lg_sl ([.ref mo, .int (nI x)]) ++ List.replicate (17 - (lg_sl ([.ref mo, .int (nI x)])).length) Slot.unset).toArray = ls at hl ⊢
  replace hl : lv_has ls 17 [(0, .ref mo), (1, .int (nI x))] := hl
  have hn := hm.le
  have hzd := szR_le d
  refine lv_aload_n hx hb dX3_opened_0 rfl (lv_at hl 0 rfl) ?_
  refine h_get (v := .ref dk) hx hb hts hi3 hown hK0 hV0 hm.cmo rfl 5 (by decide) hw0 rfl dX3_opened_1 ?_
  refine lv_astore_n (lv' := [(2, .ref dk), (0, .ref mo), (1, .int (nI x))]) hx hb dX3_opened_4 rfl hl (by decide) rfl (fun ls hl => ?_)
  refine lv_aload_n hx hb dX3_opened_5 rfl (lv_at hl 0 rfl) ?_
  refine h_alenQ hm.cdk.1 hx hb hK0 hV0 rfl dX3_opened_6 ?_
  refine lv_istore_n (lv' := [(3, .int (nI (szR d))), (2, .ref dk), (0, .ref mo), (1, .int (nI x))]) hx hb dX3_opened_7 rfl hl (by decide) rfl (fun ls hl => ?_)
  refine lv_iconst (v := nI 0) hx hb dX3_opened_8 (by decide) ?_
  refine lv_istore (lv' := [(4, .int (nI 0)), (3, .int (nI (szR d))), (2, .ref dk), (0, .ref mo), (1, .int (nI x))]) hx hb dX3_opened_9 hl (by decide) rfl (fun ls hl => ?_)
  replace hl : lv_has ls 17 [(4, .int (nI 0)), (3, .int (nI (szR d))), (2, .ref dk), (0, .ref mo), (1, .int (nI x))] := lv_sub hl [0, 1, 2, 3, 4] rfl
  revert ls
  refine h_loop (szR d) (fun k => [(4, .int (nI k)), (3, .int (nI (szR d))), (2, .ref dk), (0, .ref mo), (1, .int (nI x))]) (fun k => ∀ j, j < k → nthR d j ≠ x) (fun k hi11 hI11 ih11 ls hl => ?_) 0 (Nat.zero_le _) (fun j hj => absurd hj (Nat.not_lt_zero j))
  refine lv_iload hx hb dX3_opened_11 (lv_at hl 0 rfl) ?_
  refine lv_iload_n hx hb dX3_opened_13 rfl (lv_at hl 1 rfl) ?_
  refine h_icmp_ge (a := k) (b := szR d) (tgt := 39) hx hb dX3_opened_14 (by decide) (by omega) (by omega) (fun c_14 => ?_) (fun c_14 => ?_)
  · obtain rfl : k = szR d := by omega
    refine lv_iconst (v := nI 0) hx hb dX3_opened_39 (by decide) ?_
    refine lv_istore_n (lv' := [(2, .int (nI 0)), (4, .int (nI (szR d))), (3, .int (nI (szR d))), (0, .ref mo), (1, .int (nI x))]) hx hb dX3_opened_40 rfl hl (by decide) rfl (fun ls hl => ?_)
    refine lv_aload_n hx hb dX3_opened_41 rfl (lv_at hl 3 rfl) ?_
    refine h_get (v := .ref lv) hx hb hts hi3 hown hK0 hV0 hm.cmo rfl 6 (by decide) hw1 rfl dX3_opened_42 ?_
    refine lv_astore_n (lv' := [(3, .ref lv), (2, .int (nI 0)), (4, .int (nI (szR d))), (0, .ref mo), (1, .int (nI x))]) hx hb dX3_opened_45 rfl hl (by decide) rfl (fun ls hl => ?_)
    refine lv_aload_n hx hb dX3_opened_46 rfl (lv_at hl 0 rfl) ?_
    refine h_alenQ hm.clv hx hb hK0 hV0 rfl dX3_opened_47 ?_
    refine lv_istore (lv' := [(4, .int (nI 4)), (3, .ref lv), (2, .int (nI 0)), (0, .ref mo), (1, .int (nI x))]) hx hb dX3_opened_48 hl (by decide) rfl (fun ls hl => ?_)
    refine lv_iconst (v := nI 0) hx hb dX3_opened_50 (by decide) ?_
    refine lv_istore (lv' := [(5, .int (nI 0)), (4, .int (nI 4)), (3, .ref lv), (2, .int (nI 0)), (0, .ref mo), (1, .int (nI x))]) hx hb dX3_opened_51 hl (by decide) rfl (fun ls hl => ?_)
    replace hl : lv_has ls 17 [(5, .int (nI 0)), (2, .int (nI 0)), (4, .int (nI 4)), (3, .ref lv), (0, .ref mo), (1, .int (nI x))] := lv_sub hl [0, 3, 1, 2, 4, 5] rfl
    revert ls
    refine h_loopO 4 (fun i o => [(5, .int (nI i)), (2, .int (nI o)), (4, .int (nI 4)), (3, .ref lv), (0, .ref mo), (1, .int (nI x))]) (fun i o => o + dtA (bN V) (bG V) x (4 - i) i = dtA (bN V) (bG V) x 4 0) (fun i hi53 o hO53 ih53 ls hl => ?_) 0 (Nat.zero_le _) 0 (Nat.zero_add _)
    refine lv_iload hx hb dX3_opened_53 (lv_at hl 0 rfl) ?_
    refine lv_iload hx hb dX3_opened_55 (lv_at hl 2 rfl) ?_
    refine h_icmp_ge (a := i) (b := 4) (tgt := 230) hx hb dX3_opened_57 (by decide) (by omega) (by omega) (fun c_57 => ?_) (fun c_57 => ?_)
    · refine lv_iload_n hx hb dX3_opened_230 rfl (lv_at hl 1 rfl) ?_
      exact h_iretR hx hb hr hlocks (by rw [dt_n (no_has hx6 hI11), ← hO53, show i = 4 by omega]; rfl) dX3_opened_231
    · refine lv_aload_n hx hb dX3_opened_60 rfl (lv_at hl 3 rfl) ?_
      refine lv_iload hx hb dX3_opened_61 (lv_at hl 0 rfl) ?_
      refine h_aaldE (i := i) hm.clv hx hb hK0 hV0 rfl rfl (by omega) (by omega) dX3_opened_63 ?_
      refine lv_astore (lv' := [(6, .ref (lvl i)), (5, .int (nI i)), (2, .int (nI o)), (4, .int (nI 4)), (3, .ref lv), (0, .ref mo), (1, .int (nI x))]) hx hb dX3_opened_64 hl (by decide) rfl (fun ls hl => ?_)
      refine lv_aload hx hb dX3_opened_66 (lv_at hl 0 rfl) ?_
      refine lv_astore (lv' := [(7, .ref (lvl i)), (6, .ref (lvl i)), (5, .int (nI i)), (2, .int (nI o)), (4, .int (nI 4)), (3, .ref lv), (0, .ref mo), (1, .int (nI x))]) hx hb dX3_opened_68 hl (by decide) rfl (fun ls hl => ?_)
      refine lv_aload hx hb dX3_opened_70 (lv_at hl 0 rfl) ?_
      refine h_alenQ (hm.clvl (l := i) (by omega)) hx hb hK0 hV0 rfl dX3_opened_72 ?_
      refine lv_istore (lv' := [(8, .int (nI (bN V i))), (7, .ref (lvl i)), (6, .ref (lvl i)), (5, .int (nI i)), (2, .int (nI o)), (4, .int (nI 4)), (3, .ref lv), (0, .ref mo), (1, .int (nI x))]) hx hb dX3_opened_73 hl (by decide) rfl (fun ls hl => ?_)
      refine lv_iconst (v := nI 0) hx hb dX3_opened_75 (by decide) ?_
      refine lv_istore (lv' := [(9, .int (nI 0)), (8, .int (nI (bN V i))), (7, .ref (lvl i)), (6, .ref (lvl i)), (5, .int (nI i)), (2, .int (nI o)), (4, .int (nI 4)), (3, .ref lv), (0, .ref mo), (1, .int (nI x))]) hx hb dX3_opened_76 hl (by decide) rfl (fun ls hl => ?_)
      have hni := hn i
      have hO53c : o + dtL (bG V i) x (dtA (bN V) (bG V) x (4 - (i + 1)) (i + 1)) (bN V i - 0) 0 = dtA (bN V) (bG V) x 4 0 := by rw [← hO53, show 4 - i = (4 - (i + 1)) + 1 by omega]; rfl
      replace hl : lv_has ls 17 [(9, .int (nI 0)), (2, .int (nI o)), (8, .int (nI (bN V i))), (7, .ref (lvl i)), (6, .ref (lvl i)), (5, .int (nI i)), (4, .int (nI 4)), (3, .ref lv), (0, .ref mo), (1, .int (nI x))] := lv_sub hl [0, 5, 1, 2, 3, 4, 6, 7, 8, 9] rfl
      revert ls
      refine h_loopO (bN V i) (fun r o => [(9, .int (nI r)), (2, .int (nI o)), (8, .int (nI (bN V i))), (7, .ref (lvl i)), (6, .ref (lvl i)), (5, .int (nI i)), (4, .int (nI 4)), (3, .ref lv), (0, .ref mo), (1, .int (nI x))]) (fun r o => o + dtL (bG V i) x (dtA (bN V) (bG V) x (4 - (i + 1)) (i + 1)) (bN V i - r) r = dtA (bN V) (bG V) x 4 0) (fun r hi78 o hO78 ih78 ls hl => ?_) 0 (Nat.zero_le _) o hO53c
      refine lv_iload hx hb dX3_opened_78 (lv_at hl 0 rfl) ?_
      refine lv_iload hx hb dX3_opened_80 (lv_at hl 2 rfl) ?_
      refine h_icmp_ge (a := r) (b := bN V i) (tgt := 224) hx hb dX3_opened_82 (by decide) (by omega) (by omega) (fun c_82 => ?_) (fun c_82 => ?_)
      · refine lv_iinc (v := nI (i + 1)) (lv' := [(5, .int (nI (i + 1))), (9, .int (nI r)), (2, .int (nI o)), (8, .int (nI (bN V i))), (7, .ref (lvl i)), (6, .ref (lvl i)), (4, .int (nI 4)), (3, .ref lv), (0, .ref mo), (1, .int (nI x))]) hx hb dX3_opened_224 hl (k := 5) rfl (nI_add (i) 1) (by decide) rfl (fun ls hl => ?_)
        refine lv_goto (tgt := 53) hx hb dX3_opened_227 (by decide) ?_
        obtain rfl : r = bN V i := by omega
        exact ih53 (by omega) (o) (by rw [← hO78, Nat.sub_self]; rfl) ls (lv_sub hl [0, 2, 6, 7, 8, 9] rfl)
      · refine lv_aload hx hb dX3_opened_85 (lv_at hl 3 rfl) ?_
        refine lv_iload hx hb dX3_opened_87 (lv_at hl 0 rfl) ?_
        refine h_aaldE (i := r) (hm.clvl (l := i) (by omega)) hx hb hK0 hV0 rfl rfl (by omega) (by omega) dX3_opened_89 ?_
        refine lv_astore (lv' := [(10, .ref (row i r)), (9, .int (nI r)), (2, .int (nI o)), (8, .int (nI (bN V i))), (7, .ref (lvl i)), (6, .ref (lvl i)), (5, .int (nI i)), (4, .int (nI 4)), (3, .ref lv), (0, .ref mo), (1, .int (nI x))]) hx hb dX3_opened_90 hl (by decide) rfl (fun ls hl => ?_)
        refine lv_iconst (v := nI 0) hx hb dX3_opened_92 (by decide) ?_
        refine lv_istore (lv' := [(11, .int (nI 0)), (10, .ref (row i r)), (9, .int (nI r)), (2, .int (nI o)), (8, .int (nI (bN V i))), (7, .ref (lvl i)), (6, .ref (lvl i)), (5, .int (nI i)), (4, .int (nI 4)), (3, .ref lv), (0, .ref mo), (1, .int (nI x))]) hx hb dX3_opened_93 hl (by decide) rfl (fun ls hl => ?_)
        refine lv_iconst (v := nI 0) hx hb dX3_opened_95 (by decide) ?_
        refine lv_istore (lv' := [(12, .int (nI 0)), (11, .int (nI 0)), (10, .ref (row i r)), (9, .int (nI r)), (2, .int (nI o)), (8, .int (nI (bN V i))), (7, .ref (lvl i)), (6, .ref (lvl i)), (5, .int (nI i)), (4, .int (nI 4)), (3, .ref lv), (0, .ref mo), (1, .int (nI x))]) hx hb dX3_opened_96 hl (by decide) rfl (fun ls hl => ?_)
        refine lv_aload hx hb dX3_opened_98 (lv_at hl 2 rfl) ?_
        refine lv_astore (lv' := [(13, .ref (row i r)), (12, .int (nI 0)), (11, .int (nI 0)), (10, .ref (row i r)), (9, .int (nI r)), (2, .int (nI o)), (8, .int (nI (bN V i))), (7, .ref (lvl i)), (6, .ref (lvl i)), (5, .int (nI i)), (4, .int (nI 4)), (3, .ref lv), (0, .ref mo), (1, .int (nI x))]) hx hb dX3_opened_100 hl (by decide) rfl (fun ls hl => ?_)
        refine lv_aload hx hb dX3_opened_102 (lv_at hl 0 rfl) ?_
        refine h_alenQ (hm.crow (l := i) (r := r) (by omega) (by omega)).1 hx hb hK0 hV0 rfl dX3_opened_104 ?_
        refine lv_istore (lv' := [(14, .int (nI (szR (bG V i r)))), (13, .ref (row i r)), (12, .int (nI 0)), (11, .int (nI 0)), (10, .ref (row i r)), (9, .int (nI r)), (2, .int (nI o)), (8, .int (nI (bN V i))), (7, .ref (lvl i)), (6, .ref (lvl i)), (5, .int (nI i)), (4, .int (nI 4)), (3, .ref lv), (0, .ref mo), (1, .int (nI x))]) hx hb dX3_opened_105 hl (by decide) rfl (fun ls hl => ?_)
        refine lv_iconst (v := nI 0) hx hb dX3_opened_107 (by decide) ?_
        refine lv_istore (lv' := [(15, .int (nI 0)), (14, .int (nI (szR (bG V i r)))), (13, .ref (row i r)), (12, .int (nI 0)), (11, .int (nI 0)), (10, .ref (row i r)), (9, .int (nI r)), (2, .int (nI o)), (8, .int (nI (bN V i))), (7, .ref (lvl i)), (6, .ref (lvl i)), (5, .int (nI i)), (4, .int (nI 4)), (3, .ref lv), (0, .ref mo), (1, .int (nI x))]) hx hb dX3_opened_108 hl (by decide) rfl (fun ls hl => ?_)
        have hz8 := szR_le (bG V i r)
        have hps := hm.pos (l := i) (r := r) (by omega) (by omega)
        replace hl : lv_has ls 17 [(15, .int (nI 0)), (11, .int (bI (exK (bG V i r) (fun y => decide (y % 8 = x % 8)) 0))), (12, .int (bI (exK (bG V i r) (fun y => decide (y = x)) 0))), (14, .int (nI (szR (bG V i r)))), (13, .ref (row i r)), (10, .ref (row i r)), (9, .int (nI r)), (2, .int (nI o)), (8, .int (nI (bN V i))), (7, .ref (lvl i)), (6, .ref (lvl i)), (5, .int (nI i)), (4, .int (nI 4)), (3, .ref lv), (0, .ref mo), (1, .int (nI x))] := lv_sub hl [0, 4, 3, 1, 2, 5, 6, 7, 8, 9, 10, 11, 12, 13, 14, 15] rfl
        revert ls
        refine h_loop (szR (bG V i r)) (fun k => [(15, .int (nI k)), (11, .int (bI (exK (bG V i r) (fun y => decide (y % 8 = x % 8)) k))), (12, .int (bI (exK (bG V i r) (fun y => decide (y = x)) k))), (14, .int (nI (szR (bG V i r)))), (13, .ref (row i r)), (10, .ref (row i r)), (9, .int (nI r)), (2, .int (nI o)), (8, .int (nI (bN V i))), (7, .ref (lvl i)), (6, .ref (lvl i)), (5, .int (nI i)), (4, .int (nI 4)), (3, .ref lv), (0, .ref mo), (1, .int (nI x))]) (fun _ => True) (fun k hi110 hI110 ih110 ls hl => ?_) 0 (Nat.zero_le _) trivial
        refine lv_iload hx hb dX3_opened_110 (lv_at hl 0 rfl) ?_
        refine lv_iload hx hb dX3_opened_112 (lv_at hl 3 rfl) ?_
        refine h_icmp_ge (a := k) (b := szR (bG V i r)) (tgt := 176) hx hb dX3_opened_114 (by decide) (by omega) (by omega) (fun c_114 => ?_) (fun c_114 => ?_)
        · obtain rfl : k = szR (bG V i r) := by omega
          replace hl : lv_has ls 17 [(15, .int (nI (szR (bG V i r)))), (11, .int (bI (opR (bG V i r) (x % 8)))), (12, .int (bI (hasR (bG V i r) x))), (10, .ref (row i r)), (9, .int (nI r)), (2, .int (nI o)), (8, .int (nI (bN V i))), (7, .ref (lvl i)), (6, .ref (lvl i)), (5, .int (nI i)), (4, .int (nI 4)), (3, .ref lv), (0, .ref mo), (1, .int (nI x))] := by rw [exK_it hx6, exK_hole (by omega)] at hl; exact lv_sub hl [0, 1, 2, 5, 6, 7, 8, 9, 10, 11, 12, 13, 14, 15] rfl
          have hls9 := nth_ls hps
          have hgr9 := nth_gr hps
          have hn60 := (nth_at (f := (bG V i r)) (k := 0) (by omega)).1
          have hn61 := (nth_at (f := (bG V i r)) (k := szR (bG V i r) - 1) (by omega)).1
          refine lv_aload hx hb dX3_opened_176 (lv_at hl 3 rfl) ?_
          refine lv_iconst (v := nI 0) hx hb dX3_opened_178 (by decide) ?_
          refine h_aaldE (i := 0) (hm.crow (l := i) (r := r) (by omega) (by omega)).1 hx hb hK0 hV0 rfl rfl (by omega) (by omega) dX3_opened_179 ?_
          refine lv_iconst (v := nI 0) hx hb dX3_opened_180 (by decide) ?_
          refine h_sl0 ((hm.crow (l := i) (r := r) (by omega) (by omega)).at (k := 0) (by omega)) hx hb hK0 hV0 dX3_opened_181 ?_
          refine lv_iload_n hx hb dX3_opened_182 rfl (lv_at hl 13 rfl) ?_
          refine h_icmp_gt (a := nthR (bG V i r) 0) (b := x) (tgt := 218) hx hb dX3_opened_183 (by decide) (by omega) (by omega) (fun c_183 => ?_) (fun c_183 => ?_)
          · refine lv_iinc (v := nI (r + 1)) (lv' := [(9, .int (nI (r + 1))), (15, .int (nI (szR (bG V i r)))), (11, .int (bI (opR (bG V i r) (x % 8)))), (12, .int (bI (hasR (bG V i r) x))), (10, .ref (row i r)), (2, .int (nI o)), (8, .int (nI (bN V i))), (7, .ref (lvl i)), (6, .ref (lvl i)), (5, .int (nI i)), (4, .int (nI 4)), (3, .ref lv), (0, .ref mo), (1, .int (nI x))]) hx hb dX3_opened_218 hl (k := 4) rfl (nI_add (r) 1) (by decide) rfl (fun ls hl => ?_)
            refine lv_goto (tgt := 78) hx hb dX3_opened_221 (by decide) ?_
            exact ih78 (by omega) (o) (by rw [← hO78, show bN V i - r = (bN V i - (r + 1)) + 1 by omega, dtL_s, opn_lo (by omega)]; rfl) ls (lv_sub hl [0, 5, 6, 7, 8, 9, 10, 11, 12, 13] rfl)
          · refine lv_aload hx hb dX3_opened_186 (lv_at hl 3 rfl) ?_
            refine lv_aload hx hb dX3_opened_188 (lv_at hl 3 rfl) ?_
            refine h_alenQ (hm.crow (l := i) (r := r) (by omega) (by omega)).1 hx hb hK0 hV0 rfl dX3_opened_190 ?_
            refine lv_iconst (v := nI 1) hx hb dX3_opened_191 (by decide) ?_
            refine h_isubN hx hb (by omega) dX3_opened_192 ?_
            refine h_aaldE (i := szR (bG V i r) - 1) (hm.crow (l := i) (r := r) (by omega) (by omega)).1 hx hb hK0 hV0 rfl rfl (by omega) (by omega) dX3_opened_193 ?_
            refine lv_iconst (v := nI 0) hx hb dX3_opened_194 (by decide) ?_
            refine h_sl0 ((hm.crow (l := i) (r := r) (by omega) (by omega)).at (k := (szR (bG V i r) - 1)) (by omega)) hx hb hK0 hV0 dX3_opened_195 ?_
            refine lv_iload_n hx hb dX3_opened_196 rfl (lv_at hl 13 rfl) ?_
            refine h_icmp_lt (a := nthR (bG V i r) (szR (bG V i r) - 1)) (b := x) (tgt := 218) hx hb dX3_opened_197 (by decide) (by omega) (by omega) (fun c_197 => ?_) (fun c_197 => ?_)
            · refine lv_iinc (v := nI (r + 1)) (lv' := [(9, .int (nI (r + 1))), (15, .int (nI (szR (bG V i r)))), (11, .int (bI (opR (bG V i r) (x % 8)))), (12, .int (bI (hasR (bG V i r) x))), (10, .ref (row i r)), (2, .int (nI o)), (8, .int (nI (bN V i))), (7, .ref (lvl i)), (6, .ref (lvl i)), (5, .int (nI i)), (4, .int (nI 4)), (3, .ref lv), (0, .ref mo), (1, .int (nI x))]) hx hb dX3_opened_218 hl (k := 4) rfl (nI_add (r) 1) (by decide) rfl (fun ls hl => ?_)
              refine lv_goto (tgt := 78) hx hb dX3_opened_221 (by decide) ?_
              exact ih78 (by omega) (o) (by rw [← hO78, show bN V i - r = (bN V i - (r + 1)) + 1 by omega, dtL_s, opn_hi (fun z => absurd ((nI_leI (by omega) (by omega)).mp (hgr9 ▸ z)) (by omega))]; rfl) ls (lv_sub hl [0, 5, 6, 7, 8, 9, 10, 11, 12, 13] rfl)
            · refine lv_iload hx hb dX3_opened_200 (lv_at hl 1 rfl) ?_
              refine h_if_neB (tgt := 208) hx hb dX3_opened_202 (by decide) (fun c_202 => ?_) (fun c_202 => ?_)
              · refine lv_iinc (v := nI (o + 1)) (lv' := [(2, .int (nI (o + 1))), (15, .int (nI (szR (bG V i r)))), (11, .int (bI (opR (bG V i r) (x % 8)))), (12, .int (bI (hasR (bG V i r) x))), (10, .ref (row i r)), (9, .int (nI r)), (8, .int (nI (bN V i))), (7, .ref (lvl i)), (6, .ref (lvl i)), (5, .int (nI i)), (4, .int (nI 4)), (3, .ref lv), (0, .ref mo), (1, .int (nI x))]) hx hb dX3_opened_208 hl (k := 5) rfl (nI_add (o) 1) (by decide) rfl (fun ls hl => ?_)
                refine lv_iload hx hb dX3_opened_211 (lv_at hl 3 rfl) ?_
                refine h_if_eqB (tgt := 218) hx hb dX3_opened_213 (by decide) (fun c_213 => ?_) (fun c_213 => ?_)
                · refine lv_iinc (v := nI (r + 1)) (lv' := [(9, .int (nI (r + 1))), (2, .int (nI (o + 1))), (15, .int (nI (szR (bG V i r)))), (11, .int (bI (opR (bG V i r) (x % 8)))), (12, .int (bI (hasR (bG V i r) x))), (10, .ref (row i r)), (8, .int (nI (bN V i))), (7, .ref (lvl i)), (6, .ref (lvl i)), (5, .int (nI i)), (4, .int (nI 4)), (3, .ref lv), (0, .ref mo), (1, .int (nI x))]) hx hb dX3_opened_218 hl (k := 5) rfl (nI_add (r) 1) (by decide) rfl (fun ls hl => ?_)
                  refine lv_goto (tgt := 78) hx hb dX3_opened_221 (by decide) ?_
                  exact ih78 (by omega) (o + 1) (by rw [← hO78, show bN V i - r = (bN V i - (r + 1)) + 1 by omega, dtL_s, opn_ho (by omega) (by rw [← hgr9]; exact (nI_leI (by omega) (by omega)).mpr (by omega)), c_202, c_213]; simp; omega) ls (lv_sub hl [0, 1, 6, 7, 8, 9, 10, 11, 12, 13] rfl)
                · refine lv_iload_n hx hb dX3_opened_216 rfl (lv_at hl 0 rfl) ?_
                  exact h_iretR hx hb hr hlocks (by rw [dt_n (no_has hx6 hI11), ← hO78, show bN V i - r = (bN V i - (r + 1)) + 1 by omega, dtL_s, opn_ho (by omega) (by rw [← hgr9]; exact (nI_leI (by omega) (by omega)).mpr (by omega)), c_202, c_213]; rfl) dX3_opened_217
              · refine lv_goto (tgt := 218) hx hb dX3_opened_205 (by decide) ?_
                refine lv_iinc (v := nI (r + 1)) (lv' := [(9, .int (nI (r + 1))), (15, .int (nI (szR (bG V i r)))), (11, .int (bI (opR (bG V i r) (x % 8)))), (12, .int (bI (hasR (bG V i r) x))), (10, .ref (row i r)), (2, .int (nI o)), (8, .int (nI (bN V i))), (7, .ref (lvl i)), (6, .ref (lvl i)), (5, .int (nI i)), (4, .int (nI 4)), (3, .ref lv), (0, .ref mo), (1, .int (nI x))]) hx hb dX3_opened_218 hl (k := 4) rfl (nI_add (r) 1) (by decide) rfl (fun ls hl => ?_)
                refine lv_goto (tgt := 78) hx hb dX3_opened_221 (by decide) ?_
                exact ih78 (by omega) (o) (by rw [← hO78, show bN V i - r = (bN V i - (r + 1)) + 1 by omega, dtL_s, opn_ho (by omega) (by rw [← hgr9]; exact (nI_leI (by omega) (by omega)).mpr (by omega)), c_202]; rfl) ls (lv_sub hl [0, 5, 6, 7, 8, 9, 10, 11, 12, 13] rfl)
        · refine lv_aload hx hb dX3_opened_117 (lv_at hl 4 rfl) ?_
          refine lv_iload hx hb dX3_opened_119 (lv_at hl 0 rfl) ?_
          refine h_aaldE (i := k) (hm.crow (l := i) (r := r) (by omega) (by omega)).1 hx hb hK0 hV0 rfl rfl (by omega) (by omega) dX3_opened_121 ?_
          refine lv_astore (lv' := [(16, .ref (((ω i r) (nthR (bG V i r) k)).2)), (15, .int (nI k)), (11, .int (bI (exK (bG V i r) (fun y => decide (y % 8 = x % 8)) k))), (12, .int (bI (exK (bG V i r) (fun y => decide (y = x)) k))), (14, .int (nI (szR (bG V i r)))), (13, .ref (row i r)), (10, .ref (row i r)), (9, .int (nI r)), (2, .int (nI o)), (8, .int (nI (bN V i))), (7, .ref (lvl i)), (6, .ref (lvl i)), (5, .int (nI i)), (4, .int (nI 4)), (3, .ref lv), (0, .ref mo), (1, .int (nI x))]) hx hb dX3_opened_122 hl (by decide) rfl (fun ls hl => ?_)
          have hnk := (nth_at (f := (bG V i r)) (k := k) (by omega)).1
          refine lv_iload hx hb dX3_opened_124 (lv_at hl 2 rfl) ?_
          refine h_if_neB (tgt := 143) hx hb dX3_opened_126 (by decide) (fun c_126 => ?_) (fun c_126 => ?_)
          · refine lv_iconst (v := nI 1) hx hb dX3_opened_143 (by decide) ?_
            refine lv_goto (tgt := 148) hx hb dX3_opened_144 (by decide) ?_
            refine lv_istore (lv' := [(11, .int (nI 1)), (16, .ref (((ω i r) (nthR (bG V i r) k)).2)), (15, .int (nI k)), (12, .int (bI (exK (bG V i r) (fun y => decide (y = x)) k))), (14, .int (nI (szR (bG V i r)))), (13, .ref (row i r)), (10, .ref (row i r)), (9, .int (nI r)), (2, .int (nI o)), (8, .int (nI (bN V i))), (7, .ref (lvl i)), (6, .ref (lvl i)), (5, .int (nI i)), (4, .int (nI 4)), (3, .ref lv), (0, .ref mo), (1, .int (nI x))]) hx hb dX3_opened_148 hl (by decide) rfl (fun ls hl => ?_)
            refine lv_iload hx hb dX3_opened_150 (lv_at hl 3 rfl) ?_
            refine h_if_neB (tgt := 163) hx hb dX3_opened_152 (by decide) (fun c_152 => ?_) (fun c_152 => ?_)
            · refine lv_iconst (v := nI 1) hx hb dX3_opened_163 (by decide) ?_
              refine lv_goto (tgt := 168) hx hb dX3_opened_164 (by decide) ?_
              refine lv_istore (lv' := [(12, .int (nI 1)), (11, .int (nI 1)), (16, .ref (((ω i r) (nthR (bG V i r) k)).2)), (15, .int (nI k)), (14, .int (nI (szR (bG V i r)))), (13, .ref (row i r)), (10, .ref (row i r)), (9, .int (nI r)), (2, .int (nI o)), (8, .int (nI (bN V i))), (7, .ref (lvl i)), (6, .ref (lvl i)), (5, .int (nI i)), (4, .int (nI 4)), (3, .ref lv), (0, .ref mo), (1, .int (nI x))]) hx hb dX3_opened_168 hl (by decide) rfl (fun ls hl => ?_)
              refine lv_iinc (v := nI (k + 1)) (lv' := [(15, .int (nI (k + 1))), (12, .int (nI 1)), (11, .int (nI 1)), (16, .ref (((ω i r) (nthR (bG V i r) k)).2)), (14, .int (nI (szR (bG V i r)))), (13, .ref (row i r)), (10, .ref (row i r)), (9, .int (nI r)), (2, .int (nI o)), (8, .int (nI (bN V i))), (7, .ref (lvl i)), (6, .ref (lvl i)), (5, .int (nI i)), (4, .int (nI 4)), (3, .ref lv), (0, .ref mo), (1, .int (nI x))]) hx hb dX3_opened_170 hl (k := 3) rfl (nI_add (k) 1) (by decide) rfl (fun ls hl => ?_)
              refine lv_goto (tgt := 110) hx hb dX3_opened_173 (by decide) ?_
              have eh9 : exK (bG V i r) (fun y => decide (y % 8 = x % 8)) (k + 1) = _ := ex_t c_126
              have ei9 : exK (bG V i r) (fun y => decide (y = x)) (k + 1) = _ := ex_t c_152
              exact ih110 (by omega) trivial ls (by show lv_has ls 17 [(15, .int (nI (k + 1))), (11, .int (bI (exK (bG V i r) (fun y => decide (y % 8 = x % 8)) (k + 1)))), (12, .int (bI (exK (bG V i r) (fun y => decide (y = x)) (k + 1)))), (14, .int (nI (szR (bG V i r)))), (13, .ref (row i r)), (10, .ref (row i r)), (9, .int (nI r)), (2, .int (nI o)), (8, .int (nI (bN V i))), (7, .ref (lvl i)), (6, .ref (lvl i)), (5, .int (nI i)), (4, .int (nI 4)), (3, .ref lv), (0, .ref mo), (1, .int (nI x))]; rw [eh9, ei9]; exact lv_sub hl [0, 2, 1, 4, 5, 6, 7, 8, 9, 10, 11, 12, 13, 14, 15, 16] rfl)
            · refine lv_aload hx hb dX3_opened_155 (lv_at hl 1 rfl) ?_
              refine lv_iconst (v := nI 0) hx hb dX3_opened_157 (by decide) ?_
              refine h_sl0 ((hm.crow (l := i) (r := r) (by omega) (by omega)).at (k := k) (by omega)) hx hb hK0 hV0 dX3_opened_158 ?_
              refine lv_iload_n hx hb dX3_opened_159 rfl (lv_at hl 16 rfl) ?_
              refine h_icmp_ne (a := nthR (bG V i r) k) (b := x) (tgt := 167) hx hb dX3_opened_160 (by decide) (by omega) (by omega) (fun c_160 => ?_) (fun c_160 => ?_)
              · refine lv_iconst (v := nI 0) hx hb dX3_opened_167 (by decide) ?_
                refine lv_istore (lv' := [(12, .int (nI 0)), (11, .int (nI 1)), (16, .ref (((ω i r) (nthR (bG V i r) k)).2)), (15, .int (nI k)), (14, .int (nI (szR (bG V i r)))), (13, .ref (row i r)), (10, .ref (row i r)), (9, .int (nI r)), (2, .int (nI o)), (8, .int (nI (bN V i))), (7, .ref (lvl i)), (6, .ref (lvl i)), (5, .int (nI i)), (4, .int (nI 4)), (3, .ref lv), (0, .ref mo), (1, .int (nI x))]) hx hb dX3_opened_168 hl (by decide) rfl (fun ls hl => ?_)
                refine lv_iinc (v := nI (k + 1)) (lv' := [(15, .int (nI (k + 1))), (12, .int (nI 0)), (11, .int (nI 1)), (16, .ref (((ω i r) (nthR (bG V i r) k)).2)), (14, .int (nI (szR (bG V i r)))), (13, .ref (row i r)), (10, .ref (row i r)), (9, .int (nI r)), (2, .int (nI o)), (8, .int (nI (bN V i))), (7, .ref (lvl i)), (6, .ref (lvl i)), (5, .int (nI i)), (4, .int (nI 4)), (3, .ref lv), (0, .ref mo), (1, .int (nI x))]) hx hb dX3_opened_170 hl (k := 3) rfl (nI_add (k) 1) (by decide) rfl (fun ls hl => ?_)
                refine lv_goto (tgt := 110) hx hb dX3_opened_173 (by decide) ?_
                have eh9 : exK (bG V i r) (fun y => decide (y % 8 = x % 8)) (k + 1) = _ := ex_t c_126
                have ei9 : exK (bG V i r) (fun y => decide (y = x)) (k + 1) = _ := ex_n c_152 (p := (fun y => decide (y = x))) (decide_eq_false c_160)
                exact ih110 (by omega) trivial ls (by show lv_has ls 17 [(15, .int (nI (k + 1))), (11, .int (bI (exK (bG V i r) (fun y => decide (y % 8 = x % 8)) (k + 1)))), (12, .int (bI (exK (bG V i r) (fun y => decide (y = x)) (k + 1)))), (14, .int (nI (szR (bG V i r)))), (13, .ref (row i r)), (10, .ref (row i r)), (9, .int (nI r)), (2, .int (nI o)), (8, .int (nI (bN V i))), (7, .ref (lvl i)), (6, .ref (lvl i)), (5, .int (nI i)), (4, .int (nI 4)), (3, .ref lv), (0, .ref mo), (1, .int (nI x))]; rw [eh9, ei9]; exact lv_sub hl [0, 2, 1, 4, 5, 6, 7, 8, 9, 10, 11, 12, 13, 14, 15, 16] rfl)
              · refine lv_iconst (v := nI 1) hx hb dX3_opened_163 (by decide) ?_
                refine lv_goto (tgt := 168) hx hb dX3_opened_164 (by decide) ?_
                refine lv_istore (lv' := [(12, .int (nI 1)), (11, .int (nI 1)), (16, .ref (((ω i r) (nthR (bG V i r) k)).2)), (15, .int (nI k)), (14, .int (nI (szR (bG V i r)))), (13, .ref (row i r)), (10, .ref (row i r)), (9, .int (nI r)), (2, .int (nI o)), (8, .int (nI (bN V i))), (7, .ref (lvl i)), (6, .ref (lvl i)), (5, .int (nI i)), (4, .int (nI 4)), (3, .ref lv), (0, .ref mo), (1, .int (nI x))]) hx hb dX3_opened_168 hl (by decide) rfl (fun ls hl => ?_)
                refine lv_iinc (v := nI (k + 1)) (lv' := [(15, .int (nI (k + 1))), (12, .int (nI 1)), (11, .int (nI 1)), (16, .ref (((ω i r) (nthR (bG V i r) k)).2)), (14, .int (nI (szR (bG V i r)))), (13, .ref (row i r)), (10, .ref (row i r)), (9, .int (nI r)), (2, .int (nI o)), (8, .int (nI (bN V i))), (7, .ref (lvl i)), (6, .ref (lvl i)), (5, .int (nI i)), (4, .int (nI 4)), (3, .ref lv), (0, .ref mo), (1, .int (nI x))]) hx hb dX3_opened_170 hl (k := 3) rfl (nI_add (k) 1) (by decide) rfl (fun ls hl => ?_)
                refine lv_goto (tgt := 110) hx hb dX3_opened_173 (by decide) ?_
                have eh9 : exK (bG V i r) (fun y => decide (y % 8 = x % 8)) (k + 1) = _ := ex_t c_126
                have ei9 : exK (bG V i r) (fun y => decide (y = x)) (k + 1) = _ := ex_y (p := (fun y => decide (y = x))) (decide_eq_true c_160)
                exact ih110 (by omega) trivial ls (by show lv_has ls 17 [(15, .int (nI (k + 1))), (11, .int (bI (exK (bG V i r) (fun y => decide (y % 8 = x % 8)) (k + 1)))), (12, .int (bI (exK (bG V i r) (fun y => decide (y = x)) (k + 1)))), (14, .int (nI (szR (bG V i r)))), (13, .ref (row i r)), (10, .ref (row i r)), (9, .int (nI r)), (2, .int (nI o)), (8, .int (nI (bN V i))), (7, .ref (lvl i)), (6, .ref (lvl i)), (5, .int (nI i)), (4, .int (nI 4)), (3, .ref lv), (0, .ref mo), (1, .int (nI x))]; rw [eh9, ei9]; exact lv_sub hl [0, 2, 1, 4, 5, 6, 7, 8, 9, 10, 11, 12, 13, 14, 15, 16] rfl)
          · refine lv_aload hx hb dX3_opened_129 (lv_at hl 0 rfl) ?_
            refine lv_iconst (v := nI 0) hx hb dX3_opened_131 (by decide) ?_
            refine h_sl0 ((hm.crow (l := i) (r := r) (by omega) (by omega)).at (k := k) (by omega)) hx hb hK0 hV0 dX3_opened_132 ?_
            refine lv_bipush (v := nI 8) hx hb dX3_opened_133 (by decide) ?_
            refine h_iremN hx hb (by omega) (by decide) (by decide) dX3_opened_135 ?_
            refine lv_iload_n hx hb dX3_opened_136 rfl (lv_at hl 16 rfl) ?_
            refine lv_bipush (v := nI 8) hx hb dX3_opened_137 (by decide) ?_
            refine h_iremN hx hb (by omega) (by decide) (by decide) dX3_opened_139 ?_
            refine h_icmp_ne (a := (nthR (bG V i r) k) % 8) (b := x % 8) (tgt := 147) hx hb dX3_opened_140 (by decide) (by omega) (by omega) (fun c_140 => ?_) (fun c_140 => ?_)
            · refine lv_iconst (v := nI 0) hx hb dX3_opened_147 (by decide) ?_
              refine lv_istore (lv' := [(11, .int (nI 0)), (16, .ref (((ω i r) (nthR (bG V i r) k)).2)), (15, .int (nI k)), (12, .int (bI (exK (bG V i r) (fun y => decide (y = x)) k))), (14, .int (nI (szR (bG V i r)))), (13, .ref (row i r)), (10, .ref (row i r)), (9, .int (nI r)), (2, .int (nI o)), (8, .int (nI (bN V i))), (7, .ref (lvl i)), (6, .ref (lvl i)), (5, .int (nI i)), (4, .int (nI 4)), (3, .ref lv), (0, .ref mo), (1, .int (nI x))]) hx hb dX3_opened_148 hl (by decide) rfl (fun ls hl => ?_)
              refine lv_iload hx hb dX3_opened_150 (lv_at hl 3 rfl) ?_
              refine h_if_neB (tgt := 163) hx hb dX3_opened_152 (by decide) (fun c_152 => ?_) (fun c_152 => ?_)
              · refine lv_iconst (v := nI 1) hx hb dX3_opened_163 (by decide) ?_
                refine lv_goto (tgt := 168) hx hb dX3_opened_164 (by decide) ?_
                refine lv_istore (lv' := [(12, .int (nI 1)), (11, .int (nI 0)), (16, .ref (((ω i r) (nthR (bG V i r) k)).2)), (15, .int (nI k)), (14, .int (nI (szR (bG V i r)))), (13, .ref (row i r)), (10, .ref (row i r)), (9, .int (nI r)), (2, .int (nI o)), (8, .int (nI (bN V i))), (7, .ref (lvl i)), (6, .ref (lvl i)), (5, .int (nI i)), (4, .int (nI 4)), (3, .ref lv), (0, .ref mo), (1, .int (nI x))]) hx hb dX3_opened_168 hl (by decide) rfl (fun ls hl => ?_)
                refine lv_iinc (v := nI (k + 1)) (lv' := [(15, .int (nI (k + 1))), (12, .int (nI 1)), (11, .int (nI 0)), (16, .ref (((ω i r) (nthR (bG V i r) k)).2)), (14, .int (nI (szR (bG V i r)))), (13, .ref (row i r)), (10, .ref (row i r)), (9, .int (nI r)), (2, .int (nI o)), (8, .int (nI (bN V i))), (7, .ref (lvl i)), (6, .ref (lvl i)), (5, .int (nI i)), (4, .int (nI 4)), (3, .ref lv), (0, .ref mo), (1, .int (nI x))]) hx hb dX3_opened_170 hl (k := 3) rfl (nI_add (k) 1) (by decide) rfl (fun ls hl => ?_)
                refine lv_goto (tgt := 110) hx hb dX3_opened_173 (by decide) ?_
                have eh9 : exK (bG V i r) (fun y => decide (y % 8 = x % 8)) (k + 1) = _ := ex_n c_126 (p := (fun y => decide (y % 8 = x % 8))) (decide_eq_false c_140)
                have ei9 : exK (bG V i r) (fun y => decide (y = x)) (k + 1) = _ := ex_t c_152
                exact ih110 (by omega) trivial ls (by show lv_has ls 17 [(15, .int (nI (k + 1))), (11, .int (bI (exK (bG V i r) (fun y => decide (y % 8 = x % 8)) (k + 1)))), (12, .int (bI (exK (bG V i r) (fun y => decide (y = x)) (k + 1)))), (14, .int (nI (szR (bG V i r)))), (13, .ref (row i r)), (10, .ref (row i r)), (9, .int (nI r)), (2, .int (nI o)), (8, .int (nI (bN V i))), (7, .ref (lvl i)), (6, .ref (lvl i)), (5, .int (nI i)), (4, .int (nI 4)), (3, .ref lv), (0, .ref mo), (1, .int (nI x))]; rw [eh9, ei9]; exact lv_sub hl [0, 2, 1, 4, 5, 6, 7, 8, 9, 10, 11, 12, 13, 14, 15, 16] rfl)
              · refine lv_aload hx hb dX3_opened_155 (lv_at hl 1 rfl) ?_
                refine lv_iconst (v := nI 0) hx hb dX3_opened_157 (by decide) ?_
                refine h_sl0 ((hm.crow (l := i) (r := r) (by omega) (by omega)).at (k := k) (by omega)) hx hb hK0 hV0 dX3_opened_158 ?_
                refine lv_iload_n hx hb dX3_opened_159 rfl (lv_at hl 16 rfl) ?_
                refine h_icmp_ne (a := nthR (bG V i r) k) (b := x) (tgt := 167) hx hb dX3_opened_160 (by decide) (by omega) (by omega) (fun c_160 => ?_) (fun c_160 => ?_)
                · refine lv_iconst (v := nI 0) hx hb dX3_opened_167 (by decide) ?_
                  refine lv_istore (lv' := [(12, .int (nI 0)), (11, .int (nI 0)), (16, .ref (((ω i r) (nthR (bG V i r) k)).2)), (15, .int (nI k)), (14, .int (nI (szR (bG V i r)))), (13, .ref (row i r)), (10, .ref (row i r)), (9, .int (nI r)), (2, .int (nI o)), (8, .int (nI (bN V i))), (7, .ref (lvl i)), (6, .ref (lvl i)), (5, .int (nI i)), (4, .int (nI 4)), (3, .ref lv), (0, .ref mo), (1, .int (nI x))]) hx hb dX3_opened_168 hl (by decide) rfl (fun ls hl => ?_)
                  refine lv_iinc (v := nI (k + 1)) (lv' := [(15, .int (nI (k + 1))), (12, .int (nI 0)), (11, .int (nI 0)), (16, .ref (((ω i r) (nthR (bG V i r) k)).2)), (14, .int (nI (szR (bG V i r)))), (13, .ref (row i r)), (10, .ref (row i r)), (9, .int (nI r)), (2, .int (nI o)), (8, .int (nI (bN V i))), (7, .ref (lvl i)), (6, .ref (lvl i)), (5, .int (nI i)), (4, .int (nI 4)), (3, .ref lv), (0, .ref mo), (1, .int (nI x))]) hx hb dX3_opened_170 hl (k := 3) rfl (nI_add (k) 1) (by decide) rfl (fun ls hl => ?_)
                  refine lv_goto (tgt := 110) hx hb dX3_opened_173 (by decide) ?_
                  have eh9 : exK (bG V i r) (fun y => decide (y % 8 = x % 8)) (k + 1) = _ := ex_n c_126 (p := (fun y => decide (y % 8 = x % 8))) (decide_eq_false c_140)
                  have ei9 : exK (bG V i r) (fun y => decide (y = x)) (k + 1) = _ := ex_n c_152 (p := (fun y => decide (y = x))) (decide_eq_false c_160)
                  exact ih110 (by omega) trivial ls (by show lv_has ls 17 [(15, .int (nI (k + 1))), (11, .int (bI (exK (bG V i r) (fun y => decide (y % 8 = x % 8)) (k + 1)))), (12, .int (bI (exK (bG V i r) (fun y => decide (y = x)) (k + 1)))), (14, .int (nI (szR (bG V i r)))), (13, .ref (row i r)), (10, .ref (row i r)), (9, .int (nI r)), (2, .int (nI o)), (8, .int (nI (bN V i))), (7, .ref (lvl i)), (6, .ref (lvl i)), (5, .int (nI i)), (4, .int (nI 4)), (3, .ref lv), (0, .ref mo), (1, .int (nI x))]; rw [eh9, ei9]; exact lv_sub hl [0, 2, 1, 4, 5, 6, 7, 8, 9, 10, 11, 12, 13, 14, 15, 16] rfl)
                · refine lv_iconst (v := nI 1) hx hb dX3_opened_163 (by decide) ?_
                  refine lv_goto (tgt := 168) hx hb dX3_opened_164 (by decide) ?_
                  refine lv_istore (lv' := [(12, .int (nI 1)), (11, .int (nI 0)), (16, .ref (((ω i r) (nthR (bG V i r) k)).2)), (15, .int (nI k)), (14, .int (nI (szR (bG V i r)))), (13, .ref (row i r)), (10, .ref (row i r)), (9, .int (nI r)), (2, .int (nI o)), (8, .int (nI (bN V i))), (7, .ref (lvl i)), (6, .ref (lvl i)), (5, .int (nI i)), (4, .int (nI 4)), (3, .ref lv), (0, .ref mo), (1, .int (nI x))]) hx hb dX3_opened_168 hl (by decide) rfl (fun ls hl => ?_)
                  refine lv_iinc (v := nI (k + 1)) (lv' := [(15, .int (nI (k + 1))), (12, .int (nI 1)), (11, .int (nI 0)), (16, .ref (((ω i r) (nthR (bG V i r) k)).2)), (14, .int (nI (szR (bG V i r)))), (13, .ref (row i r)), (10, .ref (row i r)), (9, .int (nI r)), (2, .int (nI o)), (8, .int (nI (bN V i))), (7, .ref (lvl i)), (6, .ref (lvl i)), (5, .int (nI i)), (4, .int (nI 4)), (3, .ref lv), (0, .ref mo), (1, .int (nI x))]) hx hb dX3_opened_170 hl (k := 3) rfl (nI_add (k) 1) (by decide) rfl (fun ls hl => ?_)
                  refine lv_goto (tgt := 110) hx hb dX3_opened_173 (by decide) ?_
                  have eh9 : exK (bG V i r) (fun y => decide (y % 8 = x % 8)) (k + 1) = _ := ex_n c_126 (p := (fun y => decide (y % 8 = x % 8))) (decide_eq_false c_140)
                  have ei9 : exK (bG V i r) (fun y => decide (y = x)) (k + 1) = _ := ex_y (p := (fun y => decide (y = x))) (decide_eq_true c_160)
                  exact ih110 (by omega) trivial ls (by show lv_has ls 17 [(15, .int (nI (k + 1))), (11, .int (bI (exK (bG V i r) (fun y => decide (y % 8 = x % 8)) (k + 1)))), (12, .int (bI (exK (bG V i r) (fun y => decide (y = x)) (k + 1)))), (14, .int (nI (szR (bG V i r)))), (13, .ref (row i r)), (10, .ref (row i r)), (9, .int (nI r)), (2, .int (nI o)), (8, .int (nI (bN V i))), (7, .ref (lvl i)), (6, .ref (lvl i)), (5, .int (nI i)), (4, .int (nI 4)), (3, .ref lv), (0, .ref mo), (1, .int (nI x))]; rw [eh9, ei9]; exact lv_sub hl [0, 2, 1, 4, 5, 6, 7, 8, 9, 10, 11, 12, 13, 14, 15, 16] rfl)
            · refine lv_iconst (v := nI 1) hx hb dX3_opened_143 (by decide) ?_
              refine lv_goto (tgt := 148) hx hb dX3_opened_144 (by decide) ?_
              refine lv_istore (lv' := [(11, .int (nI 1)), (16, .ref (((ω i r) (nthR (bG V i r) k)).2)), (15, .int (nI k)), (12, .int (bI (exK (bG V i r) (fun y => decide (y = x)) k))), (14, .int (nI (szR (bG V i r)))), (13, .ref (row i r)), (10, .ref (row i r)), (9, .int (nI r)), (2, .int (nI o)), (8, .int (nI (bN V i))), (7, .ref (lvl i)), (6, .ref (lvl i)), (5, .int (nI i)), (4, .int (nI 4)), (3, .ref lv), (0, .ref mo), (1, .int (nI x))]) hx hb dX3_opened_148 hl (by decide) rfl (fun ls hl => ?_)
              refine lv_iload hx hb dX3_opened_150 (lv_at hl 3 rfl) ?_
              refine h_if_neB (tgt := 163) hx hb dX3_opened_152 (by decide) (fun c_152 => ?_) (fun c_152 => ?_)
              · refine lv_iconst (v := nI 1) hx hb dX3_opened_163 (by decide) ?_
                refine lv_goto (tgt := 168) hx hb dX3_opened_164 (by decide) ?_
                refine lv_istore (lv' := [(12, .int (nI 1)), (11, .int (nI 1)), (16, .ref (((ω i r) (nthR (bG V i r) k)).2)), (15, .int (nI k)), (14, .int (nI (szR (bG V i r)))), (13, .ref (row i r)), (10, .ref (row i r)), (9, .int (nI r)), (2, .int (nI o)), (8, .int (nI (bN V i))), (7, .ref (lvl i)), (6, .ref (lvl i)), (5, .int (nI i)), (4, .int (nI 4)), (3, .ref lv), (0, .ref mo), (1, .int (nI x))]) hx hb dX3_opened_168 hl (by decide) rfl (fun ls hl => ?_)
                refine lv_iinc (v := nI (k + 1)) (lv' := [(15, .int (nI (k + 1))), (12, .int (nI 1)), (11, .int (nI 1)), (16, .ref (((ω i r) (nthR (bG V i r) k)).2)), (14, .int (nI (szR (bG V i r)))), (13, .ref (row i r)), (10, .ref (row i r)), (9, .int (nI r)), (2, .int (nI o)), (8, .int (nI (bN V i))), (7, .ref (lvl i)), (6, .ref (lvl i)), (5, .int (nI i)), (4, .int (nI 4)), (3, .ref lv), (0, .ref mo), (1, .int (nI x))]) hx hb dX3_opened_170 hl (k := 3) rfl (nI_add (k) 1) (by decide) rfl (fun ls hl => ?_)
                refine lv_goto (tgt := 110) hx hb dX3_opened_173 (by decide) ?_
                have eh9 : exK (bG V i r) (fun y => decide (y % 8 = x % 8)) (k + 1) = _ := ex_y (p := (fun y => decide (y % 8 = x % 8))) (decide_eq_true c_140)
                have ei9 : exK (bG V i r) (fun y => decide (y = x)) (k + 1) = _ := ex_t c_152
                exact ih110 (by omega) trivial ls (by show lv_has ls 17 [(15, .int (nI (k + 1))), (11, .int (bI (exK (bG V i r) (fun y => decide (y % 8 = x % 8)) (k + 1)))), (12, .int (bI (exK (bG V i r) (fun y => decide (y = x)) (k + 1)))), (14, .int (nI (szR (bG V i r)))), (13, .ref (row i r)), (10, .ref (row i r)), (9, .int (nI r)), (2, .int (nI o)), (8, .int (nI (bN V i))), (7, .ref (lvl i)), (6, .ref (lvl i)), (5, .int (nI i)), (4, .int (nI 4)), (3, .ref lv), (0, .ref mo), (1, .int (nI x))]; rw [eh9, ei9]; exact lv_sub hl [0, 2, 1, 4, 5, 6, 7, 8, 9, 10, 11, 12, 13, 14, 15, 16] rfl)
              · refine lv_aload hx hb dX3_opened_155 (lv_at hl 1 rfl) ?_
                refine lv_iconst (v := nI 0) hx hb dX3_opened_157 (by decide) ?_
                refine h_sl0 ((hm.crow (l := i) (r := r) (by omega) (by omega)).at (k := k) (by omega)) hx hb hK0 hV0 dX3_opened_158 ?_
                refine lv_iload_n hx hb dX3_opened_159 rfl (lv_at hl 16 rfl) ?_
                refine h_icmp_ne (a := nthR (bG V i r) k) (b := x) (tgt := 167) hx hb dX3_opened_160 (by decide) (by omega) (by omega) (fun c_160 => ?_) (fun c_160 => ?_)
                · refine lv_iconst (v := nI 0) hx hb dX3_opened_167 (by decide) ?_
                  refine lv_istore (lv' := [(12, .int (nI 0)), (11, .int (nI 1)), (16, .ref (((ω i r) (nthR (bG V i r) k)).2)), (15, .int (nI k)), (14, .int (nI (szR (bG V i r)))), (13, .ref (row i r)), (10, .ref (row i r)), (9, .int (nI r)), (2, .int (nI o)), (8, .int (nI (bN V i))), (7, .ref (lvl i)), (6, .ref (lvl i)), (5, .int (nI i)), (4, .int (nI 4)), (3, .ref lv), (0, .ref mo), (1, .int (nI x))]) hx hb dX3_opened_168 hl (by decide) rfl (fun ls hl => ?_)
                  refine lv_iinc (v := nI (k + 1)) (lv' := [(15, .int (nI (k + 1))), (12, .int (nI 0)), (11, .int (nI 1)), (16, .ref (((ω i r) (nthR (bG V i r) k)).2)), (14, .int (nI (szR (bG V i r)))), (13, .ref (row i r)), (10, .ref (row i r)), (9, .int (nI r)), (2, .int (nI o)), (8, .int (nI (bN V i))), (7, .ref (lvl i)), (6, .ref (lvl i)), (5, .int (nI i)), (4, .int (nI 4)), (3, .ref lv), (0, .ref mo), (1, .int (nI x))]) hx hb dX3_opened_170 hl (k := 3) rfl (nI_add (k) 1) (by decide) rfl (fun ls hl => ?_)
                  refine lv_goto (tgt := 110) hx hb dX3_opened_173 (by decide) ?_
                  have eh9 : exK (bG V i r) (fun y => decide (y % 8 = x % 8)) (k + 1) = _ := ex_y (p := (fun y => decide (y % 8 = x % 8))) (decide_eq_true c_140)
                  have ei9 : exK (bG V i r) (fun y => decide (y = x)) (k + 1) = _ := ex_n c_152 (p := (fun y => decide (y = x))) (decide_eq_false c_160)
                  exact ih110 (by omega) trivial ls (by show lv_has ls 17 [(15, .int (nI (k + 1))), (11, .int (bI (exK (bG V i r) (fun y => decide (y % 8 = x % 8)) (k + 1)))), (12, .int (bI (exK (bG V i r) (fun y => decide (y = x)) (k + 1)))), (14, .int (nI (szR (bG V i r)))), (13, .ref (row i r)), (10, .ref (row i r)), (9, .int (nI r)), (2, .int (nI o)), (8, .int (nI (bN V i))), (7, .ref (lvl i)), (6, .ref (lvl i)), (5, .int (nI i)), (4, .int (nI 4)), (3, .ref lv), (0, .ref mo), (1, .int (nI x))]; rw [eh9, ei9]; exact lv_sub hl [0, 2, 1, 4, 5, 6, 7, 8, 9, 10, 11, 12, 13, 14, 15, 16] rfl)
                · refine lv_iconst (v := nI 1) hx hb dX3_opened_163 (by decide) ?_
                  refine lv_goto (tgt := 168) hx hb dX3_opened_164 (by decide) ?_
                  refine lv_istore (lv' := [(12, .int (nI 1)), (11, .int (nI 1)), (16, .ref (((ω i r) (nthR (bG V i r) k)).2)), (15, .int (nI k)), (14, .int (nI (szR (bG V i r)))), (13, .ref (row i r)), (10, .ref (row i r)), (9, .int (nI r)), (2, .int (nI o)), (8, .int (nI (bN V i))), (7, .ref (lvl i)), (6, .ref (lvl i)), (5, .int (nI i)), (4, .int (nI 4)), (3, .ref lv), (0, .ref mo), (1, .int (nI x))]) hx hb dX3_opened_168 hl (by decide) rfl (fun ls hl => ?_)
                  refine lv_iinc (v := nI (k + 1)) (lv' := [(15, .int (nI (k + 1))), (12, .int (nI 1)), (11, .int (nI 1)), (16, .ref (((ω i r) (nthR (bG V i r) k)).2)), (14, .int (nI (szR (bG V i r)))), (13, .ref (row i r)), (10, .ref (row i r)), (9, .int (nI r)), (2, .int (nI o)), (8, .int (nI (bN V i))), (7, .ref (lvl i)), (6, .ref (lvl i)), (5, .int (nI i)), (4, .int (nI 4)), (3, .ref lv), (0, .ref mo), (1, .int (nI x))]) hx hb dX3_opened_170 hl (k := 3) rfl (nI_add (k) 1) (by decide) rfl (fun ls hl => ?_)
                  refine lv_goto (tgt := 110) hx hb dX3_opened_173 (by decide) ?_
                  have eh9 : exK (bG V i r) (fun y => decide (y % 8 = x % 8)) (k + 1) = _ := ex_y (p := (fun y => decide (y % 8 = x % 8))) (decide_eq_true c_140)
                  have ei9 : exK (bG V i r) (fun y => decide (y = x)) (k + 1) = _ := ex_y (p := (fun y => decide (y = x))) (decide_eq_true c_160)
                  exact ih110 (by omega) trivial ls (by show lv_has ls 17 [(15, .int (nI (k + 1))), (11, .int (bI (exK (bG V i r) (fun y => decide (y % 8 = x % 8)) (k + 1)))), (12, .int (bI (exK (bG V i r) (fun y => decide (y = x)) (k + 1)))), (14, .int (nI (szR (bG V i r)))), (13, .ref (row i r)), (10, .ref (row i r)), (9, .int (nI r)), (2, .int (nI o)), (8, .int (nI (bN V i))), (7, .ref (lvl i)), (6, .ref (lvl i)), (5, .int (nI i)), (4, .int (nI 4)), (3, .ref lv), (0, .ref mo), (1, .int (nI x))]; rw [eh9, ei9]; exact lv_sub hl [0, 2, 1, 4, 5, 6, 7, 8, 9, 10, 11, 12, 13, 14, 15, 16] rfl)
  · refine lv_aload_n hx hb dX3_opened_17 rfl (lv_at hl 2 rfl) ?_
    refine lv_iload hx hb dX3_opened_18 (lv_at hl 0 rfl) ?_
    refine h_aaldE (i := k) hm.cdk.1 hx hb hK0 hV0 rfl rfl (by omega) (by omega) dX3_opened_20 ?_
    refine lv_astore (lv' := [(5, .ref ((δ (nthR d k)).2)), (4, .int (nI k)), (3, .int (nI (szR d))), (2, .ref dk), (0, .ref mo), (1, .int (nI x))]) hx hb dX3_opened_21 hl (by decide) rfl (fun ls hl => ?_)
    refine lv_aload hx hb dX3_opened_23 (lv_at hl 0 rfl) ?_
    refine lv_iconst (v := nI 0) hx hb dX3_opened_25 (by decide) ?_
    refine h_sl0 (hm.cdk.at (k := k) (by omega)) hx hb hK0 hV0 dX3_opened_26 ?_
    refine lv_iload_n hx hb dX3_opened_27 rfl (lv_at hl 5 rfl) ?_
    have hnk := (nth_at (f := d) (k := k) (by omega)).1
    refine h_icmp_ne (a := nthR d k) (b := x) (tgt := 33) hx hb dX3_opened_28 (by decide) (by omega) (by omega) (fun c_28 => ?_) (fun c_28 => ?_)
    · refine lv_iinc (v := nI (k + 1)) (lv' := [(4, .int (nI (k + 1))), (5, .ref ((δ (nthR d k)).2)), (3, .int (nI (szR d))), (2, .ref dk), (0, .ref mo), (1, .int (nI x))]) hx hb dX3_opened_33 hl (k := 1) rfl (nI_add (k) 1) (by decide) rfl (fun ls hl => ?_)
      refine lv_goto (tgt := 11) hx hb dX3_opened_36 (by decide) ?_
      exact ih11 (by omega) (fun j hj => by by_cases e9 : j = k; rw [e9]; exact c_28; exact hI11 j (by omega)) ls (lv_sub hl [0, 2, 3, 4, 5] rfl)
    · refine lv_iconst (v := nI 0) hx hb dX3_opened_31 (by decide) ?_
      exact h_iretR hx hb hr hlocks (by rw [dt_d ((nth_tri (f := d) (k := k) (x := x) (by omega)).1 c_28).1]) dX3_opened_32

set_option maxHeartbeats 1000000 in
set_option maxRecDepth 100000 in
theorem c_X3_all (l : Launch) (G : hG) (hp : HP) (mo dk lv : Nat) (lvl : Nat → Nat) (row : Nat → Nat → Nat) (rm : Int32) (tm : Nat) (dt : Int32) (d : Row) (δ : TG) (V : BV) (ω : TS) (hm : sA mo dk lv lvl row rm tm dt d δ V ω hp) : hRd l yX3_all wsX3_all 1 36 G hp [.ref mo] (some (.int (nI (allD d (bN V) (bG V))))) := by
  refine Met.ofW (cc := cX3_all) (maxL := 3) (ret := (some .int)) (by decide) rfl ?_
  intro p e s m args below meth c s₁ B hml hv
  obtain ⟨rfl, hV0, hK0⟩ := hv
  have hx := B.exec
  have hb := B.bytes
  have hr := B.returns
  have hts := atoms_spec (ws := wsX3_all) B.pre
  have hown : s.vm.findClass RX3 = some m.cls := findClass_of_methodNamed B.named
  have hlocks := B.notSynchronized
  have hF : CallFix p m c cX3_all 3 s [.ref mo].toArray wsX3_all RX3 := ⟨hx, hb, hml, hown, hts⟩
  have hl := lv_entry ([.ref mo]) (n := 3) (Nat.le_of_ble_eq_true rfl)
  rw [lg_entry_eq]
  generalize (lg_sl ([.ref mo]) ++ List.replicate (3 - (lg_sl ([.ref mo])).length) Slot.unset).toArray = ls at hl ⊢
  replace hl : lv_has ls 3 [(0, .ref mo)] := hl
  have hn := hm.le
  refine lv_iconst (v := nI 0) hx hb dX3_all_0 (by decide) ?_
  refine lv_istore_n (lv' := [(1, .int (nI 0)), (0, .ref mo)]) hx hb dX3_all_1 rfl hl (by decide) rfl (fun ls hl => ?_)
  refine lv_iconst (v := nI 0) hx hb dX3_all_2 (by decide) ?_
  refine lv_istore_n (lv' := [(2, .int (nI 0)), (1, .int (nI 0)), (0, .ref mo)]) hx hb dX3_all_3 rfl hl (by decide) rfl (fun ls hl => ?_)
  replace hl : lv_has ls 3 [(2, .int (nI 0)), (1, .int (nI (snA (dtS d (bN V) (bG V)) 0))), (0, .ref mo)] := lv_sub hl [0, 1, 2] rfl
  revert ls
  refine h_loop 64 (fun i => [(2, .int (nI i)), (1, .int (nI (snA (dtS d (bN V) (bG V)) i))), (0, .ref mo)]) (fun i => True) (fun i hi4 hI4 ih4 ls hl => ?_) 0 (Nat.zero_le _) trivial
  refine lv_iload_n hx hb dX3_all_4 rfl (lv_at hl 0 rfl) ?_
  refine lv_bipush (v := nI 64) hx hb dX3_all_5 (by decide) ?_
  refine h_icmp_ge (a := i) (b := 64) (tgt := 24) hx hb dX3_all_7 (by decide) (by omega) (by omega) (fun c_7 => ?_) (fun c_7 => ?_)
  · refine lv_iload_n hx hb dX3_all_24 rfl (lv_at hl 1 rfl) ?_
    exact h_iretR hx hb hr hlocks (by rw [show i = 64 by omega]; rfl) dX3_all_25
  · refine lv_iload_n hx hb dX3_all_10 rfl (lv_at hl 1 rfl) ?_
    refine lv_aload_n hx hb dX3_all_11 rfl (lv_at hl 2 rfl) ?_
    refine lv_iload_n hx hb dX3_all_12 rfl (lv_at hl 0 rfl) ?_
    refine h_rdV (As := [.int (nI i)]) (rest := [.int (nI (snA (dtS d (bN V) (bG V)) i))]) hF (c_X3_opened l G hp mo dk lv lvl row rm tm dt d δ V ω hm i (by omega)) 1 gX3_all_X3_opened rfl (by decide +kernel) ⟨Nat.le_of_ble_eq_true rfl, Nat.le_of_ble_eq_true rfl⟩ hK0 hV0 hm.cmo rfl rfl rfl hl.1 rfl (Nat.le_of_ble_eq_true rfl) (Nat.le_refl _) (Nat.le_refl _) dX3_all_13 ?_
    refine h_iaddN hx hb dX3_all_16 ?_
    refine lv_istore_n (lv' := [(1, .int (nI (snA (dtS d (bN V) (bG V)) i + dtS d (bN V) (bG V) i))), (2, .int (nI i)), (0, .ref mo)]) hx hb dX3_all_17 rfl hl (by decide) rfl (fun ls hl => ?_)
    refine lv_iinc (v := nI (i + 1)) (lv' := [(2, .int (nI (i + 1))), (1, .int (nI (snA (dtS d (bN V) (bG V)) i + dtS d (bN V) (bG V) i))), (0, .ref mo)]) hx hb dX3_all_18 hl (k := 1) rfl (nI_add (i) 1) (by decide) rfl (fun ls hl => ?_)
    refine lv_goto (tgt := 4) hx hb dX3_all_21 (by decide) ?_
    exact ih4 (by omega) trivial ls (lv_sub hl [0, 1, 2] rfl)

set_option maxHeartbeats 1000000 in
set_option maxRecDepth 100000 in
theorem c_X3_slips (l : Launch) (G : hG) (hp : HP) (mo dk lv : Nat) (lvl : Nat → Nat) (row : Nat → Nat → Nat) (rm : Int32) (tm : Nat) (dt : Int32) (d : Row) (δ : TG) (V : BV) (ω : TS) (hm : sA mo dk lv lvl row rm tm dt d δ V ω hp) : hRd l yX3_slips wsX3_slips 0 0 G hp [.ref mo] (some (.int (nI (snA (fun l => qL V l) 4)))) := by
  refine Met.ofW (cc := cX3_slips) (maxL := 10) (ret := (some .int)) (by decide) rfl ?_
  intro p e s m args below meth c s₁ B hml hv
  obtain ⟨rfl, hV0, hK0⟩ := hv
  have hx := B.exec
  have hb := B.bytes
  have hr := B.returns
  have hts := atoms_spec (ws := wsX3_slips) B.pre
  have hown : s.vm.findClass RX3 = some m.cls := findClass_of_methodNamed B.named
  have hlocks := B.notSynchronized
  have hF : CallFix p m c cX3_slips 10 s [.ref mo].toArray wsX3_slips RX3 := ⟨hx, hb, hml, hown, hts⟩
  have hw0 := hts (.fieldLink RX3 22 "SlipLevelsLaw$Sim" "levels" "[[[[I") (by decide +kernel)
  have hi3 : ∀ w ∈ u_ws RX3 TX3 7, w ∈ wsX3_slips := by
    intro w h
    unfold wsX3_slips
    simp only [List.mem_cons, List.mem_append, h, true_or, or_true]
  have hl := lv_entry ([.ref mo]) (n := 10) (Nat.le_of_ble_eq_true rfl)
  rw [lg_entry_eq]
  generalize (lg_sl ([.ref mo]) ++ List.replicate (10 - (lg_sl ([.ref mo])).length) Slot.unset).toArray = ls at hl ⊢
  replace hl : lv_has ls 10 [(0, .ref mo)] := hl
  have hn := hm.le
  refine lv_iconst (v := nI 0) hx hb dX3_slips_0 (by decide) ?_
  refine lv_istore_n (lv' := [(1, .int (nI 0)), (0, .ref mo)]) hx hb dX3_slips_1 rfl hl (by decide) rfl (fun ls hl => ?_)
  refine lv_aload_n hx hb dX3_slips_2 rfl (lv_at hl 1 rfl) ?_
  refine h_get (v := .ref lv) hx hb hts hi3 hown hK0 hV0 hm.cmo rfl 6 (by decide) hw0 rfl dX3_slips_3 ?_
  refine lv_astore_n (lv' := [(2, .ref lv), (1, .int (nI 0)), (0, .ref mo)]) hx hb dX3_slips_6 rfl hl (by decide) rfl (fun ls hl => ?_)
  refine lv_aload_n hx hb dX3_slips_7 rfl (lv_at hl 0 rfl) ?_
  refine h_alenQ hm.clv hx hb hK0 hV0 rfl dX3_slips_8 ?_
  refine lv_istore_n (lv' := [(3, .int (nI 4)), (2, .ref lv), (1, .int (nI 0)), (0, .ref mo)]) hx hb dX3_slips_9 rfl hl (by decide) rfl (fun ls hl => ?_)
  refine lv_iconst (v := nI 0) hx hb dX3_slips_10 (by decide) ?_
  refine lv_istore (lv' := [(4, .int (nI 0)), (3, .int (nI 4)), (2, .ref lv), (1, .int (nI 0)), (0, .ref mo)]) hx hb dX3_slips_11 hl (by decide) rfl (fun ls hl => ?_)
  replace hl : lv_has ls 10 [(4, .int (nI 0)), (1, .int (nI (snA (fun l => qL V l) 0))), (3, .int (nI 4)), (2, .ref lv), (0, .ref mo)] := lv_sub hl [0, 3, 1, 2, 4] rfl
  revert ls
  refine h_loop 4 (fun i => [(4, .int (nI i)), (1, .int (nI (snA (fun l => qL V l) i))), (3, .int (nI 4)), (2, .ref lv), (0, .ref mo)]) (fun _ => True) (fun i hi13 hI13 ih13 ls hl => ?_) 0 (Nat.zero_le _) trivial
  refine lv_iload hx hb dX3_slips_13 (lv_at hl 0 rfl) ?_
  refine lv_iload_n hx hb dX3_slips_15 rfl (lv_at hl 2 rfl) ?_
  refine h_icmp_ge (a := i) (b := 4) (tgt := 69) hx hb dX3_slips_16 (by decide) (by omega) (by omega) (fun c_16 => ?_) (fun c_16 => ?_)
  · refine lv_iload_n hx hb dX3_slips_69 rfl (lv_at hl 1 rfl) ?_
    exact h_iretR hx hb hr hlocks (by rw [show i = 4 by omega]) dX3_slips_70
  · refine lv_aload_n hx hb dX3_slips_19 rfl (lv_at hl 3 rfl) ?_
    refine lv_iload hx hb dX3_slips_20 (lv_at hl 0 rfl) ?_
    refine h_aaldE (i := i) hm.clv hx hb hK0 hV0 rfl rfl (by omega) (by omega) dX3_slips_22 ?_
    refine lv_astore (lv' := [(5, .ref (lvl i)), (4, .int (nI i)), (1, .int (nI (snA (fun l => qL V l) i))), (3, .int (nI 4)), (2, .ref lv), (0, .ref mo)]) hx hb dX3_slips_23 hl (by decide) rfl (fun ls hl => ?_)
    refine lv_aload hx hb dX3_slips_25 (lv_at hl 0 rfl) ?_
    refine lv_astore (lv' := [(6, .ref (lvl i)), (5, .ref (lvl i)), (4, .int (nI i)), (1, .int (nI (snA (fun l => qL V l) i))), (3, .int (nI 4)), (2, .ref lv), (0, .ref mo)]) hx hb dX3_slips_27 hl (by decide) rfl (fun ls hl => ?_)
    refine lv_aload hx hb dX3_slips_29 (lv_at hl 0 rfl) ?_
    refine h_alenQ (hm.clvl (l := i) (by omega)) hx hb hK0 hV0 rfl dX3_slips_31 ?_
    refine lv_istore (lv' := [(7, .int (nI (bN V i))), (6, .ref (lvl i)), (5, .ref (lvl i)), (4, .int (nI i)), (1, .int (nI (snA (fun l => qL V l) i))), (3, .int (nI 4)), (2, .ref lv), (0, .ref mo)]) hx hb dX3_slips_32 hl (by decide) rfl (fun ls hl => ?_)
    refine lv_iconst (v := nI 0) hx hb dX3_slips_34 (by decide) ?_
    refine lv_istore (lv' := [(8, .int (nI 0)), (7, .int (nI (bN V i))), (6, .ref (lvl i)), (5, .ref (lvl i)), (4, .int (nI i)), (1, .int (nI (snA (fun l => qL V l) i))), (3, .int (nI 4)), (2, .ref lv), (0, .ref mo)]) hx hb dX3_slips_35 hl (by decide) rfl (fun ls hl => ?_)
    have hni := hn i
    replace hl : lv_has ls 10 [(8, .int (nI 0)), (1, .int (nI (snA (fun l => qL V l) i + snA (fun r => szR (bG V i r)) 0))), (7, .int (nI (bN V i))), (6, .ref (lvl i)), (5, .ref (lvl i)), (4, .int (nI i)), (3, .int (nI 4)), (2, .ref lv), (0, .ref mo)] := lv_sub hl [0, 5, 1, 2, 3, 4, 6, 7, 8] rfl
    revert ls
    refine h_loop (bN V i) (fun r => [(8, .int (nI r)), (1, .int (nI (snA (fun l => qL V l) i + snA (fun r => szR (bG V i r)) r))), (7, .int (nI (bN V i))), (6, .ref (lvl i)), (5, .ref (lvl i)), (4, .int (nI i)), (3, .int (nI 4)), (2, .ref lv), (0, .ref mo)]) (fun _ => True) (fun r hi37 hI37 ih37 ls hl => ?_) 0 (Nat.zero_le _) trivial
    refine lv_iload hx hb dX3_slips_37 (lv_at hl 0 rfl) ?_
    refine lv_iload hx hb dX3_slips_39 (lv_at hl 2 rfl) ?_
    refine h_icmp_ge (a := r) (b := bN V i) (tgt := 63) hx hb dX3_slips_41 (by decide) (by omega) (by omega) (fun c_41 => ?_) (fun c_41 => ?_)
    · refine lv_iinc (v := nI (i + 1)) (lv' := [(4, .int (nI (i + 1))), (8, .int (nI r)), (1, .int (nI (snA (fun l => qL V l) i + snA (fun r => szR (bG V i r)) r))), (7, .int (nI (bN V i))), (6, .ref (lvl i)), (5, .ref (lvl i)), (3, .int (nI 4)), (2, .ref lv), (0, .ref mo)]) hx hb dX3_slips_63 hl (k := 5) rfl (nI_add (i) 1) (by decide) rfl (fun ls hl => ?_)
      refine lv_goto (tgt := 13) hx hb dX3_slips_66 (by decide) ?_
      obtain rfl : r = bN V i := by omega
      exact ih13 (by omega) trivial ls (lv_sub hl [0, 2, 6, 7, 8] rfl)
    · refine lv_aload hx hb dX3_slips_44 (lv_at hl 3 rfl) ?_
      refine lv_iload hx hb dX3_slips_46 (lv_at hl 0 rfl) ?_
      refine h_aaldE (i := r) (hm.clvl (l := i) (by omega)) hx hb hK0 hV0 rfl rfl (by omega) (by omega) dX3_slips_48 ?_
      refine lv_astore (lv' := [(9, .ref (row i r)), (8, .int (nI r)), (1, .int (nI (snA (fun l => qL V l) i + snA (fun r => szR (bG V i r)) r))), (7, .int (nI (bN V i))), (6, .ref (lvl i)), (5, .ref (lvl i)), (4, .int (nI i)), (3, .int (nI 4)), (2, .ref lv), (0, .ref mo)]) hx hb dX3_slips_49 hl (by decide) rfl (fun ls hl => ?_)
      refine lv_iload_n hx hb dX3_slips_51 rfl (lv_at hl 2 rfl) ?_
      refine lv_aload hx hb dX3_slips_52 (lv_at hl 0 rfl) ?_
      refine h_alenQ (hm.crow (l := i) (r := r) (by omega) (by omega)).1 hx hb hK0 hV0 rfl dX3_slips_54 ?_
      refine h_iaddN hx hb dX3_slips_55 ?_
      refine lv_istore_n (lv' := [(1, .int (nI (snA (fun l => qL V l) i + snA (fun r => szR (bG V i r)) r + szR (bG V i r)))), (9, .ref (row i r)), (8, .int (nI r)), (7, .int (nI (bN V i))), (6, .ref (lvl i)), (5, .ref (lvl i)), (4, .int (nI i)), (3, .int (nI 4)), (2, .ref lv), (0, .ref mo)]) hx hb dX3_slips_56 rfl hl (by decide) rfl (fun ls hl => ?_)
      refine lv_iinc (v := nI (r + 1)) (lv' := [(8, .int (nI (r + 1))), (1, .int (nI (snA (fun l => qL V l) i + snA (fun r => szR (bG V i r)) r + szR (bG V i r)))), (9, .ref (row i r)), (7, .int (nI (bN V i))), (6, .ref (lvl i)), (5, .ref (lvl i)), (4, .int (nI i)), (3, .int (nI 4)), (2, .ref lv), (0, .ref mo)]) hx hb dX3_slips_57 hl (k := 2) rfl (nI_add (r) 1) (by decide) rfl (fun ls hl => ?_)
      refine lv_goto (tgt := 37) hx hb dX3_slips_60 (by decide) ?_
      exact ih37 (by omega) trivial ls (by show lv_has ls 10 [(8, .int (nI (r + 1))), (1, .int (nI (snA (fun l => qL V l) i + snA (fun r => szR (bG V i r)) (r + 1)))), (7, .int (nI (bN V i))), (6, .ref (lvl i)), (5, .ref (lvl i)), (4, .int (nI i)), (3, .int (nI 4)), (2, .ref lv), (0, .ref mo)]; rw [snA_s, ← Nat.add_assoc]; exact lv_sub hl [0, 1, 3, 4, 5, 6, 7, 8, 9] rfl)
