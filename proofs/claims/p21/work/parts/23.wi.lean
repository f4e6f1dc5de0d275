/-! told, with -/
set_option maxHeartbeats 1000000 in
set_option maxRecDepth 100000 in
theorem c_L_told (l : Launch) (G : hG) (hp : HP) (a x : Nat) (f : Row) (t : Nat) (hs : sl hp a x (f x) t) (hv : okw (f x)) : hRd l yL_told wsL_told 0 0 G hp [.ref a] (some (.int (toldR f x))) := by
  refine Met.ofW (cc := cL_told) (maxL := 1) (ret := (some .int)) (by decide) rfl ?_
  intro p e s m args below meth c s₁ B hml hv
  obtain ⟨rfl, hV0, hK0⟩ := hv
  have hx := B.exec
  have hb := B.bytes
  have hr := B.returns
  have hts := atoms_spec (ws := wsL_told) B.pre
  have hown : s.vm.findClass RL = some m.cls := findClass_of_methodNamed B.named
  have hlocks := B.notSynchronized
  have hF : CallFix p m c cL_told 1 s [.ref a].toArray wsL_told RL := ⟨hx, hb, hml, hown, hts⟩
  have hl := lv_entry ([.ref a]) (n := 1) (Nat.le_of_ble_eq_true rfl)
  rw [lg_entry_eq]
  generalize (lg_sl ([.ref a]) ++ List.replicate (1 - (lg_sl ([.ref a])).length) Slot.unset).toArray = ls at hl ⊢
  replace hl : lv_has ls 1 [(0, .ref a)] := hl
  refine lv_aload_n hx hb dL_told_0 rfl (lv_at hl 0 rfl) ?_
  refine lv_iconst (v := nI 1) hx hb dL_told_1 (by decide) ?_
  refine h_sl1 hs hx hb hK0 hV0 dL_told_2 ?_
  refine lv_if_ge (tgt := 14) hx hb dL_told_3 (by decide) (fun c_3 => ?_) (fun c_3 => ?_)
  · refine lv_bipush (v := nI 100) hx hb dL_told_14 (by decide) ?_
    refine lv_aload_n hx hb dL_told_16 rfl (lv_at hl 0 rfl) ?_
    refine lv_iconst (v := nI 0) hx hb dL_told_17 (by decide) ?_
    refine h_sl0 hs hx hb hK0 hV0 dL_told_18 ?_
    refine lv_imul hx hb dL_told_19 ?_
    refine lv_aload_n hx hb dL_told_20 rfl (lv_at hl 0 rfl) ?_
    refine lv_iconst (v := nI 1) hx hb dL_told_21 (by decide) ?_
    refine h_sl1 hs hx hb hK0 hV0 dL_told_22 ?_
    refine lv_iadd hx hb dL_told_23 ?_
    exact h_iretR hx hb hr hlocks (by unfold toldR; rw [if_neg (fun z => (Int32.not_lt.mpr c_3) (hv.lt.mpr z))]) dL_told_24
  · refine lv_iconst (v := (-1)) hx hb dL_told_6 (by decide) ?_
    refine lv_aload_n hx hb dL_told_7 rfl (lv_at hl 0 rfl) ?_
    refine lv_iconst (v := nI 0) hx hb dL_told_8 (by decide) ?_
    refine h_sl0 hs hx hb hK0 hV0 dL_told_9 ?_
    refine lv_isub hx hb dL_told_10 ?_
    refine lv_goto (tgt := 24) hx hb dL_told_11 (by decide) ?_
    exact h_iretR hx hb hr hlocks (by unfold toldR; rw [if_pos (hv.lt.mp (Int32.not_le.mp c_3))]) dL_told_24

set_option maxHeartbeats 1000000 in
set_option maxRecDepth 100000 in
theorem c_L_with (l : Launch) (G : hG) (A : Nat → Prop) (hp : HP) (a : Nat) (f : Row) (w : TG) (hrw : rn hp a f w) (qx x : Nat) (v : Int32) (t : Nat) (hs : sl hp qx x v t) (hv : v ≠ -2) (hA0 : hIn A hp) : hWr l yL_with wsL_with 0 0 2 130 G A hp [.ref a, .ref qx] (fun ro hp' => ∃ q2, ro = some (.ref q2) ∧ rn hp' q2 (wF f w x v t) (wT f w x t qx) ∧ leH hp hp') := by
  refine Met.ofW (cc := cL_with) (maxL := 9) (ret := (some (.array (.array .int)))) (by decide) rfl ?_
  intro p e s m args below meth c s₁ B hml hv
  obtain ⟨rfl, hV0, hK0, hA⟩ := hv
  have hx := B.exec
  have hb := B.bytes
  have hr := B.returns
  have hts := atoms_spec (ws := wsL_with) B.pre
  have hown : s.vm.findClass RL = some m.cls := findClass_of_methodNamed B.named
  have hlocks := B.notSynchronized
  have hF : CallFix p m c cL_with 9 s [.ref a, .ref qx].toArray wsL_with RL := ⟨hx, hb, hml, hown, hts⟩
  have hw0 := hts (.classLink RL 9 "[I") (by decide +kernel)
  have hS : va_S A s.heap s.heap [] := va_S.rf
  have hl := lv_entry ([.ref a, .ref qx]) (n := 9) (Nat.le_of_ble_eq_true rfl)
  rw [lg_entry_eq]
  generalize (lg_sl ([.ref a, .ref qx]) ++ List.replicate (9 - (lg_sl ([.ref a, .ref qx])).length) Slot.unset).toArray = ls at hl ⊢
  replace hl : lv_has ls 9 [(0, .ref a), (1, .ref qx)] := hl
  have hra := hrw
  have hsx := hs
  have hx6 := hs.2.1
  have ht2 := hs.2.2
  refine lv_aload_n hx hb dL_with_0 rfl (lv_at hl 0 rfl) ?_
  refine h_alenQ hra.1 hx hb hK0 hV0 rfl dL_with_1 ?_
  refine lv_iconst (v := nI 1) hx hb dL_with_2 (by decide) ?_
  refine h_iaddN hx hb dL_with_3 ?_
  have hzf := szR_le f
  refine h_newqA (t := 3) (ty := .int) hx hb hK0.2.2.1 rfl hown hw0 hK0 hV0 hA0 hS hA (n := szR f + 1) (by omega) (by show _ ≤ 2; omega) (by show _ ≤ 130; omega) dL_with_4 (fun q1 H hqq1 hV0 hA0 hS => ?_)
  have hra : rn (hput hp q1 (eQ 3 (szR f + 1) (fun _ => none))) a f w := hrw.mv (leH.rf.new hqq1).x
  have hsx : sl (hput hp q1 (eQ 3 (szR f + 1) (fun _ => none))) qx x v t := hs.mv (leH.rf.new hqq1).x
  refine lv_astore_n (lv' := [(2, .ref q1), (0, .ref a), (1, .ref qx)]) hx hb dL_with_7 rfl hl (by decide) rfl (fun ls hl => ?_)
  refine lv_iconst (v := nI 0) hx hb dL_with_8 (by decide) ?_
  refine lv_istore_n (lv' := [(3, .int (nI 0)), (2, .ref q1), (0, .ref a), (1, .ref qx)]) hx hb dL_with_9 rfl hl (by decide) rfl (fun ls hl => ?_)
  refine lv_iconst (v := nI 0) hx hb dL_with_10 (by decide) ?_
  refine lv_istore (lv' := [(4, .int (nI 0)), (3, .int (nI 0)), (2, .ref q1), (0, .ref a), (1, .ref qx)]) hx hb dL_with_11 hl (by decide) rfl (fun ls hl => ?_)
  refine lv_aload_n hx hb dL_with_13 rfl (lv_at hl 3 rfl) ?_
  refine lv_astore (lv' := [(5, .ref a), (4, .int (nI 0)), (3, .int (nI 0)), (2, .ref q1), (0, .ref a), (1, .ref qx)]) hx hb dL_with_14 hl (by decide) rfl (fun ls hl => ?_)
  refine lv_aload hx hb dL_with_16 (lv_at hl 0 rfl) ?_
  refine h_alenQ hra.1 hx hb hK0 hV0 rfl dL_with_18 ?_
  refine lv_istore (lv' := [(6, .int (nI (szR f))), (5, .ref a), (4, .int (nI 0)), (3, .int (nI 0)), (2, .ref q1), (0, .ref a), (1, .ref qx)]) hx hb dL_with_19 hl (by decide) rfl (fun ls hl => ?_)
  refine lv_iconst (v := nI 0) hx hb dL_with_21 (by decide) ?_
  refine lv_istore (lv' := [(7, .int (nI 0)), (6, .int (nI (szR f))), (5, .ref a), (4, .int (nI 0)), (3, .int (nI 0)), (2, .ref q1), (0, .ref a), (1, .ref qx)]) hx hb dL_with_22 hl (by decide) rfl (fun ls hl => ?_)
  replace hl : lv_has ls 9 [(7, .int (nI 0)), (3, .int (nI (wN f x 0))), (4, .int (bI (decide (cntB (hasR f) x < 0)))), (6, .int (nI (szR f))), (5, .ref a), (2, .ref q1), (0, .ref a), (1, .ref qx)] := by rw [wN_0]; exact lv_sub hl [0, 4, 3, 1, 2, 5, 6, 7] rfl
  refine h_loopW (G := G) (A := A) (H0 := s.heap) (Wf := fun i H locs ls => W p l e (headSpec wsL_with { frames := 0, cells := 2, slots := 130, locals := 0 }).room s m ([.ref a, .ref qx].toArray) below meth c H locs (0 + 1) (0 + (szR f + 1)) (MQ below (hW G A (fun ro hp' => ∃ q2, ro = some (.ref q2) ∧ rn hp' q2 (wF f w x v t) (wT f w x t qx) ∧ leH hp hp')) ([.ref a, .ref qx].toArray) s 2 130 A) (F0 m 24 ls [])) (szR f) (fun i => [(7, .int (nI i)), (3, .int (nI (wN f x i))), (4, .int (bI (decide (cntB (hasR f) x < i)))), (6, .int (nI (szR f))), (5, .ref a), (2, .ref q1), (0, .ref a), (1, .ref qx)]) (fun i hp' => ∃ M, hp' = hput hp q1 (eQ 3 (szR f + 1) M) ∧ wM M (wF f w x v t) (wT f w x t qx) (wN f x i)) (fun i hi24a hp' H locs hI24 hV0 hA0 hS ih24 ls hl => ?_) 0 (Nat.zero_le _) _ H [] ⟨_, rfl, fun k hk => by rw [wN_0] at hk; exact absurd hk (Nat.not_lt_zero k)⟩ hV0 hA0 hS ls hl
  obtain ⟨M, rfl, hM⟩ := hI24
  have hwn := wN_le f x i
  have hra : rn (hput hp q1 (eQ 3 (szR f + 1) M)) a f w := hrw.mv (leH.rf.new hqq1).x
  have hsx : sl (hput hp q1 (eQ 3 (szR f + 1) M)) qx x v t := hs.mv (leH.rf.new hqq1).x
  refine lv_iload hx hb dL_with_24 (lv_at hl 0 rfl) ?_
  refine lv_iload hx hb dL_with_26 (lv_at hl 3 rfl) ?_
  refine h_icmp_ge (a := i) (b := szR f) (tgt := 115) hx hb dL_with_28 (by decide) (by omega) (by omega) (fun c_28 => ?_) (fun c_28 => ?_)
  · refine lv_iload hx hb dL_with_115 (lv_at hl 2 rfl) ?_
    refine h_if_neB (tgt := 127) hx hb dL_with_117 (by decide) (fun c_117 => ?_) (fun c_117 => ?_)
    · obtain rfl : i = szR f := by omega
      have hcl := cnt_le (f := f) (x := x) hsx.2.1
      have hsz := wn_sz (F := wF f w x v t) (wF_has hv) hsx.2.1
      have hlt := of_decide_eq_true c_117
      have eN : wN f x (szR f) = szR (wF f w x v t) := by unfold wN; rw [if_neg (by omega), hsz]
      rw [eN] at hM
      replace hl : lv_has ls 9 [(3, .int (nI (szR (wF f w x v t)))), (2, .ref q1), (0, .ref a), (1, .ref qx)] := by rw [← eN]; exact lv_sub hl [1, 5, 6, 7] rfl
      refine lv_iload_n hx hb dL_with_127 rfl (lv_at hl 0 rfl) ?_
      have hzF := szR_le (wF f w x v t)
      refine h_newqA (t := 3) (ty := .int) hx hb hK0.2.2.1 rfl hown hw0 hK0 hV0 hA0 hS hA (n := szR (wF f w x v t)) (by omega) (by show _ ≤ 2; omega) (by show _ ≤ 130; omega) dL_with_128 (fun q2 H hqq2 hV0 hA0 hS => ?_)
      have hq12 : q1 ≠ q2 := (hput_none hqq2).1.symm
      have hqq2b : hp q2 = none := (hput_none hqq2).2
      refine lv_astore (lv' := [(5, .ref q2), (3, .int (nI (szR (wF f w x v t)))), (2, .ref q1), (0, .ref a), (1, .ref qx)]) hx hb dL_with_131 hl (by decide) rfl (fun ls hl => ?_)
      refine lv_iconst (v := nI 0) hx hb dL_with_133 (by decide) ?_
      refine lv_istore (lv' := [(6, .int (nI 0)), (5, .ref q2), (3, .int (nI (szR (wF f w x v t)))), (2, .ref q1), (0, .ref a), (1, .ref qx)]) hx hb dL_with_134 hl (by decide) rfl (fun ls hl => ?_)
      replace hl : lv_has ls 9 [(6, .int (nI 0)), (5, .ref q2), (3, .int (nI (szR (wF f w x v t)))), (2, .ref q1), (0, .ref a), (1, .ref qx)] := lv_sub hl [0, 1, 2, 3, 4, 5] rfl
      refine h_loopW (G := G) (A := A) (H0 := s.heap) (Wf := fun k H locs ls => W p l e (headSpec wsL_with { frames := 0, cells := 2, slots := 130, locals := 0 }).room s m ([.ref a, .ref qx].toArray) below meth c H locs (0 + 1 + 1) (0 + (szR f + 1) + szR (wF f w x v t)) (MQ below (hW G A (fun ro hp' => ∃ q2, ro = some (.ref q2) ∧ rn hp' q2 (wF f w x v t) (wT f w x t qx) ∧ leH hp hp')) ([.ref a, .ref qx].toArray) s 2 130 A) (F0 m 136 ls [])) (szR (wF f w x v t)) (fun k => [(6, .int (nI k)), (5, .ref q2), (3, .int (nI (szR (wF f w x v t)))), (2, .ref q1), (0, .ref a), (1, .ref qx)]) (fun k hp' => ∃ B, hp' = hput (hput hp q1 (eQ 3 (szR f + 1) M)) q2 (eQ 3 (szR (wF f w x v t)) B) ∧ wM B (wF f w x v t) (wT f w x t qx) k) (fun k hi136 hp' H locs hI136 hV0 hA0 hS ih136 ls hl => ?_) 0 (Nat.zero_le _) _ H locs ⟨_, rfl, fun k hk => absurd hk (Nat.not_lt_zero k)⟩ hV0 hA0 hS ls hl
      obtain ⟨B, rfl, hB⟩ := hI136
      have hle : leH hp (hput (hput hp q1 (eQ 3 (szR f + 1) M)) q2 (eQ 3 (szR (wF f w x v t)) B)) := (leH.rf.new hqq1).new hqq2b
      have hq1 : hput (hput hp q1 (eQ 3 (szR f + 1) M)) q2 (eQ 3 (szR (wF f w x v t)) B) q1 = some (eQ 3 (szR f + 1) M) := (hput_n _ _ hq12).trans (hput_s _ _ _)
      refine lv_iload hx hb dL_with_136 (lv_at hl 0 rfl) ?_
      refine lv_iload_n hx hb dL_with_138 rfl (lv_at hl 2 rfl) ?_
      refine h_icmp_ge (a := k) (b := szR (wF f w x v t)) (tgt := 157) hx hb dL_with_139 (by decide) (by omega) (by omega) (fun c_139 => ?_) (fun c_139 => ?_)
      · refine lv_aload hx hb dL_with_157 (lv_at hl 1 rfl) ?_
        obtain rfl : k = szR (wF f w x v t) := by omega
        refine W.widen (k := 2) (n := 130) (by omega) (by omega) ?_
        exact W.aret hx hb hr (by first | exact Or.inl ⟨_, rfl⟩ | exact Or.inr ⟨_, rfl⟩) (Or.inr ⟨_, rfl⟩) (h_qW ⟨q2, rfl, ⟨⟨B, hput_s _ _ _, hB⟩, fun y hy hh => (w_sl hrw hs y hy hh).mv hle.x⟩, hle⟩ hV0 hA0 hS) hS.2.2 dL_with_159 hlocks
      · refine lv_aload hx hb dL_with_142 (lv_at hl 1 rfl) ?_
        refine lv_iload hx hb dL_with_144 (lv_at hl 0 rfl) ?_
        refine lv_aload_n hx hb dL_with_146 rfl (lv_at hl 3 rfl) ?_
        refine lv_iload hx hb dL_with_147 (lv_at hl 0 rfl) ?_
        refine h_aaldS (i := k) (x := (wT f w x t qx (nthR (wF f w x v t) k)).2) (hM k (by omega)) hx hb hK0 hV0 hq1 rfl rfl (by omega) (by omega) dL_with_149 ?_
        obtain ⟨FV, hFV⟩ := ((w_sl hrw hs _ (nth_at (f := wF f w x v t) (k := k) (by omega)).1 (nth_at (f := wF f w x v t) (k := k) (by omega)).2.1).mv hle.x).c
        refine h_aastI (i := k) hx hb hK0 hV0 hA0 hS (hput_s _ _ _) hFV (by omega) (by omega) dL_with_150 (fun H locs hV0 hA0 hS => ?_)
        rw [hput_hput] at hV0 hA0
        refine lv_iinc (v := nI (k + 1)) (lv' := [(6, .int (nI (k + 1))), (5, .ref q2), (3, .int (nI (szR (wF f w x v t)))), (2, .ref q1), (0, .ref a), (1, .ref qx)]) hx hb dL_with_151 hl (k := 0) rfl (nI_add (k) 1) (by decide) rfl (fun ls hl => ?_)
        refine lv_goto (tgt := 136) hx hb dL_with_154 (by decide) ?_
        exact ih136 _ H locs (by omega) ⟨_, rfl, hB.up (y := nthR (wF f w x v t) k) rfl rfl⟩ hV0 hA0 hS ls (lv_sub hl [0, 1, 2, 3, 4, 5] rfl)
    · have hlt0 := of_decide_eq_false c_117
      have e30 : wN f x i = i := wN_lo (by omega)
      refine lv_aload_n hx hb dL_with_120 rfl (lv_at hl 5 rfl) ?_
      refine lv_iload_n hx hb dL_with_121 rfl (lv_at hl 1 rfl) ?_
      refine lv_aload_n hx hb dL_with_122 rfl (lv_at hl 7 rfl) ?_
      obtain ⟨FV, hFV⟩ := hsx.c
      refine h_aastI (i := wN f x i) hx hb hK0 hV0 hA0 hS (hput_s _ _ _) hFV (by omega) (by omega) dL_with_123 (fun H locs hV0 hA0 hS => ?_)
      rw [hput_hput] at hV0 hA0
      replace hra : rn (hput hp q1 (eQ 3 (szR f + 1) (va_up M (wN f x i) (some qx)))) a f w := hrw.mv (leH.rf.new hqq1).x
      replace hsx : sl (hput hp q1 (eQ 3 (szR f + 1) (va_up M (wN f x i) (some qx)))) qx x v t := hs.mv (leH.rf.new hqq1).x
      refine lv_iinc (v := nI (wN f x i + 1)) (lv' := [(3, .int (nI (wN f x i + 1))), (7, .int (nI i)), (4, .int (bI (decide (cntB (hasR f) x < i)))), (6, .int (nI (szR f))), (5, .ref a), (2, .ref q1), (0, .ref a), (1, .ref qx)]) hx hb dL_with_124 hl (k := 1) rfl (nI_add (wN f x i) 1) (by decide) rfl (fun ls hl => ?_)
      obtain rfl : i = szR f := by omega
      have hcl := cnt_le (f := f) (x := x) hsx.2.1
      have hsz := wn_sz (F := wF f w x v t) (wF_has hv) hsx.2.1
      have hlt := of_decide_eq_false c_117
      have hb1 : hasR f x = false := by
        cases hbb : hasR f x with
        | false => rfl
        | true => have := hcl.2 hbb; omega
      have e3 : wN f x (szR f) = szR f := wN_lo (by omega)
      have eN : wN f x (szR f) + 1 = szR (wF f w x v t) := by rw [hsz, if_neg (by rw [hb1]; decide), e3]
      replace hM := hM.up (q := qx) (y := x) (by rw [wT_y (fun z => by rw [hb1] at z; cases z)]) (by rw [e3, show szR f = cntB (hasR f) x by omega]; exact wn_2 (wF_has hv) hsx.2.1)
      rw [eN] at hM
      replace hl : lv_has ls 9 [(3, .int (nI (szR (wF f w x v t)))), (2, .ref q1), (0, .ref a), (1, .ref qx)] := by rw [← eN]; exact lv_sub hl [0, 5, 6, 7] rfl
      generalize (va_up M (wN f x (szR f)) (some qx)) = M at hV0 hA0 hM
      refine lv_iload_n hx hb dL_with_127 rfl (lv_at hl 0 rfl) ?_
      have hzF := szR_le (wF f w x v t)
      refine h_newqA (t := 3) (ty := .int) hx hb hK0.2.2.1 rfl hown hw0 hK0 hV0 hA0 hS hA (n := szR (wF f w x v t)) (by omega) (by show _ ≤ 2; omega) (by show _ ≤ 130; omega) dL_with_128 (fun q2 H hqq2 hV0 hA0 hS => ?_)
      have hq12 : q1 ≠ q2 := (hput_none hqq2).1.symm
      have hqq2b : hp q2 = none := (hput_none hqq2).2
      refine lv_astore (lv' := [(5, .ref q2), (3, .int (nI (szR (wF f w x v t)))), (2, .ref q1), (0, .ref a), (1, .ref qx)]) hx hb dL_with_131 hl (by decide) rfl (fun ls hl => ?_)
      refine lv_iconst (v := nI 0) hx hb dL_with_133 (by decide) ?_
      refine lv_istore (lv' := [(6, .int (nI 0)), (5, .ref q2), (3, .int (nI (szR (wF f w x v t)))), (2, .ref q1), (0, .ref a), (1, .ref qx)]) hx hb dL_with_134 hl (by decide) rfl (fun ls hl => ?_)
      replace hl : lv_has ls 9 [(6, .int (nI 0)), (5, .ref q2), (3, .int (nI (szR (wF f w x v t)))), (2, .ref q1), (0, .ref a), (1, .ref qx)] := lv_sub hl [0, 1, 2, 3, 4, 5] rfl
      refine h_loopW (G := G) (A := A) (H0 := s.heap) (Wf := fun k H locs ls => W p l e (headSpec wsL_with { frames := 0, cells := 2, slots := 130, locals := 0 }).room s m ([.ref a, .ref qx].toArray) below meth c H locs (0 + 1 + 1) (0 + (szR f + 1) + szR (wF f w x v t)) (MQ below (hW G A (fun ro hp' => ∃ q2, ro = some (.ref q2) ∧ rn hp' q2 (wF f w x v t) (wT f w x t qx) ∧ leH hp hp')) ([.ref a, .ref qx].toArray) s 2 130 A) (F0 m 136 ls [])) (szR (wF f w x v t)) (fun k => [(6, .int (nI k)), (5, .ref q2), (3, .int (nI (szR (wF f w x v t)))), (2, .ref q1), (0, .ref a), (1, .ref qx)]) (fun k hp' => ∃ B, hp' = hput (hput hp q1 (eQ 3 (szR f + 1) M)) q2 (eQ 3 (szR (wF f w x v t)) B) ∧ wM B (wF f w x v t) (wT f w x t qx) k) (fun k hi136 hp' H locs hI136 hV0 hA0 hS ih136 ls hl => ?_) 0 (Nat.zero_le _) _ H locs ⟨_, rfl, fun k hk => absurd hk (Nat.not_lt_zero k)⟩ hV0 hA0 hS ls hl
      obtain ⟨B, rfl, hB⟩ := hI136
      have hle : leH hp (hput (hput hp q1 (eQ 3 (szR f + 1) M)) q2 (eQ 3 (szR (wF f w x v t)) B)) := (leH.rf.new hqq1).new hqq2b
      have hq1 : hput (hput hp q1 (eQ 3 (szR f + 1) M)) q2 (eQ 3 (szR (wF f w x v t)) B) q1 = some (eQ 3 (szR f + 1) M) := (hput_n _ _ hq12).trans (hput_s _ _ _)
      refine lv_iload hx hb dL_with_136 (lv_at hl 0 rfl) ?_
      refine lv_iload_n hx hb dL_with_138 rfl (lv_at hl 2 rfl) ?_
      refine h_icmp_ge (a := k) (b := szR (wF f w x v t)) (tgt := 157) hx hb dL_with_139 (by decide) (by omega) (by omega) (fun c_139 => ?_) (fun c_139 => ?_)
      · refine lv_aload hx hb dL_with_157 (lv_at hl 1 rfl) ?_
        obtain rfl : k = szR (wF f w x v t) := by omega
        refine W.widen (k := 2) (n := 130) (by omega) (by omega) ?_
        exact W.aret hx hb hr (by first | exact Or.inl ⟨_, rfl⟩ | exact Or.inr ⟨_, rfl⟩) (Or.inr ⟨_, rfl⟩) (h_qW ⟨q2, rfl, ⟨⟨B, hput_s _ _ _, hB⟩, fun y hy hh => (w_sl hrw hs y hy hh).mv hle.x⟩, hle⟩ hV0 hA0 hS) hS.2.2 dL_with_159 hlocks
      · refine lv_aload hx hb dL_with_142 (lv_at hl 1 rfl) ?_
        refine lv_iload hx hb dL_with_144 (lv_at hl 0 rfl) ?_
        refine lv_aload_n hx hb dL_with_146 rfl (lv_at hl 3 rfl) ?_
        refine lv_iload hx hb dL_with_147 (lv_at hl 0 rfl) ?_
        refine h_aaldS (i := k) (x := (wT f w x t qx (nthR (wF f w x v t) k)).2) (hM k (by omega)) hx hb hK0 hV0 hq1 rfl rfl (by omega) (by omega) dL_with_149 ?_
        obtain ⟨FV, hFV⟩ := ((w_sl hrw hs _ (nth_at (f := wF f w x v t) (k := k) (by omega)).1 (nth_at (f := wF f w x v t) (k := k) (by omega)).2.1).mv hle.x).c
        refine h_aastI (i := k) hx hb hK0 hV0 hA0 hS (hput_s _ _ _) hFV (by omega) (by omega) dL_with_150 (fun H locs hV0 hA0 hS => ?_)
        rw [hput_hput] at hV0 hA0
        refine lv_iinc (v := nI (k + 1)) (lv' := [(6, .int (nI (k + 1))), (5, .ref q2), (3, .int (nI (szR (wF f w x v t)))), (2, .ref q1), (0, .ref a), (1, .ref qx)]) hx hb dL_with_151 hl (k := 0) rfl (nI_add (k) 1) (by decide) rfl (fun ls hl => ?_)
        refine lv_goto (tgt := 136) hx hb dL_with_154 (by decide) ?_
        exact ih136 _ H locs (by omega) ⟨_, rfl, hB.up (y := nthR (wF f w x v t) k) rfl rfl⟩ hV0 hA0 hS ls (lv_sub hl [0, 1, 2, 3, 4, 5] rfl)
  · refine lv_aload hx hb dL_with_31 (lv_at hl 4 rfl) ?_
    refine lv_iload hx hb dL_with_33 (lv_at hl 0 rfl) ?_
    have hi24 : i < szR f := by omega
    refine h_aaldE (i := i) hra.1 hx hb hK0 hV0 rfl rfl (by omega) (by omega) dL_with_35 ?_
    obtain ⟨hn1, hn2, hn3⟩ := nth_at hi24
    have htri := nth_tri (x := x) hi24
    have htm := (hra.at hi24).2.2
    refine lv_astore (lv' := [(8, .ref ((w (nthR f i)).2)), (7, .int (nI i)), (3, .int (nI (wN f x i))), (4, .int (bI (decide (cntB (hasR f) x < i)))), (6, .int (nI (szR f))), (5, .ref a), (2, .ref q1), (0, .ref a), (1, .ref qx)]) hx hb dL_with_36 hl (by decide) rfl (fun ls hl => ?_)
    refine lv_aload hx hb dL_with_38 (lv_at hl 0 rfl) ?_
    refine lv_iconst (v := nI 0) hx hb dL_with_40 (by decide) ?_
    refine h_sl0 (hra.at hi24) hx hb hK0 hV0 dL_with_41 ?_
    refine lv_aload_n hx hb dL_with_42 rfl (lv_at hl 8 rfl) ?_
    refine lv_iconst (v := nI 0) hx hb dL_with_43 (by decide) ?_
    refine h_sl0 hsx hx hb hK0 hV0 dL_with_44 ?_
    refine h_icmp_ne (a := nthR f i) (b := x) (tgt := 76) hx hb dL_with_45 (by decide) (by omega) (by omega) (fun c_45 => ?_) (fun c_45 => ?_)
    · refine lv_iload hx hb dL_with_76 (lv_at hl 3 rfl) ?_
      refine h_if_neB (tgt := 101) hx hb dL_with_78 (by decide) (fun c_78 => ?_) (fun c_78 => ?_)
      · refine lv_aload_n hx hb dL_with_101 rfl (lv_at hl 6 rfl) ?_
        refine lv_iload_n hx hb dL_with_102 rfl (lv_at hl 2 rfl) ?_
        refine lv_aload hx hb dL_with_103 (lv_at hl 0 rfl) ?_
        obtain ⟨FV, hFV⟩ := (hra.at hi24).c
        refine h_aastI (i := wN f x i) hx hb hK0 hV0 hA0 hS (hput_s _ _ _) hFV (by omega) (by omega) dL_with_105 (fun H locs hV0 hA0 hS => ?_)
        rw [hput_hput] at hV0 hA0
        replace hra : rn (hput hp q1 (eQ 3 (szR f + 1) (va_up M (wN f x i) (some ((w (nthR f i)).2))))) a f w := hrw.mv (leH.rf.new hqq1).x
        replace hsx : sl (hput hp q1 (eQ 3 (szR f + 1) (va_up M (wN f x i) (some ((w (nthR f i)).2))))) qx x v t := hs.mv (leH.rf.new hqq1).x
        refine lv_iinc (v := nI (wN f x i + 1)) (lv' := [(3, .int (nI (wN f x i + 1))), (8, .ref ((w (nthR f i)).2)), (7, .int (nI i)), (4, .int (bI (decide (cntB (hasR f) x < i)))), (6, .int (nI (szR f))), (5, .ref a), (2, .ref q1), (0, .ref a), (1, .ref qx)]) hx hb dL_with_106 hl (k := 2) rfl (nI_add (wN f x i) 1) (by decide) rfl (fun ls hl => ?_)
        refine lv_iinc (v := nI (i + 1)) (lv' := [(7, .int (nI (i + 1))), (3, .int (nI (wN f x i + 1))), (8, .ref ((w (nthR f i)).2)), (4, .int (bI (decide (cntB (hasR f) x < i)))), (6, .int (nI (szR f))), (5, .ref a), (2, .ref q1), (0, .ref a), (1, .ref qx)]) hx hb dL_with_109 hl (k := 2) rfl (nI_add (i) 1) (by decide) rfl (fun ls hl => ?_)
        refine lv_goto (tgt := 24) hx hb dL_with_112 (by decide) ?_
        have hlt := of_decide_eq_true c_78
        have e9 : wN f x i = if hasR f x = true then i else i + 1 := if_neg (by omega)
        have e3n : wN f x (i + 1) = wN f x i + 1 := by
          cases hbb : hasR f x with
          | true => rw [wN_hy (show ¬ i + 1 ≤ cntB (hasR f) x by omega) hbb, wN_hy (show ¬ i ≤ cntB (hasR f) x by omega) hbb]
          | false => rw [wN_hn (show ¬ i + 1 ≤ cntB (hasR f) x by omega) hbb, wN_hn (show ¬ i ≤ cntB (hasR f) x by omega) hbb]
        have hMn : wM (va_up M (wN f x i) (some ((w (nthR f i)).2))) (wF f w x v t) (wT f w x t qx) (wN f x (i + 1)) := by
          rw [e3n]
          exact hM.up (y := nthR f i) (by rw [wT_n (fun z => c_45 (by rw [z]))]) (by rw [e9]; exact wn_3 (wF_has hv) hi24 (Or.inl hlt))
        have eb : decide (cntB (hasR f) x < i + 1) = decide (cntB (hasR f) x < i) := by rw [decide_eq_true hlt]; exact decide_eq_true (by omega)
        exact ih24 _ H locs (by omega) ⟨_, rfl, hMn⟩ hV0 hA0 hS ls (by show lv_has ls 9 [(7, .int (nI (i + 1))), (3, .int (nI (wN f x (i + 1)))), (4, .int (bI (decide (cntB (hasR f) x < i + 1)))), (6, .int (nI (szR f))), (5, .ref a), (2, .ref q1), (0, .ref a), (1, .ref qx)]; rw [e3n, eb]; exact lv_sub hl [0, 1, 3, 4, 5, 6, 7, 8] rfl)
      · refine lv_aload hx hb dL_with_81 (lv_at hl 0 rfl) ?_
        refine lv_iconst (v := nI 0) hx hb dL_with_83 (by decide) ?_
        refine h_sl0 (hra.at hi24) hx hb hK0 hV0 dL_with_84 ?_
        refine lv_aload_n hx hb dL_with_85 rfl (lv_at hl 8 rfl) ?_
        refine lv_iconst (v := nI 0) hx hb dL_with_86 (by decide) ?_
        refine h_sl0 hsx hx hb hK0 hV0 dL_with_87 ?_
        refine h_icmp_le (a := nthR f i) (b := x) (tgt := 101) hx hb dL_with_88 (by decide) (by omega) (by omega) (fun c_88 => ?_) (fun c_88 => ?_)
        · refine lv_aload_n hx hb dL_with_101 rfl (lv_at hl 6 rfl) ?_
          refine lv_iload_n hx hb dL_with_102 rfl (lv_at hl 2 rfl) ?_
          refine lv_aload hx hb dL_with_103 (lv_at hl 0 rfl) ?_
          obtain ⟨FV, hFV⟩ := (hra.at hi24).c
          refine h_aastI (i := wN f x i) hx hb hK0 hV0 hA0 hS (hput_s _ _ _) hFV (by omega) (by omega) dL_with_105 (fun H locs hV0 hA0 hS => ?_)
          rw [hput_hput] at hV0 hA0
          replace hra : rn (hput hp q1 (eQ 3 (szR f + 1) (va_up M (wN f x i) (some ((w (nthR f i)).2))))) a f w := hrw.mv (leH.rf.new hqq1).x
          replace hsx : sl (hput hp q1 (eQ 3 (szR f + 1) (va_up M (wN f x i) (some ((w (nthR f i)).2))))) qx x v t := hs.mv (leH.rf.new hqq1).x
          refine lv_iinc (v := nI (wN f x i + 1)) (lv' := [(3, .int (nI (wN f x i + 1))), (8, .ref ((w (nthR f i)).2)), (7, .int (nI i)), (4, .int (bI (decide (cntB (hasR f) x < i)))), (6, .int (nI (szR f))), (5, .ref a), (2, .ref q1), (0, .ref a), (1, .ref qx)]) hx hb dL_with_106 hl (k := 2) rfl (nI_add (wN f x i) 1) (by decide) rfl (fun ls hl => ?_)
          refine lv_iinc (v := nI (i + 1)) (lv' := [(7, .int (nI (i + 1))), (3, .int (nI (wN f x i + 1))), (8, .ref ((w (nthR f i)).2)), (4, .int (bI (decide (cntB (hasR f) x < i)))), (6, .int (nI (szR f))), (5, .ref a), (2, .ref q1), (0, .ref a), (1, .ref qx)]) hx hb dL_with_109 hl (k := 2) rfl (nI_add (i) 1) (by decide) rfl (fun ls hl => ?_)
          refine lv_goto (tgt := 24) hx hb dL_with_112 (by decide) ?_
          have hlt := of_decide_eq_false c_78
          have hpi := htri.2.1 (by omega)
          have e3 : wN f x i = i := wN_lo (by omega)
          have e3n : wN f x (i + 1) = wN f x i + 1 := by rw [wN_lo (by omega), e3]
          have hMn : wM (va_up M (wN f x i) (some ((w (nthR f i)).2))) (wF f w x v t) (wT f w x t qx) (wN f x (i + 1)) := by
            rw [e3n]
            exact hM.up (y := nthR f i) (by rw [wT_n (fun z => c_45 (by rw [z]))]) (by rw [e3]; exact wn_1 (wF_has hv) hi24 hpi)
          have eb : decide (cntB (hasR f) x < i + 1) = decide (cntB (hasR f) x < i) := by rw [decide_eq_false hlt]; exact decide_eq_false (by omega)
          exact ih24 _ H locs (by omega) ⟨_, rfl, hMn⟩ hV0 hA0 hS ls (by show lv_has ls 9 [(7, .int (nI (i + 1))), (3, .int (nI (wN f x (i + 1)))), (4, .int (bI (decide (cntB (hasR f) x < i + 1)))), (6, .int (nI (szR f))), (5, .ref a), (2, .ref q1), (0, .ref a), (1, .ref qx)]; rw [e3n, eb]; exact lv_sub hl [0, 1, 3, 4, 5, 6, 7, 8] rfl)
        · have hlt0 := of_decide_eq_false c_78
          have e30 : wN f x i = i := wN_lo (by omega)
          refine lv_aload_n hx hb dL_with_91 rfl (lv_at hl 6 rfl) ?_
          refine lv_iload_n hx hb dL_with_92 rfl (lv_at hl 2 rfl) ?_
          refine lv_aload_n hx hb dL_with_93 rfl (lv_at hl 8 rfl) ?_
          obtain ⟨FV, hFV⟩ := hsx.c
          refine h_aastI (i := wN f x i) hx hb hK0 hV0 hA0 hS (hput_s _ _ _) hFV (by omega) (by omega) dL_with_94 (fun H locs hV0 hA0 hS => ?_)
          rw [hput_hput] at hV0 hA0
          replace hra : rn (hput hp q1 (eQ 3 (szR f + 1) (va_up M (wN f x i) (some qx)))) a f w := hrw.mv (leH.rf.new hqq1).x
          replace hsx : sl (hput hp q1 (eQ 3 (szR f + 1) (va_up M (wN f x i) (some qx)))) qx x v t := hs.mv (leH.rf.new hqq1).x
          refine lv_iconst (v := nI 1) hx hb dL_with_95 (by decide) ?_
          refine lv_istore (lv' := [(4, .int (nI 1)), (8, .ref ((w (nthR f i)).2)), (7, .int (nI i)), (3, .int (nI (wN f x i))), (6, .int (nI (szR f))), (5, .ref a), (2, .ref q1), (0, .ref a), (1, .ref qx)]) hx hb dL_with_96 hl (by decide) rfl (fun ls hl => ?_)
          refine lv_iinc (v := nI (wN f x i + 1)) (lv' := [(3, .int (nI (wN f x i + 1))), (4, .int (nI 1)), (8, .ref ((w (nthR f i)).2)), (7, .int (nI i)), (6, .int (nI (szR f))), (5, .ref a), (2, .ref q1), (0, .ref a), (1, .ref qx)]) hx hb dL_with_98 hl (k := 3) rfl (nI_add (wN f x i) 1) (by decide) rfl (fun ls hl => ?_)
          refine lv_aload_n hx hb dL_with_101 rfl (lv_at hl 6 rfl) ?_
          refine lv_iload_n hx hb dL_with_102 rfl (lv_at hl 0 rfl) ?_
          refine lv_aload hx hb dL_with_103 (lv_at hl 2 rfl) ?_
          obtain ⟨FV, hFV⟩ := (hra.at hi24).c
          refine h_aastI (i := wN f x i + 1) hx hb hK0 hV0 hA0 hS (hput_s _ _ _) hFV (by omega) (by omega) dL_with_105 (fun H locs hV0 hA0 hS => ?_)
          rw [hput_hput] at hV0 hA0
          replace hra : rn (hput hp q1 (eQ 3 (szR f + 1) (va_up (va_up M (wN f x i) (some qx)) (wN f x i + 1) (some ((w (nthR f i)).2))))) a f w := hrw.mv (leH.rf.new hqq1).x
          replace hsx : sl (hput hp q1 (eQ 3 (szR f + 1) (va_up (va_up M (wN f x i) (some qx)) (wN f x i + 1) (some ((w (nthR f i)).2))))) qx x v t := hs.mv (leH.rf.new hqq1).x
          refine lv_iinc (v := nI (wN f x i + 1 + 1)) (lv' := [(3, .int (nI (wN f x i + 1 + 1))), (4, .int (nI 1)), (8, .ref ((w (nthR f i)).2)), (7, .int (nI i)), (6, .int (nI (szR f))), (5, .ref a), (2, .ref q1), (0, .ref a), (1, .ref qx)]) hx hb dL_with_106 hl (k := 0) rfl (nI_add (wN f x i + 1) 1) (by decide) rfl (fun ls hl => ?_)
          refine lv_iinc (v := nI (i + 1)) (lv' := [(7, .int (nI (i + 1))), (3, .int (nI (wN f x i + 1 + 1))), (4, .int (nI 1)), (8, .ref ((w (nthR f i)).2)), (6, .int (nI (szR f))), (5, .ref a), (2, .ref q1), (0, .ref a), (1, .ref qx)]) hx hb dL_with_109 hl (k := 3) rfl (nI_add (i) 1) (by decide) rfl (fun ls hl => ?_)
          refine lv_goto (tgt := 24) hx hb dL_with_112 (by decide) ?_
          have hlt := of_decide_eq_false c_78
          have hpi := htri.2.2 (by omega)
          have hb1 : hasR f x = false := by
            cases hbb : hasR f x with
            | false => rfl
            | true => have := hpi.2 hbb; omega
          have e3 : wN f x i = i := wN_lo (by omega)
          have e3n : wN f x (i + 1) = wN f x i + 1 + 1 := by rw [wN_hn (by omega) hb1, e3]
          have hMn : wM (va_up (va_up M (wN f x i) (some qx)) (wN f x i + 1) (some ((w (nthR f i)).2))) (wF f w x v t) (wT f w x t qx) (wN f x (i + 1)) := by
            rw [e3n]
            have h1 := hM.up (q := qx) (y := x) (by rw [wT_y (fun z => by rw [hb1] at z; cases z)]) (by rw [e3, show i = cntB (hasR f) x by omega]; exact wn_2 (wF_has hv) hsx.2.1)
            exact h1.up (y := nthR f i) (by rw [wT_n (fun z => c_45 (by rw [z]))]) (by have h2 := wn_3 (F := wF f w x v t) (wF_has hv) hi24 (Or.inr ⟨by omega, hb1⟩); rw [hb1] at h2; rw [e3]; exact h2)
          have eb : decide (cntB (hasR f) x < i + 1) = true := decide_eq_true (by omega)
          exact ih24 _ H locs (by omega) ⟨_, rfl, hMn⟩ hV0 hA0 hS ls (by show lv_has ls 9 [(7, .int (nI (i + 1))), (3, .int (nI (wN f x (i + 1)))), (4, .int (bI (decide (cntB (hasR f) x < i + 1)))), (6, .int (nI (szR f))), (5, .ref a), (2, .ref q1), (0, .ref a), (1, .ref qx)]; rw [e3n, eb]; exact lv_sub hl [0, 1, 2, 4, 5, 6, 7, 8] rfl)
    · have htri9 : nthR f i = x := by omega
      refine lv_aload_n hx hb dL_with_48 rfl (lv_at hl 6 rfl) ?_
      refine lv_iload_n hx hb dL_with_49 rfl (lv_at hl 2 rfl) ?_
      refine lv_aload hx hb dL_with_50 (lv_at hl 0 rfl) ?_
      refine lv_iconst (v := nI 2) hx hb dL_with_52 (by decide) ?_
      refine h_sl2 (hra.at hi24) hx hb hK0 hV0 dL_with_53 ?_
      refine lv_aload_n hx hb dL_with_54 rfl (lv_at hl 8 rfl) ?_
      refine lv_iconst (v := nI 2) hx hb dL_with_55 (by decide) ?_
      refine h_sl2 hsx hx hb hK0 hV0 dL_with_56 ?_
      refine h_icmp_le (a := (w (nthR f i)).1) (b := t) (tgt := 65) hx hb dL_with_57 (by decide) (by omega) (by omega) (fun c_57 => ?_) (fun c_57 => ?_)
      · refine lv_aload_n hx hb dL_with_65 rfl (lv_at hl 8 rfl) ?_
        obtain ⟨FV, hFV⟩ := hsx.c
        refine h_aastI (i := wN f x i) hx hb hK0 hV0 hA0 hS (hput_s _ _ _) hFV (by omega) (by omega) dL_with_66 (fun H locs hV0 hA0 hS => ?_)
        rw [hput_hput] at hV0 hA0
        replace hra : rn (hput hp q1 (eQ 3 (szR f + 1) (va_up M (wN f x i) (some qx)))) a f w := hrw.mv (leH.rf.new hqq1).x
        replace hsx : sl (hput hp q1 (eQ 3 (szR f + 1) (va_up M (wN f x i) (some qx)))) qx x v t := hs.mv (leH.rf.new hqq1).x
        refine lv_iconst (v := nI 1) hx hb dL_with_67 (by decide) ?_
        refine lv_istore (lv' := [(4, .int (nI 1)), (8, .ref ((w (nthR f i)).2)), (7, .int (nI i)), (3, .int (nI (wN f x i))), (6, .int (nI (szR f))), (5, .ref a), (2, .ref q1), (0, .ref a), (1, .ref qx)]) hx hb dL_with_68 hl (by decide) rfl (fun ls hl => ?_)
        refine lv_iinc (v := nI (wN f x i + 1)) (lv' := [(3, .int (nI (wN f x i + 1))), (4, .int (nI 1)), (8, .ref ((w (nthR f i)).2)), (7, .int (nI i)), (6, .int (nI (szR f))), (5, .ref a), (2, .ref q1), (0, .ref a), (1, .ref qx)]) hx hb dL_with_70 hl (k := 3) rfl (nI_add (wN f x i) 1) (by decide) rfl (fun ls hl => ?_)
        refine lv_goto (tgt := 109) hx hb dL_with_73 (by decide) ?_
        refine lv_iinc (v := nI (i + 1)) (lv' := [(7, .int (nI (i + 1))), (3, .int (nI (wN f x i + 1))), (4, .int (nI 1)), (8, .ref ((w (nthR f i)).2)), (6, .int (nI (szR f))), (5, .ref a), (2, .ref q1), (0, .ref a), (1, .ref qx)]) hx hb dL_with_109 hl (k := 3) rfl (nI_add (i) 1) (by decide) rfl (fun ls hl => ?_)
        refine lv_goto (tgt := 24) hx hb dL_with_112 (by decide) ?_
        obtain ⟨hb1, hb2⟩ := htri.1 (by omega)
        have e3 : wN f x i = i := wN_lo (by omega)
        have e3n : wN f x (i + 1) = wN f x i + 1 := by rw [wN_hy (by omega) hb1, e3]
        have hMn : wM (va_up M (wN f x i) (some qx)) (wF f w x v t) (wT f w x t qx) (wN f x (i + 1)) := by
          rw [e3n]
          exact hM.up (y := x) (by rw [wT_y (fun _ => by rw [← htri9]; omega)]) (by rw [e3, hb2]; exact wn_2 (wF_has hv) hsx.2.1)
        have eb : decide (cntB (hasR f) x < i + 1) = true := decide_eq_true (by omega)
        exact ih24 _ H locs (by omega) ⟨_, rfl, hMn⟩ hV0 hA0 hS ls (by show lv_has ls 9 [(7, .int (nI (i + 1))), (3, .int (nI (wN f x (i + 1)))), (4, .int (bI (decide (cntB (hasR f) x < i + 1)))), (6, .int (nI (szR f))), (5, .ref a), (2, .ref q1), (0, .ref a), (1, .ref qx)]; rw [e3n, eb]; exact lv_sub hl [0, 1, 2, 4, 5, 6, 7, 8] rfl)
      · refine lv_aload hx hb dL_with_60 (lv_at hl 0 rfl) ?_
        refine lv_goto (tgt := 66) hx hb dL_with_62 (by decide) ?_
        obtain ⟨FV, hFV⟩ := (hra.at hi24).c
        refine h_aastI (i := wN f x i) hx hb hK0 hV0 hA0 hS (hput_s _ _ _) hFV (by omega) (by omega) dL_with_66 (fun H locs hV0 hA0 hS => ?_)
        rw [hput_hput] at hV0 hA0
        replace hra : rn (hput hp q1 (eQ 3 (szR f + 1) (va_up M (wN f x i) (some ((w (nthR f i)).2))))) a f w := hrw.mv (leH.rf.new hqq1).x
        replace hsx : sl (hput hp q1 (eQ 3 (szR f + 1) (va_up M (wN f x i) (some ((w (nthR f i)).2))))) qx x v t := hs.mv (leH.rf.new hqq1).x
        refine lv_iconst (v := nI 1) hx hb dL_with_67 (by decide) ?_
        refine lv_istore (lv' := [(4, .int (nI 1)), (8, .ref ((w (nthR f i)).2)), (7, .int (nI i)), (3, .int (nI (wN f x i))), (6, .int (nI (szR f))), (5, .ref a), (2, .ref q1), (0, .ref a), (1, .ref qx)]) hx hb dL_with_68 hl (by decide) rfl (fun ls hl => ?_)
        refine lv_iinc (v := nI (wN f x i + 1)) (lv' := [(3, .int (nI (wN f x i + 1))), (4, .int (nI 1)), (8, .ref ((w (nthR f i)).2)), (7, .int (nI i)), (6, .int (nI (szR f))), (5, .ref a), (2, .ref q1), (0, .ref a), (1, .ref qx)]) hx hb dL_with_70 hl (k := 3) rfl (nI_add (wN f x i) 1) (by decide) rfl (fun ls hl => ?_)
        refine lv_goto (tgt := 109) hx hb dL_with_73 (by decide) ?_
        refine lv_iinc (v := nI (i + 1)) (lv' := [(7, .int (nI (i + 1))), (3, .int (nI (wN f x i + 1))), (4, .int (nI 1)), (8, .ref ((w (nthR f i)).2)), (6, .int (nI (szR f))), (5, .ref a), (2, .ref q1), (0, .ref a), (1, .ref qx)]) hx hb dL_with_109 hl (k := 3) rfl (nI_add (i) 1) (by decide) rfl (fun ls hl => ?_)
        refine lv_goto (tgt := 24) hx hb dL_with_112 (by decide) ?_
        obtain ⟨hb1, hb2⟩ := htri.1 (by omega)
        have e3 : wN f x i = i := wN_lo (by omega)
        have e3n : wN f x (i + 1) = wN f x i + 1 := by rw [wN_hy (by omega) hb1, e3]
        have hMn : wM (va_up M (wN f x i) (some ((w (nthR f i)).2))) (wF f w x v t) (wT f w x t qx) (wN f x (i + 1)) := by
          rw [e3n]
          exact hM.up (y := x) (by rw [wT_k hb1 (by rw [← htri9]; omega), htri9]) (by rw [e3, hb2]; exact wn_2 (wF_has hv) hsx.2.1)
        have eb : decide (cntB (hasR f) x < i + 1) = true := decide_eq_true (by omega)
        exact ih24 _ H locs (by omega) ⟨_, rfl, hMn⟩ hV0 hA0 hS ls (by show lv_has ls 9 [(7, .int (nI (i + 1))), (3, .int (nI (wN f x (i + 1)))), (4, .int (bI (decide (cntB (hasR f) x < i + 1)))), (6, .int (nI (szR f))), (5, .ref a), (2, .ref q1), (0, .ref a), (1, .ref qx)]; rw [e3n, eb]; exact lv_sub hl [0, 1, 2, 4, 5, 6, 7, 8] rfl)
