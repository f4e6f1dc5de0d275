/-! the law: its loop -/
set_option maxHeartbeats 2000000 in
set_option maxRecDepth 100000 in
theorem lw_loop {p : Program} {l : Launch} {e : Env} {s : State} {m : MethodId} {below : List Frame} {meth : Method} {c : Code} {b L : Nat} {xs : Nat → Int32} (hL : L ≤ 260) (C0 : lw_At p s m meth c b L xs) {G : hG} (hK0 : hK G s) {A : Nat → Prop} (hA : ∀ q : Nat, s.heap.size ≤ q → A q) (hbA : ¬ A b) (hA2 : ∀ q : Nat, A q → s.heap.size ≤ q) {ad : Nat → Nat} {mo lv : Nat} {k0 : Nat} {hp : HP} {H : Heap} {locs : List Loc} {ls : Array Slot} (h0 : ∃ S, gX ad mo lv 90 28800 450 S hp ∧ k0 + gS S ≤ 66100) (hV0 : hV G hp H) (hA0 : hIn A hp) (hS : va_S A s.heap H locs) (hl : lv_has ls 15 [(3, .int (nI 0)), (2, .ref mo), (1, .ref (aX ad)), (0, .ref b)]) : W p l e room_1 s m #[Value.ref b] below meth c H locs k0 (65 * k0) (lw_Z below #[Value.ref b] s) (F0 m 22 ls []) := by
  obtain ⟨hx, hb, hr, hml, hown, hts, hX, hbl, hlocks, hgv⟩ := id C0
  have hF : CallFix p m c cL_law 15 s #[Value.ref b] wsLw RL := ⟨hx, hb, hml, hown, fun w h => hts w (wsLw_in w h)⟩
  have hw0 := hts (.arrayClass .int) (by decide +kernel)
  refine h_loopWK (G := G) (A := A) (H0 := s.heap) (Wf := fun t k H locs ls => W p l e room_1 s m #[Value.ref b] below meth c H locs k (65 * k) (lw_Z below #[Value.ref b] s) (F0 m 22 ls [])) 30 (fun t => [(3, .int (nI t)), (2, .ref mo), (1, .ref (aX ad)), (0, .ref b)]) (fun t k hp' => ∃ S, gX ad mo lv (90 + 2 * t) (28800 + 640 * t) (450 + 10 * t) S hp' ∧ k + gS S ≤ 66100 + 1201 * t) (fun t hi22 k hp' H locs hI22 hV0 hA0 hS ih22 ls hl => ?_) 0 (Nat.zero_le _) k0 _ H locs h0 hV0 hA0 hS ls hl
  obtain ⟨S, ⟨tm, δ, ω, hg, hC, dk, lvl, row, hm⟩, hkS⟩ := hI22
  refine lv_iload_n hx hb dL_law_22 rfl (lv_at hl 0 rfl) ?_
  refine lv_bipush (v := nI 30) hx hb dL_law_23 (by decide) ?_
  refine h_icmp_ge (a := t) (b := 30) (tgt := 784) hx hb dL_law_25 (by decide) (by omega) (by omega) (fun c_25 => ?_) (fun c_25 => ?_)
  · refine lv_aload_n hx hb dL_law_784 rfl (lv_at hl 1 rfl) ?_
    refine lv_aload_n hx hb dL_law_785 rfl (lv_at hl 2 rfl) ?_
    obtain ⟨hI, hoT, hoD, -⟩ := id hg
    have hokd : okR (sF S 0) := hC.ok.1 0
    refine h_wrV (As := [.ref (aX ad)]) (rest := []) hF (c_X3_isSame l G A hp' ad S hC mo dk lv lvl row tm δ ω hm hoT hoD hokd hA0) 1 (gZl gL_law_X3_isSame) rfl (by decide +kernel) ⟨Nat.le_of_ble_eq_true rfl, Nat.le_of_ble_eq_true rfl⟩ hK0 hV0 hA hS hm.cmo rfl rfl rfl hl.1 rfl (Nat.le_of_ble_eq_true rfl) ⟨by show _ ≤ 600130; omega, by show _ ≤ 7301080; omega⟩ dL_law_786 (fun ro hp1 H locs hP1 hV0 hA0 hS => ?_)
    obtain rfl := hP1
    refine va_forget (fun q hq => hA2 _ (hS.2.2 q hq)) ?_
    refine W.widen (k := 600130) (n := 7301080) (by omega) (by omega) ?_
    exact lw_ret (d0 := s.drawn) (Drawn.sameBut.refl s.drawn lw_cs) hx hb hr hlocks dL_law_789
  · refine lv_aload_n hx hb dL_law_28 rfl (lv_at hl 3 rfl) ?_
    refine lv_iload_n hx hb dL_law_29 rfl (lv_at hl 0 rfl) ?_
    refine lv_bipush (v := nI 16) hx hb dL_law_30 (by decide) ?_
    refine h_iremN hx hb (by omega) (by decide) (by decide) dL_law_32 ?_
    refine h_rdSx (As := [.ref b, .int (nI (t % 16))]) (rest := []) hF (c_L_cell l b L xs hL (t % 16) (by omega)) 2 (gZl gL_law_L_cell) rfl (by decide +kernel) ⟨Nat.le_of_ble_eq_true rfl, Nat.le_of_ble_eq_true rfl⟩ hX hbl hbA hS rfl hl.1 rfl (Nat.le_of_ble_eq_true rfl) (by show _ ≤ 600130; omega) (by show _ ≤ 7301080; omega) dL_law_33 ?_
    refine lv_iload_n hx hb dL_law_36 rfl (lv_at hl 0 rfl) ?_
    refine lv_bipush (v := nI 16) hx hb dL_law_37 (by decide) ?_
    refine h_idivN hx hb (by omega) (by decide) (by decide) dL_law_39 ?_
    refine lv_iconst (v := nI 3) hx hb dL_law_40 (by decide) ?_
    refine h_imulN hx hb dL_law_41 ?_
    refine lv_ishr hx hb dL_law_42 ?_
    refine lv_sipush (v := nI 337) hx hb dL_law_43 (by decide) ?_
    refine lv_iload_n hx hb dL_law_46 rfl (lv_at hl 0 rfl) ?_
    refine h_imulN hx hb dL_law_47 ?_
    refine lv_iadd hx hb dL_law_48 ?_
    obtain ⟨x, hx9⟩ : ∃ x : Int32, (((clX L xs (t % 16)) >>> (nI (((t) / 16) * (3)) &&& 31)) + nI ((337) * (t))) = x := ⟨_, rfl⟩
    rw [hx9]
    refine lv_istore (lv' := [(4, .int x), (3, .int (nI t)), (2, .ref mo), (1, .ref (aX ad)), (0, .ref b)]) hx hb dL_law_49 hl (by decide) rfl (fun ls hl => ?_)
    refine lv_aload_n hx hb dL_law_51 rfl (lv_at hl 3 rfl) ?_
    refine lv_aload_n hx hb dL_law_52 rfl (lv_at hl 2 rfl) ?_
    refine lv_iload hx hb dL_law_53 (lv_at hl 0 rfl) ?_
    obtain ⟨k9, hk9, hAct⟩ := c_L_act l G A hp' ad S hC mo dk lv lvl row tm δ ω hm _ _ _ hg (by omega) (x) hA0
    refine h_wrS (As := [.ref (aX ad), .ref mo, .int x]) (rest := []) hF hAct 3 (gZl gL_law_L_act) rfl (by decide +kernel) ⟨Nat.le_of_ble_eq_true rfl, Nat.le_of_ble_eq_true rfl⟩ hK0 hV0 hA hS rfl hl.1 rfl (Nat.le_of_ble_eq_true rfl) ⟨by show _ ≤ 600130; omega, by show _ ≤ 7301080; omega⟩ dL_law_55 (fun ro hp1 H locs hP1 hV0 hA0 hS => ?_)
    obtain ⟨rfl, S2, hg2, hk2⟩ := hP1
    refine h_if_neB (tgt := 63) hx hb dL_law_58 (by decide) (fun c_58 => ?_) (fun c_58 => absurd c_58 (by decide))
    refine lv_bipush (v := nI 64) hx hb dL_law_63 (by decide) ?_
    obtain ⟨tm2, δ2, ω2, hg9, hC2, dk2, lvl2, row2, hm2⟩ := hg2
    obtain ⟨hI9, hoT2, hoD2, -⟩ := id hg9
    have hokd2 : okR (sF S2 0) := hC2.ok.1 0
    refine h_newI hx hb hw0 hK0 hV0 hA0 hS hA (n := 64) (by omega) (by show _ ≤ 600130; omega) (by show _ ≤ 7301080; omega) dL_law_65 (fun wa H hqw hV0 hA0 hS => ?_)
    have hwk := hC2.nk hqw
    refine lv_astore (lv' := [(5, .ref wa), (4, .int x), (3, .int (nI t)), (2, .ref mo), (1, .ref (aX ad)), (0, .ref b)]) hx hb dL_law_67 hl (by decide) rfl (fun ls hl => ?_)
    refine lv_iconst (v := nI 0) hx hb dL_law_69 (by decide) ?_
    refine lv_istore (lv' := [(6, .int (nI 0)), (5, .ref wa), (4, .int x), (3, .int (nI t)), (2, .ref mo), (1, .ref (aX ad)), (0, .ref b)]) hx hb dL_law_70 hl (by decide) rfl (fun ls hl => ?_)
    replace hl : lv_has ls 15 [(6, .int (nI 0)), (5, .ref wa), (4, .int x), (3, .int (nI t)), (2, .ref mo), (1, .ref (aX ad)), (0, .ref b)] := lv_sub hl [0, 1, 2, 3, 4, 5, 6] rfl
    refine h_loopW (G := G) (A := A) (H0 := s.heap) (Wf := fun n8 H locs ls => W p l e room_1 s m #[Value.ref b] below meth c H locs (k + k9 + 1) (65 * k + 65 * k9 + 64) (lw_Z below #[Value.ref b] s) (F0 m 72 ls [])) 64 (fun n8 => [(6, .int (nI n8)), (5, .ref wa), (4, .int x), (3, .int (nI t)), (2, .ref mo), (1, .ref (aX ad)), (0, .ref b)]) (fun n8 hp' => ∃ F, hp' = hput hp1 wa (eI 64 F) ∧ ∀ i, i < n8 → F i = wv S2 i) (fun n8 hi72 hp' H locs hI72 hV0 hA0 hS ih72 ls hl => ?_) 0 (Nat.zero_le _) _ H locs ⟨_, rfl, fun i hi => absurd hi (Nat.not_lt_zero i)⟩ hV0 hA0 hS ls hl
    obtain ⟨F, rfl, hFn⟩ := hI72
    have hm := hm2.mv (leH.rf.new (e := eI 64 F) hqw)
    have hC := hC2.mvL (leH.rf.new (e := eI 64 F) hqw)
    have hw9 : hput hp1 wa (eI 64 F) wa = some (eI 64 F) := hput_s _ _ _
    refine lv_iload hx hb dL_law_72 (lv_at hl 0 rfl) ?_
    refine lv_bipush (v := nI 64) hx hb dL_law_74 (by decide) ?_
    refine h_icmp_ge (a := n8) (b := 64) (tgt := 96) hx hb dL_law_76 (by decide) (by omega) (by omega) (fun c_76 => ?_) (fun c_76 => ?_)
    · have hF9 : ∀ n, n < 64 → F n = wv S2 n := fun n hn => hFn n (by omega)
      replace hV0 : hV G (hput hp1 wa (eI 64 F)) H := hV0
      replace hA0 : hIn A (hput hp1 wa (eI 64 F)) := hA0
      generalize hput hp1 wa (eI 64 F) = hp5 at hV0 hA0 hm hC hw9
      replace hl : lv_has ls 15 [(5, .ref wa), (4, .int x), (3, .int (nI t)), (2, .ref mo), (1, .ref (aX ad)), (0, .ref b)] := lv_sub hl [1, 2, 3, 4, 5, 6] rfl
      refine lv_iload hx hb dL_law_96 (lv_at hl 1 rfl) ?_
      refine lv_iconst (v := nI 2) hx hb dL_law_98 (by decide) ?_
      refine lv_ishr hx hb dL_law_99 ?_
      refine lv_bipush (v := nI 64) hx hb dL_law_100 (by decide) ?_
      have hbl102 : blN ((x >>> (nI 2 &&& 31))) 64 < 64 := bl_lt _ (by omega)
      refine h_rdS (As := [.int (x >>> (nI 2 &&& 31)), .int (nI 64)]) (rest := []) hF (c_L_below l G hp5 ((x >>> (nI 2 &&& 31))) 64 (by omega) (by omega)) 2 (gZl gL_law_L_below) rfl (by decide +kernel) ⟨Nat.le_of_ble_eq_true rfl, Nat.le_of_ble_eq_true rfl⟩ hK0 hV0 rfl hl.1 rfl (Nat.le_of_ble_eq_true rfl) (by show _ ≤ 600130; omega) (by show _ ≤ 7301080; omega) dL_law_102 ?_
      refine lv_istore (lv' := [(6, .int (nI (blN ((x >>> (nI 2 &&& 31))) 64))), (5, .ref wa), (4, .int x), (3, .int (nI t)), (2, .ref mo), (1, .ref (aX ad)), (0, .ref b)]) hx hb dL_law_105 hl (by decide) rfl (fun ls hl => ?_)
      refine lv_aload_n hx hb dL_law_107 rfl (lv_at hl 5 rfl) ?_
      refine lv_iconst (v := nI 4) hx hb dL_law_108 (by decide) ?_
      refine h_rdV (As := [.int (nI 4)]) (rest := []) hF (c_X2_cnt l G hp5 ad S2 hC 4 (by omega) ((sV S2 0)) rfl) 1 (gZl gL_law_X2_count) rfl (by decide +kernel) ⟨Nat.le_of_ble_eq_true rfl, Nat.le_of_ble_eq_true rfl⟩ hK0 hV0 hC.xo rfl rfl rfl hl.1 rfl (Nat.le_of_ble_eq_true rfl) (by show _ ≤ 600130; omega) (by show _ ≤ 7301080; omega) dL_law_109 ?_
      refine lv_istore (lv' := [(7, .int (sV S2 0)), (6, .int (nI (blN ((x >>> (nI 2 &&& 31))) 64))), (5, .ref wa), (4, .int x), (3, .int (nI t)), (2, .ref mo), (1, .ref (aX ad)), (0, .ref b)]) hx hb dL_law_112 hl (by decide) rfl (fun ls hl => ?_)
      refine lv_aload_n hx hb dL_law_114 rfl (lv_at hl 6 rfl) ?_
      refine lv_bipush (v := nI 6) hx hb dL_law_115 (by decide) ?_
      refine h_rdV (As := [.int (nI 6)]) (rest := []) hF (c_X2_cnt l G hp5 ad S2 hC 6 (by omega) ((sG S2 0)) rfl) 1 (gZl gL_law_X2_count) rfl (by decide +kernel) ⟨Nat.le_of_ble_eq_true rfl, Nat.le_of_ble_eq_true rfl⟩ hK0 hV0 hC.xo rfl rfl rfl hl.1 rfl (Nat.le_of_ble_eq_true rfl) (by show _ ≤ 600130; omega) (by show _ ≤ 7301080; omega) dL_law_117 ?_
      refine lv_istore (lv' := [(8, .int (sG S2 0)), (7, .int (sV S2 0)), (6, .int (nI (blN ((x >>> (nI 2 &&& 31))) 64))), (5, .ref wa), (4, .int x), (3, .int (nI t)), (2, .ref mo), (1, .ref (aX ad)), (0, .ref b)]) hx hb dL_law_120 hl (by decide) rfl (fun ls hl => ?_)
      refine lv_iload_n hx hb dL_law_122 rfl (lv_at hl 5 rfl) ?_
      refine lv_iconst (v := nI 3) hx hb dL_law_123 (by decide) ?_
      refine h_iremN hx hb (by omega) (by decide) (by decide) dL_law_124 ?_
      refine h_if_ne (a := t % 3) (tgt := 272) hx hb dL_law_125 (by decide) (by omega) (fun c_125 => ?_) (fun c_125 => ?_)
      · refine lv_iload_n hx hb dL_law_272 rfl (lv_at hl 5 rfl) ?_
        refine lv_iconst (v := nI 3) hx hb dL_law_273 (by decide) ?_
        refine h_iremN hx hb (by omega) (by decide) (by decide) dL_law_274 ?_
        refine lv_iconst (v := nI 1) hx hb dL_law_275 (by decide) ?_
        refine h_icmp_ne (a := t % 3) (b := 1) (tgt := 355) hx hb dL_law_276 (by decide) (by omega) (by omega) (fun c_276 => ?_) (fun c_276 => ?_)
        · replace hl : lv_has ls 15 [(8, .int (sG S2 0)), (7, .int (sV S2 0)), (6, .int (nI ((blN (x >>> (nI 2 &&& 31)) 64)))), (5, .ref wa), (4, .int x), (3, .int (nI t)), (2, .ref mo), (1, .ref (aX ad)), (0, .ref b)] := lv_sub hl [0, 1, 2, 3, 4, 5, 6, 7, 8] rfl
          have hN9 : k + k9 + 1 + gS S2 + 600 ≤ 66100 + 1201 * (t + 1) := by omega
          have kk9 : ∀ (k2 : Nat) (hp' : HP) (H : Heap) (locs : List Loc), (∃ S2, gX ad mo lv (90 + 2 * t + 1 + 1) (28800 + 640 * t + 320 + 320) (450 + 10 * t + 5 + 5) S2 hp' ∧ k2 + gS S2 ≤ 66100 + 1201 * (t + 1)) → hV G hp' H → hIn A hp' → va_S A s.heap H locs → ∀ ls : Array Slot, lv_has ls 15 [(3, .int (nI (t + 1))), (2, .ref mo), (1, .ref (aX ad)), (0, .ref b)] → W p l e room_1 s m #[Value.ref b] below meth c H locs k2 (65 * k2) (lw_Z below #[Value.ref b] s) (F0 m 22 ls []) := fun k2 hp' H locs hE hV0 hA0 hS ls hl => ih22 k2 hp' H locs (by omega) (by
            obtain ⟨S', h1, h2⟩ := hE
            exact ⟨S', G_mono h1 (by omega) (by omega) (by omega), h2⟩) hV0 hA0 hS ls hl
          refine W.widen (k := k + k9 + 1) (n := 65 * (k + k9 + 1)) (by omega) (by omega) ?_
          by_cases h09 : bN (vw S2 0) (blN (x >>> (nI 1 &&& 31)) 4) = 0
          · exact lw_c2N hL C0 hK0 hA hbA (by omega) hg9 (by omega) (by omega) (by omega) hC hm hw9 hwk hF9 (bl_lt _ (by omega)) hN9 (by omega) hV0 hA0 hS hl kk9 _ rfl h09
          · exact lw_c2Y hL C0 hK0 hA hbA (by omega) hg9 (by omega) (by omega) (by omega) hC hm hw9 hwk hF9 (bl_lt _ (by omega)) hN9 (by omega) hV0 hA0 hS hl kk9 _ rfl h09 _ _ rfl rfl
        · replace hl : lv_has ls 15 [(8, .int (sG S2 0)), (7, .int (sV S2 0)), (6, .int (nI ((blN (x >>> (nI 2 &&& 31)) 64)))), (5, .ref wa), (4, .int x), (3, .int (nI t)), (2, .ref mo), (1, .ref (aX ad)), (0, .ref b)] := lv_sub hl [0, 1, 2, 3, 4, 5, 6, 7, 8] rfl
          have hN9 : k + k9 + 1 + gS S2 + 600 ≤ 66100 + 1201 * (t + 1) := by omega
          have kk9 : ∀ (k2 : Nat) (hp' : HP) (H : Heap) (locs : List Loc), (∃ S2, gX ad mo lv (90 + 2 * t + 1 + 1) (28800 + 640 * t + 320 + 320) (450 + 10 * t + 5 + 5) S2 hp' ∧ k2 + gS S2 ≤ 66100 + 1201 * (t + 1)) → hV G hp' H → hIn A hp' → va_S A s.heap H locs → ∀ ls : Array Slot, lv_has ls 15 [(3, .int (nI (t + 1))), (2, .ref mo), (1, .ref (aX ad)), (0, .ref b)] → W p l e room_1 s m #[Value.ref b] below meth c H locs k2 (65 * k2) (lw_Z below #[Value.ref b] s) (F0 m 22 ls []) := fun k2 hp' H locs hE hV0 hA0 hS ls hl => ih22 k2 hp' H locs (by omega) (by
            obtain ⟨S', h1, h2⟩ := hE
            exact ⟨S', G_mono h1 (by omega) (by omega) (by omega), h2⟩) hV0 hA0 hS ls hl
          refine W.widen (k := k + k9 + 1) (n := 65 * (k + k9 + 1)) (by omega) (by omega) ?_
          by_cases hz9 : szR (sF S2 0) = 0
          · exact lw_c1N hL C0 hK0 hA hbA (by omega) hg9 (by omega) (by omega) (by omega) hC hm hw9 hwk hF9 (bl_lt _ (by omega)) hN9 (by omega) hV0 hA0 hS hl kk9 hz9
          · exact lw_c1B hL C0 hK0 hA hbA (by omega) hg9 (by omega) (by omega) (by omega) hC hm hw9 hwk hF9 (bl_lt _ (by omega)) hN9 (by omega) hV0 hA0 hS hl kk9 hz9
      · replace hl : lv_has ls 15 [(8, .int (sG S2 0)), (7, .int (sV S2 0)), (6, .int (nI ((blN (x >>> (nI 2 &&& 31)) 64)))), (5, .ref wa), (4, .int x), (3, .int (nI t)), (2, .ref mo), (1, .ref (aX ad)), (0, .ref b)] := lv_sub hl [0, 1, 2, 3, 4, 5, 6, 7, 8] rfl
        have hN9 : k + k9 + 1 + gS S2 + 600 ≤ 66100 + 1201 * (t + 1) := by omega
        have kk9 : ∀ (k2 : Nat) (hp' : HP) (H : Heap) (locs : List Loc), (∃ S2, gX ad mo lv (90 + 2 * t + 1 + 1) (28800 + 640 * t + 320 + 320) (450 + 10 * t + 5 + 5) S2 hp' ∧ k2 + gS S2 ≤ 66100 + 1201 * (t + 1)) → hV G hp' H → hIn A hp' → va_S A s.heap H locs → ∀ ls : Array Slot, lv_has ls 15 [(3, .int (nI (t + 1))), (2, .ref mo), (1, .ref (aX ad)), (0, .ref b)] → W p l e room_1 s m #[Value.ref b] below meth c H locs k2 (65 * k2) (lw_Z below #[Value.ref b] s) (F0 m 22 ls []) := fun k2 hp' H locs hE hV0 hA0 hS ls hl => ih22 k2 hp' H locs (by omega) (by
          obtain ⟨S', h1, h2⟩ := hE
          exact ⟨S', G_mono h1 (by omega) (by omega) (by omega), h2⟩) hV0 hA0 hS ls hl
        refine W.widen (k := k + k9 + 1) (n := 65 * (k + k9 + 1)) (by omega) (by omega) ?_
        by_cases hs9 : blN (x >>> (nI 4 &&& 31)) 3 = 0
        · by_cases hlt9 : nI (szR (upd (sF S2 0) (blN (x >>> (nI 2 &&& 31)) 64) (-1))) < sR S2
          · exact lw_c0sN hL C0 hK0 hA hbA (by omega) hg9 (by omega) (by omega) (by omega) hC hm hw9 hwk hF9 (bl_lt _ (by omega)) hN9 (by omega) hV0 hA0 hS hl kk9 hs9 hlt9
          · exact lw_c0sB hL C0 hK0 hA hbA (by omega) hg9 (by omega) (by omega) (by omega) hC hm hw9 hwk hF9 (bl_lt _ (by omega)) hN9 (by omega) hV0 hA0 hS hl kk9 hs9 hlt9
        · by_cases hlt9 : nI (szR (upd (sF S2 0) (blN (x >>> (nI 2 &&& 31)) 64) (nI (blN (x >>> (nI 3 &&& 31)) 100)))) < sR S2
          · exact lw_c0wN hL C0 hK0 hA hbA (by omega) hg9 (by omega) (by omega) (by omega) hC hm hw9 hwk hF9 (bl_lt _ (by omega)) hN9 (by omega) hV0 hA0 hS hl kk9 hs9 hlt9
          · exact lw_c0wB hL C0 hK0 hA hbA (by omega) hg9 (by omega) (by omega) (by omega) hC hm hw9 hwk hF9 (bl_lt _ (by omega)) hN9 (by omega) hV0 hA0 hS hl kk9 hs9 hlt9
    · refine lv_aload hx hb dL_law_79 (lv_at hl 1 rfl) ?_
      refine lv_iload hx hb dL_law_81 (lv_at hl 0 rfl) ?_
      refine lv_aload_n hx hb dL_law_83 rfl (lv_at hl 4 rfl) ?_
      refine lv_iload hx hb dL_law_84 (lv_at hl 0 rfl) ?_
      refine h_rdV (As := [.int (nI n8)]) (rest := [.int (nI n8), .ref wa]) hF (c_X3_word l G (hput hp1 wa (eI 64 F)) mo dk2 lv lvl2 row2 (sR S2) tm2 (sD S2) (sF S2 0) δ2 (vw S2 0) ω2 hm hoT2 hoD2 hokd2 n8 (by omega)) 1 (gZl gL_law_X3_word) rfl (by decide +kernel) ⟨Nat.le_of_ble_eq_true rfl, Nat.le_of_ble_eq_true rfl⟩ hK0 hV0 hm.cmo rfl rfl rfl hl.1 rfl (Nat.le_of_ble_eq_true rfl) (by show _ ≤ 600130; omega) (by show _ ≤ 7301080; omega) dL_law_86 ?_
      refine h_iast (i := n8) (x := wv S2 n8) hx hb hK0 hV0 hA0 hS hw9 (by omega) (by omega) dL_law_89 (fun H locs hV0 hA0 hS => ?_)
      rw [hput_hput] at hV0 hA0
      refine lv_iinc (v := nI (n8 + 1)) (lv' := [(6, .int (nI (n8 + 1))), (5, .ref wa), (4, .int x), (3, .int (nI t)), (2, .ref mo), (1, .ref (aX ad)), (0, .ref b)]) hx hb dL_law_90 hl (k := 0) rfl (nI_add (n8) 1) (by decide) rfl (fun ls hl => ?_)
      refine lv_goto (tgt := 72) hx hb dL_law_93 (by decide) ?_
      have hFm : ∀ i, i < n8 + 1 → upd F n8 (wv S2 n8) i = wv S2 i := fun i hi => by
        unfold upd
        by_cases e : i = n8
        · rw [if_pos e, e]
        · rw [if_neg e]; exact hFn i (by omega)
      exact ih72 _ H locs (by omega) ⟨_, rfl, hFm⟩ hV0 hA0 hS ls (lv_sub hl [0, 1, 2, 3, 4, 5, 6] rfl)
