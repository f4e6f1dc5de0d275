/-! the law: merging -/
theorem tl_4 (S : CS) : tlS (sF S 0) (sN S 0) (gC S 0) (sR S) (sV S 0) (sD S) (sG S 0) 4 = sV S 0 := rfl
theorem tl_6 (S : CS) : tlS (sF S 0) (sN S 0) (gC S 0) (sR S) (sV S 0) (sD S) (sG S 0) 6 = sG S 0 := rfl
set_option maxHeartbeats 2000000 in
set_option maxRecDepth 100000 in
theorem lw_c2Y {p : Program} {l : Launch} {e : Env} {s : State} {m : MethodId} {below : List Frame} {meth : Method} {c : Code} {b L : Nat} {xs : Nat → Int32} (hL : L ≤ 260) (C0 : lw_At p s m meth c b L xs) {G : hG} (hK0 : hK G s) {A : Nat → Prop} (hA : ∀ q : Nat, s.heap.size ≤ q → A q) (hbA : ¬ A b) {ad : Nat → Nat} {mo lv tb mb gb : Nat} {wa : Nat} {t : Nat} (ht : t < 30) {Q : State → Prop} {S : CS} {hp : HP} {tm : Nat} {δ : TG} {ω : TS} (hg : gI tb mb gb S tm δ ω) (htb : tb < 1000) (hmb : mb ≤ 100000) (hgb : gb ≤ 100000) (hC : cW ad S hp) {dk : Nat} {lvl : Nat → Nat} {row : Nat → Nat → Nat} (hm : sA mo dk lv lvl row (sR S) tm (sD S) (sF S 0) δ (vw S 0) ω hp) {F9 : Nat → Int32} (hw9 : hp wa = some (eI 64 F9)) (hwk : ∀ key, key < 61 → wa ≠ ad key) (hF9 : ∀ n, n < 64 → F9 n = wv S n) {n9 : Nat} (hn9 : n9 < 64) {x : Int32} {H : Heap} {locs : List Loc} {k N9 : Nat} (hk : k + gS S + 600 ≤ N9) (hN : N9 ≤ 112000) (hV0 : hV G hp H) (hA0 : hIn A hp) (hS : va_S A s.heap H locs) {ls : Array Slot} (hl : lv_has ls 15 [(8, .int (sG S 0)), (7, .int (sV S 0)), (6, .int (nI n9)), (5, .ref wa), (4, .int x), (3, .int (nI t)), (2, .ref mo), (1, .ref (aX ad)), (0, .ref b)]) (kk : ∀ (k2 : Nat) (hp' : HP) (H : Heap) (locs : List Loc), (∃ S2, gX ad mo lv (tb + 1) (mb + 320) (gb + 5) S2 hp' ∧ k2 + gS S2 ≤ N9) → hV G hp' H → hIn A hp' → va_S A s.heap H locs → ∀ ls : Array Slot, lv_has ls 15 [(3, .int (nI (t + 1))), (2, .ref mo), (1, .ref (aX ad)), (0, .ref b)] → W p l e room_1 s m #[Value.ref b] below meth c H locs k2 (65 * k2) Q (F0 m 22 ls [])) (lz : Nat) (hlz : (blN (x >>> (nI 1 &&& 31)) 4) = lz) (h09 : ¬ bN (vw S 0) lz = 0) (S1 S2 : CS) (hS1 : tmS S lz = S1) (hS2 : stS (mgS S1 0 lz) 0 4 = S2) : W p l e room_1 s m #[Value.ref b] below meth c H locs k (65 * k) Q (F0 m 355 ls []) := by
  obtain ⟨hx, hb, hr, hml, hown, hts, hX, hbl, hlocks, hgv⟩ := id C0
  have hF : CallFix p m c cL_law 15 s #[Value.ref b] wsLw RL := ⟨hx, hb, hml, hown, fun w h => hts w (wsLw_in w h)⟩
  obtain ⟨hI, hoT, hoD, htd, htg, ⟨r9, hr1, hr2, hr3⟩, hmv, hmg, htm9⟩ := id hg
  have hnk := hC.ok.n
  have hvk := hm.v
  have hokd : okR (sF S 0) := hC.ok.1 0
  have hI2 : ∀ l, l < 4 → bN (vw S 0) l ≤ 2 := fun l hl => hI l hl
  have hzd := szR_le (sF S 0)
  have hn := hm.le
  have hl9 : lz < 4 := by rw [← hlz]; exact bl_lt _ (by omega)
  have hlt := lk_tm hnk hI hl9
  rw [hS1] at hlt
  have hn1 := hlt.1
  have hI1 := hlt.2.2.2.2.2.1
  have hlm := lk_mg hn1 hI1 hl9
  rw [hS2, hlt.2.1] at hlm
  have hgt1 := gS_tm hnk hI hl9
  rw [hS1] at hgt1
  have hvk1 : vOk (vw S1 0) := by rw [hlt.2.1]; exact hvk
  have h091 : ¬ bN (vw S1 0) lz = 0 := by rw [hlt.2.1]; exact h09
  have hvm := gS_mg hn1 hI1 hvk1 hl9 h091
  rw [hS2, hlt.2.1, hgt1] at hvm
  have hV1 : sV S1 0 = sV S 0 := by rw [← hS1]; exact tm_V hnk hI hl9
  have hG1 : sG S1 0 = sG S 0 := by rw [← hS1]; exact tm_G hnk hI hl9
  have hg1 : gI tb mb gb S1 tm δ ω := by rw [← hS1]; exact T_tm hg hnk hl9
  have hq9 : bM (stB (mgB (vw S 0) lz) 4) - bM (vw S 0) = sV S2 0 - sV S 0 := by
    have h1 := q_merge hn1 hI1 hl9
    rw [hS2, hlt.2.1, hV1] at h1
    exact h1.symm
  have hgg : sG S 0 < sG S2 0 := by
    have h1 := mg_gt hg1 hgb hn1 hl9
    rw [hS2, hG1] at h1
    exact h1
  have hts9 : spV S lz ≤ 512 := Nat.le_trans (Nat.sub_le _ _) (tt_b hI2)
  have hsm := sp_m hI hvk hl9
  have hcm := tl_2m (S := S) (S2 := S2) (l := lz) hlm.2.1
  have hwm : ∀ n, n < 64 → wv S2 n = wv S n := fun n hn => by
    rw [← hS2, wv_mg hn1 hI1 hl9 hn, ← hS1]
    exact wv_tm hnk hI hl9 n
  have hr9 : sN S1 0 lz ≠ 0 := h091
  have hz0 : lz < 3 → sN S2 0 lz = 0 := fun h => by
    have h1 : bN (vw S2 0) lz = 0 := by rw [hlm.2.1]; exact tr_0 h hI2
    exact h1
  have hz3 : lz = 3 → sN S2 0 3 ≤ 1 := fun h => by
    have h1 : bN (vw S2 0) 3 ≤ 1 := by rw [hlm.2.1, h]; exact tr_3 hI2
    exact h1
  refine lv_iload hx hb dL_law_355 (lv_at hl 4 rfl) ?_
  refine lv_iconst (v := nI 1) hx hb dL_law_357 (by decide) ?_
  refine lv_ishr hx hb dL_law_358 ?_
  refine lv_iconst (v := nI 4) hx hb dL_law_359 (by decide) ?_
  have hbl360 : blN ((x >>> (nI 1 &&& 31))) 4 < 4 := bl_lt _ (by omega)
  refine h_rdS (As := [.int (x >>> (nI 1 &&& 31)), .int (nI 4)]) (rest := []) hF (c_L_below l G hp ((x >>> (nI 1 &&& 31))) 4 (by omega) (by omega)) 2 (gZl gL_law_L_below) rfl (by decide +kernel) ⟨Nat.le_of_ble_eq_true rfl, Nat.le_of_ble_eq_true rfl⟩ hK0 hV0 rfl hl.1 rfl (Nat.le_of_ble_eq_true rfl) (by show _ ≤ 600130; omega) (by show _ ≤ 7301080; omega) dL_law_360 ?_
  rw [hlz]
  refine lv_istore (lv' := [(9, .int (nI lz)), (8, .int (sG S 0)), (7, .int (sV S 0)), (6, .int (nI n9)), (5, .ref wa), (4, .int x), (3, .int (nI t)), (2, .ref mo), (1, .ref (aX ad)), (0, .ref b)]) hx hb dL_law_363 hl (by decide) rfl (fun ls hl => ?_)
  refine lv_aload_n hx hb dL_law_365 rfl (lv_at hl 8 rfl) ?_
  refine lv_iload hx hb dL_law_366 (lv_at hl 0 rfl) ?_
  refine h_wrV (As := [.int (nI lz)]) (rest := []) hF (c_X2_spares l G A hp ad S hC hI lz hl9 h09 hA0) 1 (gZl gL_law_X2_spares) rfl (by decide +kernel) ⟨Nat.le_of_ble_eq_true rfl, Nat.le_of_ble_eq_true rfl⟩ hK0 hV0 hA hS hC.xo rfl rfl rfl hl.1 rfl (Nat.le_of_ble_eq_true rfl) ⟨by show _ ≤ 600130; omega, by show _ ≤ 7301080; omega⟩ dL_law_368 (fun ro hp1 H locs hP1 hV0 hA0 hS => ?_)
  rw [sp_eq hnk hI hvk hl9, hS1] at hP1
  obtain ⟨rfl, hT⟩ := hP1
  replace hm := hm.ms (cT.skw hC hT)
  replace hw9 := (hT.2 wa hwk).trans hw9
  have hC := hT.1
  have hn := hm.le
  replace hm := hm.tm hnk hI hl9
  rw [hS1] at hm
  refine lv_istore (lv' := [(10, .int (nI (spV S lz))), (9, .int (nI lz)), (8, .int (sG S 0)), (7, .int (sV S 0)), (6, .int (nI n9)), (5, .ref wa), (4, .int x), (3, .int (nI t)), (2, .ref mo), (1, .ref (aX ad)), (0, .ref b)]) hx hb dL_law_371 hl (by decide) rfl (fun ls hl => ?_)
  refine lv_aload_n hx hb dL_law_373 rfl (lv_at hl 9 rfl) ?_
  refine lv_iconst (v := nI 2) hx hb dL_law_374 (by decide) ?_
  refine h_rdV (As := [.int (nI 2)]) (rest := []) hF (c_X2_cnt l G hp1 ad S1 hC 2 (by omega) (nI (tt (vw S 0))) ((tl_2 S1).trans (by rw [hlt.2.1]))) 1 (gZl gL_law_X2_count) rfl (by decide +kernel) ⟨Nat.le_of_ble_eq_true rfl, Nat.le_of_ble_eq_true rfl⟩ hK0 hV0 hC.xo rfl rfl rfl hl.1 rfl (Nat.le_of_ble_eq_true rfl) (by show _ ≤ 600130; omega) (by show _ ≤ 7301080; omega) dL_law_375 ?_
  refine lv_istore (lv' := [(11, .int (nI (tt (vw S 0)))), (10, .int (nI (spV S lz))), (9, .int (nI lz)), (8, .int (sG S 0)), (7, .int (sV S 0)), (6, .int (nI n9)), (5, .ref wa), (4, .int x), (3, .int (nI t)), (2, .ref mo), (1, .ref (aX ad)), (0, .ref b)]) hx hb dL_law_378 hl (by decide) rfl (fun ls hl => ?_)
  refine lv_iload hx hb dL_law_380 (lv_at hl 1 rfl) ?_
  refine h_if_lt (a := spV S lz) (tgt := 478) hx hb dL_law_382 (by decide) (by omega) ?_
  refine lv_aload_n hx hb dL_law_385 rfl (lv_at hl 10 rfl) ?_
  refine lv_iload hx hb dL_law_386 (lv_at hl 2 rfl) ?_
  refine h_wrV (As := [.int (nI lz)]) (rest := []) hF (c_X2_merge l G A hp1 ad S1 hC hI1 lz hl9 hr9 hA0) 1 (gZl gL_law_X2_merge) rfl (by decide +kernel) ⟨Nat.le_of_ble_eq_true rfl, Nat.le_of_ble_eq_true rfl⟩ hK0 hV0 hA hS hC.xo rfl rfl rfl hl.1 rfl (Nat.le_of_ble_eq_true rfl) ⟨by show _ ≤ 600130; omega, by show _ ≤ 7301080; omega⟩ dL_law_388 (fun ro hp4 H locs hP1 hV0 hA0 hS => ?_)
  rw [hS2, hV1] at hP1
  obtain ⟨rfl, hT⟩ := hP1
  replace hm := hm.ms (cT.skw hC hT)
  replace hw9 := (hT.2 wa hwk).trans hw9
  have hC := hT.1
  have hn := hm.le
  refine lv_istore (lv' := [(12, .int (sV S2 0 - sV S 0)), (11, .int (nI (tt (vw S 0)))), (10, .int (nI (spV S lz))), (9, .int (nI lz)), (8, .int (sG S 0)), (7, .int (sV S 0)), (6, .int (nI n9)), (5, .ref wa), (4, .int x), (3, .int (nI t)), (2, .ref mo), (1, .ref (aX ad)), (0, .ref b)]) hx hb dL_law_391 hl (by decide) rfl (fun ls hl => ?_)
  refine lv_aload_n hx hb dL_law_393 rfl (lv_at hl 10 rfl) ?_
  refine lv_iload hx hb dL_law_394 (lv_at hl 3 rfl) ?_
  have hI3 : ∀ l, l < 4 → bN (vw S1 0) l ≤ 2 := fun l hl => hI1 l hl
  have hoT1 : oT (vw S1 0) ω := by rw [hlt.2.1]; exact hoT
  have hcM := c_X3_merge l G A hp4 mo dk lv lvl row (sR S1) tm (sD S1) (sF S1 0) δ (vw S1 0) ω hm lz hl9 (oneB_all hI3 _) hoT1 hA0
  rw [hlt.2.1] at hcM
  refine h_wrV (As := [.int (nI lz)]) (rest := []) hF hcM 1 (gZl gL_law_X3_merge) rfl (by decide +kernel) ⟨Nat.le_of_ble_eq_true rfl, Nat.le_of_ble_eq_true rfl⟩ hK0 hV0 hA hS hm.cmo rfl rfl rfl hl.1 rfl (Nat.le_of_ble_eq_true rfl) ⟨by show _ ≤ 600130; omega, by show _ ≤ 7301080; omega⟩ dL_law_396 (fun ro hp2 H locs hP1 hV0 hA0 hS => ?_)
  obtain ⟨rfl, ⟨lvl2, row2, hm2⟩, hE3⟩ := hP1
  replace hw9 := hE3 _ _ rfl hw9
  replace hC := hC.mvX hE3
  rw [← hlt.2.1] at hm2
  have hX3 := G_merge (dk := dk) (lvl := lvl2) (row := row2) hg1 hn1 hvk1 hl9 (by rw [hS2]; exact hC) hm2
  rw [hS2] at hX3
  have hX2 := G_mono (tb2 := tb + 1) (mb2 := mb + 320) (gb2 := gb + 5) (hX3) (by omega) (by omega) (by omega)
  refine lv_iload hx hb dL_law_399 (lv_at hl 0 rfl) ?_
  refine lv_icmp_ne (tgt := 473) hx hb dL_law_401 (by decide) (fun c_401 => absurd hq9 c_401) (fun c_401 => ?_)
  refine lv_aload_n hx hb dL_law_404 rfl (lv_at hl 11 rfl) ?_
  refine lv_iconst (v := nI 2) hx hb dL_law_405 (by decide) ?_
  refine h_rdV (As := [.int (nI 2)]) (rest := []) hF (c_X2_cnt l G hp2 ad S2 hC 2 (by omega) ((nI (tt (vw S 0)) - nI (spV S lz))) (hcm.trans hsm.symm)) 1 (gZl gL_law_X2_count) rfl (by decide +kernel) ⟨Nat.le_of_ble_eq_true rfl, Nat.le_of_ble_eq_true rfl⟩ hK0 hV0 hC.xo rfl rfl rfl hl.1 rfl (Nat.le_of_ble_eq_true rfl) (by show _ ≤ 600130; omega) (by show _ ≤ 7301080; omega) dL_law_406 ?_
  refine lv_iload hx hb dL_law_409 (lv_at hl 1 rfl) ?_
  refine lv_iload hx hb dL_law_411 (lv_at hl 2 rfl) ?_
  refine lv_isub hx hb dL_law_413 ?_
  refine lv_icmp_ne (tgt := 473) hx hb dL_law_414 (by decide) (fun c_414 => absurd rfl c_414) (fun c_414 => ?_)
  refine lv_aload_n hx hb dL_law_417 rfl (lv_at hl 11 rfl) ?_
  refine lv_iconst (v := nI 4) hx hb dL_law_418 (by decide) ?_
  refine h_rdV (As := [.int (nI 4)]) (rest := []) hF (c_X2_cnt l G hp2 ad S2 hC 4 (by omega) (((sV S 0) + (sV S2 0 - sV S 0))) ((tl_4 S2).trans (by rw [Int32.add_comm]; exact (Int32.sub_add_cancel _ _).symm))) 1 (gZl gL_law_X2_count) rfl (by decide +kernel) ⟨Nat.le_of_ble_eq_true rfl, Nat.le_of_ble_eq_true rfl⟩ hK0 hV0 hC.xo rfl rfl rfl hl.1 rfl (Nat.le_of_ble_eq_true rfl) (by show _ ≤ 600130; omega) (by show _ ≤ 7301080; omega) dL_law_419 ?_
  refine lv_iload hx hb dL_law_422 (lv_at hl 5 rfl) ?_
  refine lv_iload hx hb dL_law_424 (lv_at hl 0 rfl) ?_
  refine lv_iadd hx hb dL_law_426 ?_
  refine lv_icmp_ne (tgt := 473) hx hb dL_law_427 (by decide) (fun c_427 => absurd rfl c_427) (fun c_427 => ?_)
  refine lv_aload_n hx hb dL_law_430 rfl (lv_at hl 11 rfl) ?_
  refine lv_bipush (v := nI 6) hx hb dL_law_431 (by decide) ?_
  refine h_rdV (As := [.int (nI 6)]) (rest := []) hF (c_X2_cnt l G hp2 ad S2 hC 6 (by omega) ((sG S2 0)) (tl_6 S2)) 1 (gZl gL_law_X2_count) rfl (by decide +kernel) ⟨Nat.le_of_ble_eq_true rfl, Nat.le_of_ble_eq_true rfl⟩ hK0 hV0 hC.xo rfl rfl rfl hl.1 rfl (Nat.le_of_ble_eq_true rfl) (by show _ ≤ 600130; omega) (by show _ ≤ 7301080; omega) dL_law_433 ?_
  refine lv_iload hx hb dL_law_436 (lv_at hl 4 rfl) ?_
  refine lv_icmp_le (tgt := 473) hx hb dL_law_438 (by decide) (fun c_438 => absurd hgg (Int32.not_lt.mpr c_438)) (fun c_438 => ?_)
  refine lv_iload hx hb dL_law_441 (lv_at hl 3 rfl) ?_
  refine lv_iconst (v := nI 3) hx hb dL_law_443 (by decide) ?_
  refine h_icmp_ge (a := lz) (b := 3) (tgt := 457) hx hb dL_law_444 (by decide) (by omega) (by omega) (fun c_444 => ?_) (fun c_444 => ?_)
  · refine lv_iload hx hb dL_law_457 (lv_at hl 3 rfl) ?_
    refine lv_iconst (v := nI 3) hx hb dL_law_459 (by decide) ?_
    refine h_icmp_ne (a := lz) (b := 3) (tgt := 475) hx hb dL_law_460 (by decide) (by omega) (by omega) (fun c_460 => absurd (show lz = 3 by omega) c_460) (fun c_460 => ?_)
    have ht3 := hz3 (by omega)
    refine lv_aload_n hx hb dL_law_463 rfl (lv_at hl 11 rfl) ?_
    refine lv_iconst (v := nI 3) hx hb dL_law_464 (by decide) ?_
    refine lv_iconst (v := nI 0) hx hb dL_law_465 (by decide) ?_
    refine h_rdV (As := [.int (nI 3), .int (nI 0)]) (rest := []) hF (c_X2_lvl l G hp2 ad S2 hC 3 (by omega) (sN S2 0 3) rfl) 2 (gZl gL_law_X2_level) rfl (by decide +kernel) ⟨Nat.le_of_ble_eq_true rfl, Nat.le_of_ble_eq_true rfl⟩ hK0 hV0 hC.xo rfl rfl rfl hl.1 rfl (Nat.le_of_ble_eq_true rfl) (by show _ ≤ 600130; omega) (by show _ ≤ 7301080; omega) dL_law_466 ?_
    refine lv_iconst (v := nI 1) hx hb dL_law_469 (by decide) ?_
    refine h_icmp_le (a := sN S2 0 3) (b := 1) (tgt := 475) hx hb dL_law_470 (by decide) (by omega) (by omega) (fun c_470 => ?_) (fun c_470 => absurd ht3 c_470)
    refine lv_goto (tgt := 490) hx hb dL_law_475 (by decide) ?_
    refine W.widen (k := k + (mgC (vw S 0) lz + stC (mgB (vw S 0) lz) 4)) (n := 65 * (k + (mgC (vw S 0) lz + stC (mgB (vw S 0) lz) 4))) (by omega) (by omega) ?_
    have hgk := hvm
    exact lw_490 hL C0 hK0 hA hbA ht hX2 hw9 (fun n hn => (hF9 n hn).trans (hwm n hn).symm) (by omega) (by omega) hV0 (lv_sub hl [9, 7, 10, 11, 12] rfl) (kk (k + (mgC (vw S 0) lz + stC (mgB (vw S 0) lz) 4)) _ H locs ⟨_, hX2, by omega⟩ hV0 hA0 hS)
  · refine lv_aload_n hx hb dL_law_447 rfl (lv_at hl 11 rfl) ?_
    refine lv_iload hx hb dL_law_448 (lv_at hl 3 rfl) ?_
    refine lv_iconst (v := nI 0) hx hb dL_law_450 (by decide) ?_
    refine h_rdV (As := [.int (nI lz), .int (nI 0)]) (rest := []) hF (c_X2_lvl l G hp2 ad S2 hC lz (by omega) (0) (hz0 (by omega))) 2 (gZl gL_law_X2_level) rfl (by decide +kernel) ⟨Nat.le_of_ble_eq_true rfl, Nat.le_of_ble_eq_true rfl⟩ hK0 hV0 hC.xo rfl rfl rfl hl.1 rfl (Nat.le_of_ble_eq_true rfl) (by show _ ≤ 600130; omega) (by show _ ≤ 7301080; omega) dL_law_451 ?_
    refine h_if_ne (a := 0) (tgt := 473) hx hb dL_law_454 (by decide) (by omega) (fun c_454 => absurd rfl c_454) (fun c_454 => ?_)
    refine lv_iload hx hb dL_law_457 (lv_at hl 3 rfl) ?_
    refine lv_iconst (v := nI 3) hx hb dL_law_459 (by decide) ?_
    refine h_icmp_ne (a := lz) (b := 3) (tgt := 475) hx hb dL_law_460 (by decide) (by omega) (by omega) (fun c_460 => ?_) (fun c_460 => absurd c_460 (by omega))
    refine lv_goto (tgt := 490) hx hb dL_law_475 (by decide) ?_
    refine W.widen (k := k + (mgC (vw S 0) lz + stC (mgB (vw S 0) lz) 4)) (n := 65 * (k + (mgC (vw S 0) lz + stC (mgB (vw S 0) lz) 4))) (by omega) (by omega) ?_
    have hgk := hvm
    exact lw_490 hL C0 hK0 hA hbA ht hX2 hw9 (fun n hn => (hF9 n hn).trans (hwm n hn).symm) (by omega) (by omega) hV0 (lv_sub hl [9, 7, 10, 11, 12] rfl) (kk (k + (mgC (vw S 0) lz + stC (mgB (vw S 0) lz) 4)) _ H locs ⟨_, hX2, by omega⟩ hV0 hA0 hS)

set_option maxHeartbeats 2000000 in
set_option maxRecDepth 100000 in
theorem lw_c2N {p : Program} {l : Launch} {e : Env} {s : State} {m : MethodId} {below : List Frame} {meth : Method} {c : Code} {b L : Nat} {xs : Nat → Int32} (hL : L ≤ 260) (C0 : lw_At p s m meth c b L xs) {G : hG} (hK0 : hK G s) {A : Nat → Prop} (hA : ∀ q : Nat, s.heap.size ≤ q → A q) (hbA : ¬ A b) {ad : Nat → Nat} {mo lv tb mb gb : Nat} {wa : Nat} {t : Nat} (ht : t < 30) {Q : State → Prop} {S : CS} {hp : HP} {tm : Nat} {δ : TG} {ω : TS} (hg : gI tb mb gb S tm δ ω) (htb : tb < 1000) (hmb : mb ≤ 100000) (hgb : gb ≤ 100000) (hC : cW ad S hp) {dk : Nat} {lvl : Nat → Nat} {row : Nat → Nat → Nat} (hm : sA mo dk lv lvl row (sR S) tm (sD S) (sF S 0) δ (vw S 0) ω hp) {F9 : Nat → Int32} (hw9 : hp wa = some (eI 64 F9)) (hwk : ∀ key, key < 61 → wa ≠ ad key) (hF9 : ∀ n, n < 64 → F9 n = wv S n) {n9 : Nat} (hn9 : n9 < 64) {x : Int32} {H : Heap} {locs : List Loc} {k N9 : Nat} (hk : k + gS S + 600 ≤ N9) (hN : N9 ≤ 112000) (hV0 : hV G hp H) (hA0 : hIn A hp) (hS : va_S A s.heap H locs) {ls : Array Slot} (hl : lv_has ls 15 [(8, .int (sG S 0)), (7, .int (sV S 0)), (6, .int (nI n9)), (5, .ref wa), (4, .int x), (3, .int (nI t)), (2, .ref mo), (1, .ref (aX ad)), (0, .ref b)]) (kk : ∀ (k2 : Nat) (hp' : HP) (H : Heap) (locs : List Loc), (∃ S2, gX ad mo lv (tb + 1) (mb + 320) (gb + 5) S2 hp' ∧ k2 + gS S2 ≤ N9) → hV G hp' H → hIn A hp' → va_S A s.heap H locs → ∀ ls : Array Slot, lv_has ls 15 [(3, .int (nI (t + 1))), (2, .ref mo), (1, .ref (aX ad)), (0, .ref b)] → W p l e room_1 s m #[Value.ref b] below meth c H locs k2 (65 * k2) Q (F0 m 22 ls [])) (lz : Nat) (hlz : (blN (x >>> (nI 1 &&& 31)) 4) = lz) (h09 : bN (vw S 0) lz = 0) : W p l e room_1 s m #[Value.ref b] below meth c H locs k (65 * k) Q (F0 m 355 ls []) := by
  obtain ⟨hx, hb, hr, hml, hown, hts, hX, hbl, hlocks, hgv⟩ := id C0
  have hF : CallFix p m c cL_law 15 s #[Value.ref b] wsLw RL := ⟨hx, hb, hml, hown, fun w h => hts w (wsLw_in w h)⟩
  obtain ⟨hI, hoT, hoD, htd, htg, ⟨r9, hr1, hr2, hr3⟩, hmv, hmg, htm9⟩ := id hg
  have hnk := hC.ok.n
  have hvk := hm.v
  have hokd : okR (sF S 0) := hC.ok.1 0
  have hI2 : ∀ l, l < 4 → bN (vw S 0) l ≤ 2 := fun l hl => hI l hl
  have hzd := szR_le (sF S 0)
  have hn := hm.le
  have hl9 : lz < 4 := by rw [← hlz]; exact bl_lt _ (by omega)
  refine lv_iload hx hb dL_law_355 (lv_at hl 4 rfl) ?_
  refine lv_iconst (v := nI 1) hx hb dL_law_357 (by decide) ?_
  refine lv_ishr hx hb dL_law_358 ?_
  refine lv_iconst (v := nI 4) hx hb dL_law_359 (by decide) ?_
  have hbl360 : blN ((x >>> (nI 1 &&& 31))) 4 < 4 := bl_lt _ (by omega)
  refine h_rdS (As := [.int (x >>> (nI 1 &&& 31)), .int (nI 4)]) (rest := []) hF (c_L_below l G hp ((x >>> (nI 1 &&& 31))) 4 (by omega) (by omega)) 2 (gZl gL_law_L_below) rfl (by decide +kernel) ⟨Nat.le_of_ble_eq_true rfl, Nat.le_of_ble_eq_true rfl⟩ hK0 hV0 rfl hl.1 rfl (Nat.le_of_ble_eq_true rfl) (by show _ ≤ 600130; omega) (by show _ ≤ 7301080; omega) dL_law_360 ?_
  rw [hlz]
  refine lv_istore (lv' := [(9, .int (nI lz)), (8, .int (sG S 0)), (7, .int (sV S 0)), (6, .int (nI n9)), (5, .ref wa), (4, .int x), (3, .int (nI t)), (2, .ref mo), (1, .ref (aX ad)), (0, .ref b)]) hx hb dL_law_363 hl (by decide) rfl (fun ls hl => ?_)
  refine lv_aload_n hx hb dL_law_365 rfl (lv_at hl 8 rfl) ?_
  refine lv_iload hx hb dL_law_366 (lv_at hl 0 rfl) ?_
  refine h_wrV (As := [.int (nI lz)]) (rest := []) hF (c_X2_sparesN l G A hp ad S hC hI lz hl9 h09 hA0) 1 (gZl gL_law_X2_spares) rfl (by decide +kernel) ⟨Nat.le_of_ble_eq_true rfl, Nat.le_of_ble_eq_true rfl⟩ hK0 hV0 hA hS hC.xo rfl rfl rfl hl.1 rfl (Nat.le_of_ble_eq_true rfl) ⟨by show _ ≤ 600130; omega, by show _ ≤ 7301080; omega⟩ dL_law_368 (fun ro hp1 H locs hP1 hV0 hA0 hS => ?_)
  obtain ⟨rfl, hT⟩ := hP1
  replace hm := hm.ms (cT.skw hC hT)
  replace hw9 := (hT.2 wa hwk).trans hw9
  have hC := hT.1
  have hn := hm.le
  refine lv_istore (lv' := [(10, .int (-1)), (9, .int (nI lz)), (8, .int (sG S 0)), (7, .int (sV S 0)), (6, .int (nI n9)), (5, .ref wa), (4, .int x), (3, .int (nI t)), (2, .ref mo), (1, .ref (aX ad)), (0, .ref b)]) hx hb dL_law_371 hl (by decide) rfl (fun ls hl => ?_)
  refine lv_aload_n hx hb dL_law_373 rfl (lv_at hl 9 rfl) ?_
  refine lv_iconst (v := nI 2) hx hb dL_law_374 (by decide) ?_
  refine h_rdV (As := [.int (nI 2)]) (rest := []) hF (c_X2_cnt l G hp1 ad S hC 2 (by omega) (nI (tt (vw S 0))) (tl_2 S)) 1 (gZl gL_law_X2_count) rfl (by decide +kernel) ⟨Nat.le_of_ble_eq_true rfl, Nat.le_of_ble_eq_true rfl⟩ hK0 hV0 hC.xo rfl rfl rfl hl.1 rfl (Nat.le_of_ble_eq_true rfl) (by show _ ≤ 600130; omega) (by show _ ≤ 7301080; omega) dL_law_375 ?_
  refine lv_istore (lv' := [(11, .int (nI (tt (vw S 0)))), (10, .int (-1)), (9, .int (nI lz)), (8, .int (sG S 0)), (7, .int (sV S 0)), (6, .int (nI n9)), (5, .ref wa), (4, .int x), (3, .int (nI t)), (2, .ref mo), (1, .ref (aX ad)), (0, .ref b)]) hx hb dL_law_378 hl (by decide) rfl (fun ls hl => ?_)
  refine lv_iload hx hb dL_law_380 (lv_at hl 1 rfl) ?_
  refine lv_if_lt (tgt := 478) hx hb dL_law_382 (by decide) (fun c_382 => ?_) (fun c_382 => absurd (show (-1 : Int32) < 0 by decide) c_382)
  have hX2 := G_mono (tb2 := tb + 1) (mb2 := mb + 320) (gb2 := gb + 5) (G_same hg hC hm) (by omega) (by omega) (by omega)
  refine lv_aload_n hx hb dL_law_478 rfl (lv_at hl 10 rfl) ?_
  refine lv_iload hx hb dL_law_479 (lv_at hl 2 rfl) ?_
  refine lv_iconst (v := nI 0) hx hb dL_law_481 (by decide) ?_
  refine h_rdV (As := [.int (nI lz), .int (nI 0)]) (rest := []) hF (c_X2_lvl l G hp1 ad S hC lz (by omega) (0) h09) 2 (gZl gL_law_X2_level) rfl (by decide +kernel) ⟨Nat.le_of_ble_eq_true rfl, Nat.le_of_ble_eq_true rfl⟩ hK0 hV0 hC.xo rfl rfl rfl hl.1 rfl (Nat.le_of_ble_eq_true rfl) (by show _ ≤ 600130; omega) (by show _ ≤ 7301080; omega) dL_law_482 ?_
  refine h_if_eq (a := 0) (tgt := 490) hx hb dL_law_485 (by decide) (by omega) (fun c_485 => ?_) (fun c_485 => absurd rfl c_485)
  refine W.widen (k := k + (0)) (n := 65 * (k + (0))) (by omega) (by omega) ?_
  have hgk := hk
  exact lw_490 hL C0 hK0 hA hbA ht hX2 hw9 hF9 (by omega) (by omega) hV0 (lv_sub hl [8, 6, 9, 10, 11] rfl) (kk (k + (0)) _ H locs ⟨_, hX2, by omega⟩ hV0 hA0 hS)
