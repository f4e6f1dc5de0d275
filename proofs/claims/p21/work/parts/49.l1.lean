/-! the law: binding -/
set_option maxHeartbeats 2000000 in
set_option maxRecDepth 100000 in
theorem lw_c1B {p : Program} {l : Launch} {e : Env} {s : State} {m : MethodId} {below : List Frame} {meth : Method} {c : Code} {b L : Nat} {xs : Nat → Int32} (hL : L ≤ 260) (C0 : lw_At p s m meth c b L xs) {G : hG} (hK0 : hK G s) {A : Nat → Prop} (hA : ∀ q : Nat, s.heap.size ≤ q → A q) (hbA : ¬ A b) {ad : Nat → Nat} {mo lv tb mb gb : Nat} {wa : Nat} {t : Nat} (ht : t < 30) {Q : State → Prop} {S : CS} {hp : HP} {tm : Nat} {δ : TG} {ω : TS} (hg : gI tb mb gb S tm δ ω) (htb : tb < 1000) (hmb : mb ≤ 100000) (hgb : gb ≤ 100000) (hC : cW ad S hp) {dk : Nat} {lvl : Nat → Nat} {row : Nat → Nat → Nat} (hm : sA mo dk lv lvl row (sR S) tm (sD S) (sF S 0) δ (vw S 0) ω hp) {F9 : Nat → Int32} (hw9 : hp wa = some (eI 64 F9)) (hwk : ∀ key, key < 61 → wa ≠ ad key) (hF9 : ∀ n, n < 64 → F9 n = wv S n) {n9 : Nat} (hn9 : n9 < 64) {x : Int32} {H : Heap} {locs : List Loc} {k N9 : Nat} (hk : k + gS S + 600 ≤ N9) (hN : N9 ≤ 112000) (hV0 : hV G hp H) (hA0 : hIn A hp) (hS : va_S A s.heap H locs) {ls : Array Slot} (hl : lv_has ls 15 [(8, .int (sG S 0)), (7, .int (sV S 0)), (6, .int (nI n9)), (5, .ref wa), (4, .int x), (3, .int (nI t)), (2, .ref mo), (1, .ref (aX ad)), (0, .ref b)]) (kk : ∀ (k2 : Nat) (hp' : HP) (H : Heap) (locs : List Loc), (∃ S2, gX ad mo lv (tb + 1) (mb + 320) (gb + 5) S2 hp' ∧ k2 + gS S2 ≤ N9) → hV G hp' H → hIn A hp' → va_S A s.heap H locs → ∀ ls : Array Slot, lv_has ls 15 [(3, .int (nI (t + 1))), (2, .ref mo), (1, .ref (aX ad)), (0, .ref b)] → W p l e room_1 s m #[Value.ref b] below meth c H locs k2 (65 * k2) Q (F0 m 22 ls [])) (hz9 : ¬ szR (sF S 0) = 0) : W p l e room_1 s m #[Value.ref b] below meth c H locs k (65 * k) Q (F0 m 279 ls []) := by
  obtain ⟨hx, hb, hr, hml, hown, hts, hX, hbl, hlocks, hgv⟩ := id C0
  have hF : CallFix p m c cL_law 15 s #[Value.ref b] wsLw RL := ⟨hx, hb, hml, hown, fun w h => hts w (wsLw_in w h)⟩
  obtain ⟨hI, hoT, hoD, htd, htg, ⟨r9, hr1, hr2, hr3⟩, hmv, hmg, htm9⟩ := id hg
  have hnk := hC.ok.n
  have hvk := hm.v
  have hokd : okR (sF S 0) := hC.ok.1 0
  have hI2 : ∀ l, l < 4 → bN (vw S 0) l ≤ 2 := fun l hl => hI l hl
  have hzd := szR_le (sF S 0)
  have hn := hm.le
  have hzz : 0 < szR (sF S 0) := by omega
  have hgk := gS_bf hnk hI hvk hokd hzz
  have hlk := lk_bf hnk hI hz9
  have hbe := bf_ge S
  have hbl9 := bfM_le S
  have hq9 : bM (stB (cmB (vw S 0) 0 (sF S 0)) 4) - bM (vw S 0) = nI (bfM S) := (q_bind hnk hI hzz).symm.trans (bfD S)
  refine lv_aload_n hx hb dL_law_279 rfl (lv_at hl 7 rfl) ?_
  refine lv_iconst (v := nI 0) hx hb dL_law_280 (by decide) ?_
  refine h_rdV (As := [.int (nI 0)]) (rest := []) hF (c_X2_cnt l G hp ad S hC 0 (by omega) (nI (szR (sF S 0))) rfl) 1 (gZl gL_law_X2_count) rfl (by decide +kernel) ⟨Nat.le_of_ble_eq_true rfl, Nat.le_of_ble_eq_true rfl⟩ hK0 hV0 hC.xo rfl rfl rfl hl.1 rfl (Nat.le_of_ble_eq_true rfl) (by show _ ≤ 600130; omega) (by show _ ≤ 7301080; omega) dL_law_281 ?_
  refine lv_istore (lv' := [(9, .int (nI (szR (sF S 0)))), (8, .int (sG S 0)), (7, .int (sV S 0)), (6, .int (nI n9)), (5, .ref wa), (4, .int x), (3, .int (nI t)), (2, .ref mo), (1, .ref (aX ad)), (0, .ref b)]) hx hb dL_law_284 hl (by decide) rfl (fun ls hl => ?_)
  refine lv_aload_n hx hb dL_law_286 rfl (lv_at hl 8 rfl) ?_
  refine h_wrV (As := []) (rest := []) hF (c_X2_bind l G A hp ad S hC hI  hA0) 0 (gZl gL_law_X2_bind) rfl (by decide +kernel) ⟨Nat.le_of_ble_eq_true rfl, Nat.le_of_ble_eq_true rfl⟩ hK0 hV0 hA hS hC.xo rfl rfl rfl hl.1 rfl (Nat.le_of_ble_eq_true rfl) ⟨by show _ ≤ 600130; omega, by show _ ≤ 7301080; omega⟩ dL_law_287 (fun ro hp1 H locs hP1 hV0 hA0 hS => ?_)
  rw [if_neg hz9, if_neg hz9, bfD] at hP1
  obtain ⟨rfl, hT⟩ := hP1
  replace hm := hm.ms (cT.skw hC hT)
  replace hw9 := (hT.2 wa hwk).trans hw9
  have hC := hT.1
  have hn := hm.le
  refine lv_istore (lv' := [(10, .int (nI (bfM S))), (9, .int (nI (szR (sF S 0)))), (8, .int (sG S 0)), (7, .int (sV S 0)), (6, .int (nI n9)), (5, .ref wa), (4, .int x), (3, .int (nI t)), (2, .ref mo), (1, .ref (aX ad)), (0, .ref b)]) hx hb dL_law_290 hl (by decide) rfl (fun ls hl => ?_)
  refine lv_aload_n hx hb dL_law_292 rfl (lv_at hl 8 rfl) ?_
  refine h_wrV (As := []) (rest := []) hF (c_X3_bind l G A hp1 mo dk lv lvl row (sR S) tm (sD S) (sF S 0) δ (vw S 0) ω hm hI2 hoT hoD hokd hzz hA0) 0 (gZl gL_law_X3_bind) rfl (by decide +kernel) ⟨Nat.le_of_ble_eq_true rfl, Nat.le_of_ble_eq_true rfl⟩ hK0 hV0 hA hS hm.cmo rfl rfl rfl hl.1 rfl (Nat.le_of_ble_eq_true rfl) ⟨by show _ ≤ 600130; omega, by show _ ≤ 7301080; omega⟩ dL_law_293 (fun ro hp2 H locs hP1 hV0 hA0 hS => ?_)
  obtain ⟨rfl, ⟨dk2, lvl2, row2, hm2⟩, hE3⟩ := hP1
  replace hw9 := hE3 _ _ rfl hw9
  replace hC := hC.mvX hE3
  have hX2 := G_mono (tb2 := tb + 1) (mb2 := mb + 320) (gb2 := gb + 5) (G_bind hg hnk hvk hokd hzz hC hm2) (by omega) (by omega) (by omega)
  refine lv_iload hx hb dL_law_296 (lv_at hl 0 rfl) ?_
  refine lv_icmp_ne (tgt := 350) hx hb dL_law_298 (by decide) (fun c_298 => absurd hq9 c_298) (fun c_298 => ?_)
  refine lv_aload_n hx hb dL_law_301 rfl (lv_at hl 9 rfl) ?_
  refine lv_iconst (v := nI 4) hx hb dL_law_302 (by decide) ?_
  refine h_rdV (As := [.int (nI 4)]) (rest := []) hF (c_X2_cnt l G hp2 ad (bfS S) hC 4 (by omega) (((sV S 0) + nI (bfM S))) (bfV S)) 1 (gZl gL_law_X2_count) rfl (by decide +kernel) ⟨Nat.le_of_ble_eq_true rfl, Nat.le_of_ble_eq_true rfl⟩ hK0 hV0 hC.xo rfl rfl rfl hl.1 rfl (Nat.le_of_ble_eq_true rfl) (by show _ ≤ 600130; omega) (by show _ ≤ 7301080; omega) dL_law_303 ?_
  refine lv_iload hx hb dL_law_306 (lv_at hl 3 rfl) ?_
  refine lv_iload hx hb dL_law_308 (lv_at hl 0 rfl) ?_
  refine lv_iadd hx hb dL_law_310 ?_
  refine lv_icmp_ne (tgt := 350) hx hb dL_law_311 (by decide) (fun c_311 => absurd rfl c_311) (fun c_311 => ?_)
  refine lv_iload hx hb dL_law_314 (lv_at hl 0 rfl) ?_
  refine lv_iload hx hb dL_law_316 (lv_at hl 1 rfl) ?_
  refine h_icmp_lt (a := bfM S) (b := szR (sF S 0)) (tgt := 350) hx hb dL_law_318 (by decide) (by omega) (by omega) (fun c_318 => absurd hbe (by omega)) (fun c_318 => ?_)
  refine lv_iload hx hb dL_law_321 (lv_at hl 1 rfl) ?_
  refine h_if_ne (a := szR (sF S 0)) (tgt := 342) hx hb dL_law_323 (by decide) (by omega) (fun c_323 => ?_) (fun c_323 => absurd c_323 hz9)
  refine lv_aload_n hx hb dL_law_342 rfl (lv_at hl 9 rfl) ?_
  refine lv_iconst (v := nI 0) hx hb dL_law_343 (by decide) ?_
  refine h_rdV (As := [.int (nI 0)]) (rest := []) hF (c_X2_cnt l G hp2 ad (bfS S) hC 0 (by omega) (nI 0) (by show nI (szR (sF (bfS S) 0)) = _; rw [hlk.2.2.1, emR_sz])) 1 (gZl gL_law_X2_count) rfl (by decide +kernel) ⟨Nat.le_of_ble_eq_true rfl, Nat.le_of_ble_eq_true rfl⟩ hK0 hV0 hC.xo rfl rfl rfl hl.1 rfl (Nat.le_of_ble_eq_true rfl) (by show _ ≤ 600130; omega) (by show _ ≤ 7301080; omega) dL_law_344 ?_
  refine h_if_eq (a := 0) (tgt := 352) hx hb dL_law_347 (by decide) (by omega) (fun c_347 => ?_) (fun c_347 => absurd rfl c_347)
  refine lv_goto (tgt := 490) hx hb dL_law_352 (by decide) ?_
  refine W.widen (k := k + (2 + stC (cmB (vw S 0) 0 (sF S 0)) 4)) (n := 65 * (k + (2 + stC (cmB (vw S 0) 0 (sF S 0)) 4))) (by omega) (by omega) ?_
  have hgk := hgk
  exact lw_490 hL C0 hK0 hA hbA ht hX2 hw9 (fun n hn => (hF9 n hn).trans (wv_bf hnk hI hz9 hn).symm) (by omega) (by omega) hV0 (lv_sub hl [7, 5, 8, 9, 10] rfl) (kk (k + (2 + stC (cmB (vw S 0) 0 (sF S 0)) 4)) _ H locs ⟨_, hX2, by omega⟩ hV0 hA0 hS)

set_option maxHeartbeats 2000000 in
set_option maxRecDepth 100000 in
theorem lw_c1N {p : Program} {l : Launch} {e : Env} {s : State} {m : MethodId} {below : List Frame} {meth : Method} {c : Code} {b L : Nat} {xs : Nat → Int32} (hL : L ≤ 260) (C0 : lw_At p s m meth c b L xs) {G : hG} (hK0 : hK G s) {A : Nat → Prop} (hA : ∀ q : Nat, s.heap.size ≤ q → A q) (hbA : ¬ A b) {ad : Nat → Nat} {mo lv tb mb gb : Nat} {wa : Nat} {t : Nat} (ht : t < 30) {Q : State → Prop} {S : CS} {hp : HP} {tm : Nat} {δ : TG} {ω : TS} (hg : gI tb mb gb S tm δ ω) (htb : tb < 1000) (hmb : mb ≤ 100000) (hgb : gb ≤ 100000) (hC : cW ad S hp) {dk : Nat} {lvl : Nat → Nat} {row : Nat → Nat → Nat} (hm : sA mo dk lv lvl row (sR S) tm (sD S) (sF S 0) δ (vw S 0) ω hp) {F9 : Nat → Int32} (hw9 : hp wa = some (eI 64 F9)) (hwk : ∀ key, key < 61 → wa ≠ ad key) (hF9 : ∀ n, n < 64 → F9 n = wv S n) {n9 : Nat} (hn9 : n9 < 64) {x : Int32} {H : Heap} {locs : List Loc} {k N9 : Nat} (hk : k + gS S + 600 ≤ N9) (hN : N9 ≤ 112000) (hV0 : hV G hp H) (hA0 : hIn A hp) (hS : va_S A s.heap H locs) {ls : Array Slot} (hl : lv_has ls 15 [(8, .int (sG S 0)), (7, .int (sV S 0)), (6, .int (nI n9)), (5, .ref wa), (4, .int x), (3, .int (nI t)), (2, .ref mo), (1, .ref (aX ad)), (0, .ref b)]) (kk : ∀ (k2 : Nat) (hp' : HP) (H : Heap) (locs : List Loc), (∃ S2, gX ad mo lv (tb + 1) (mb + 320) (gb + 5) S2 hp' ∧ k2 + gS S2 ≤ N9) → hV G hp' H → hIn A hp' → va_S A s.heap H locs → ∀ ls : Array Slot, lv_has ls 15 [(3, .int (nI (t + 1))), (2, .ref mo), (1, .ref (aX ad)), (0, .ref b)] → W p l e room_1 s m #[Value.ref b] below meth c H locs k2 (65 * k2) Q (F0 m 22 ls [])) (hz9 : szR (sF S 0) = 0) : W p l e room_1 s m #[Value.ref b] below meth c H locs k (65 * k) Q (F0 m 279 ls []) := by
  obtain ⟨hx, hb, hr, hml, hown, hts, hX, hbl, hlocks, hgv⟩ := id C0
  have hF : CallFix p m c cL_law 15 s #[Value.ref b] wsLw RL := ⟨hx, hb, hml, hown, fun w h => hts w (wsLw_in w h)⟩
  obtain ⟨hI, hoT, hoD, htd, htg, ⟨r9, hr1, hr2, hr3⟩, hmv, hmg, htm9⟩ := id hg
  have hnk := hC.ok.n
  have hvk := hm.v
  have hokd : okR (sF S 0) := hC.ok.1 0
  have hI2 : ∀ l, l < 4 → bN (vw S 0) l ≤ 2 := fun l hl => hI l hl
  have hzd := szR_le (sF S 0)
  have hn := hm.le
  refine lv_aload_n hx hb dL_law_279 rfl (lv_at hl 7 rfl) ?_
  refine lv_iconst (v := nI 0) hx hb dL_law_280 (by decide) ?_
  refine h_rdV (As := [.int (nI 0)]) (rest := []) hF (c_X2_cnt l G hp ad S hC 0 (by omega) (nI (szR (sF S 0))) rfl) 1 (gZl gL_law_X2_count) rfl (by decide +kernel) ⟨Nat.le_of_ble_eq_true rfl, Nat.le_of_ble_eq_true rfl⟩ hK0 hV0 hC.xo rfl rfl rfl hl.1 rfl (Nat.le_of_ble_eq_true rfl) (by show _ ≤ 600130; omega) (by show _ ≤ 7301080; omega) dL_law_281 ?_
  refine lv_istore (lv' := [(9, .int (nI (szR (sF S 0)))), (8, .int (sG S 0)), (7, .int (sV S 0)), (6, .int (nI n9)), (5, .ref wa), (4, .int x), (3, .int (nI t)), (2, .ref mo), (1, .ref (aX ad)), (0, .ref b)]) hx hb dL_law_284 hl (by decide) rfl (fun ls hl => ?_)
  refine lv_aload_n hx hb dL_law_286 rfl (lv_at hl 8 rfl) ?_
  refine h_wrV (As := []) (rest := []) hF (c_X2_bind l G A hp ad S hC hI  hA0) 0 (gZl gL_law_X2_bind) rfl (by decide +kernel) ⟨Nat.le_of_ble_eq_true rfl, Nat.le_of_ble_eq_true rfl⟩ hK0 hV0 hA hS hC.xo rfl rfl rfl hl.1 rfl (Nat.le_of_ble_eq_true rfl) ⟨by show _ ≤ 600130; omega, by show _ ≤ 7301080; omega⟩ dL_law_287 (fun ro hp1 H locs hP1 hV0 hA0 hS => ?_)
  rw [if_pos hz9, if_pos hz9] at hP1
  obtain ⟨rfl, hT⟩ := hP1
  replace hm := hm.ms (cT.skw hC hT)
  replace hw9 := (hT.2 wa hwk).trans hw9
  have hC := hT.1
  have hn := hm.le
  refine lv_istore (lv' := [(10, .int 0), (9, .int (nI (szR (sF S 0)))), (8, .int (sG S 0)), (7, .int (sV S 0)), (6, .int (nI n9)), (5, .ref wa), (4, .int x), (3, .int (nI t)), (2, .ref mo), (1, .ref (aX ad)), (0, .ref b)]) hx hb dL_law_290 hl (by decide) rfl (fun ls hl => ?_)
  refine lv_aload_n hx hb dL_law_292 rfl (lv_at hl 8 rfl) ?_
  refine h_rdV (As := []) (rest := []) hF (c_X3_bindN l G hp1 mo dk lv lvl row (sR S) tm (sD S) (sF S 0) δ (vw S 0) ω hm hz9) 0 (gZl gL_law_X3_bind) rfl (by decide +kernel) ⟨Nat.le_of_ble_eq_true rfl, Nat.le_of_ble_eq_true rfl⟩ hK0 hV0 hm.cmo rfl rfl rfl hl.1 rfl (Nat.le_of_ble_eq_true rfl) (by show _ ≤ 600130; omega) (by show _ ≤ 7301080; omega) dL_law_293 ?_
  have hX2 := G_mono (tb2 := tb + 1) (mb2 := mb + 320) (gb2 := gb + 5) (G_same hg hC hm) (by omega) (by omega) (by omega)
  refine lv_iload hx hb dL_law_296 (lv_at hl 0 rfl) ?_
  refine lv_icmp_ne (tgt := 350) hx hb dL_law_298 (by decide) (fun c_298 => absurd (Int32.sub_self _) c_298) (fun c_298 => ?_)
  refine lv_aload_n hx hb dL_law_301 rfl (lv_at hl 9 rfl) ?_
  refine lv_iconst (v := nI 4) hx hb dL_law_302 (by decide) ?_
  refine h_rdV (As := [.int (nI 4)]) (rest := []) hF (c_X2_cnt l G hp1 ad S hC 4 (by omega) ((sV S 0)) rfl) 1 (gZl gL_law_X2_count) rfl (by decide +kernel) ⟨Nat.le_of_ble_eq_true rfl, Nat.le_of_ble_eq_true rfl⟩ hK0 hV0 hC.xo rfl rfl rfl hl.1 rfl (Nat.le_of_ble_eq_true rfl) (by show _ ≤ 600130; omega) (by show _ ≤ 7301080; omega) dL_law_303 ?_
  refine lv_iload hx hb dL_law_306 (lv_at hl 3 rfl) ?_
  refine lv_iload hx hb dL_law_308 (lv_at hl 0 rfl) ?_
  refine lv_iadd hx hb dL_law_310 ?_
  refine lv_icmp_ne (tgt := 350) hx hb dL_law_311 (by decide) (fun c_311 => absurd (Int32.add_zero _).symm c_311) (fun c_311 => ?_)
  refine lv_iload hx hb dL_law_314 (lv_at hl 0 rfl) ?_
  refine lv_iload hx hb dL_law_316 (lv_at hl 1 rfl) ?_
  refine lv_icmp_lt (tgt := 350) hx hb dL_law_318 (by decide) (fun c_318 => absurd c_318 (by rw [hz9]; decide)) (fun c_318 => ?_)
  refine lv_iload hx hb dL_law_321 (lv_at hl 1 rfl) ?_
  refine h_if_ne (a := szR (sF S 0)) (tgt := 342) hx hb dL_law_323 (by decide) (by omega) (fun c_323 => absurd hz9 c_323) (fun c_323 => ?_)
  refine lv_iload hx hb dL_law_326 (lv_at hl 0 rfl) ?_
  refine lv_if_ne (tgt := 350) hx hb dL_law_328 (by decide) (fun c_328 => absurd rfl c_328) (fun c_328 => ?_)
  refine lv_aload_n hx hb dL_law_331 rfl (lv_at hl 9 rfl) ?_
  refine lv_bipush (v := nI 6) hx hb dL_law_332 (by decide) ?_
  refine h_rdV (As := [.int (nI 6)]) (rest := []) hF (c_X2_cnt l G hp1 ad S hC 6 (by omega) ((sG S 0)) rfl) 1 (gZl gL_law_X2_count) rfl (by decide +kernel) ⟨Nat.le_of_ble_eq_true rfl, Nat.le_of_ble_eq_true rfl⟩ hK0 hV0 hC.xo rfl rfl rfl hl.1 rfl (Nat.le_of_ble_eq_true rfl) (by show _ ≤ 600130; omega) (by show _ ≤ 7301080; omega) dL_law_334 ?_
  refine lv_iload hx hb dL_law_337 (lv_at hl 2 rfl) ?_
  refine lv_icmp_ne (tgt := 350) hx hb dL_law_339 (by decide) (fun c_339 => absurd rfl c_339) (fun c_339 => ?_)
  refine lv_aload_n hx hb dL_law_342 rfl (lv_at hl 9 rfl) ?_
  refine lv_iconst (v := nI 0) hx hb dL_law_343 (by decide) ?_
  refine h_rdV (As := [.int (nI 0)]) (rest := []) hF (c_X2_cnt l G hp1 ad S hC 0 (by omega) (nI (szR (sF S 0))) rfl) 1 (gZl gL_law_X2_count) rfl (by decide +kernel) ⟨Nat.le_of_ble_eq_true rfl, Nat.le_of_ble_eq_true rfl⟩ hK0 hV0 hC.xo rfl rfl rfl hl.1 rfl (Nat.le_of_ble_eq_true rfl) (by show _ ≤ 600130; omega) (by show _ ≤ 7301080; omega) dL_law_344 ?_
  refine h_if_eq (a := szR (sF S 0)) (tgt := 352) hx hb dL_law_347 (by decide) (by omega) (fun c_347 => ?_) (fun c_347 => absurd hz9 c_347)
  refine lv_goto (tgt := 490) hx hb dL_law_352 (by decide) ?_
  refine W.widen (k := k + (0)) (n := 65 * (k + (0))) (by omega) (by omega) ?_
  have hgk := hk
  exact lw_490 hL C0 hK0 hA hbA ht hX2 hw9 hF9 (by omega) (by omega) hV0 (lv_sub hl [7, 5, 8, 9, 10] rfl) (kk (k + (0)) _ H locs ⟨_, hX2, by omega⟩ hV0 hA0 hS)
