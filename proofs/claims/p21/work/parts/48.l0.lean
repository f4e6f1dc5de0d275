/-! the law: a slip written -/
set_option maxHeartbeats 2000000 in
set_option maxRecDepth 100000 in
theorem lw_c0sN {p : Program} {l : Launch} {e : Env} {s : State} {m : MethodId} {below : List Frame} {meth : Method} {c : Code} {b L : Nat} {xs : Nat → Int32} (hL : L ≤ 260) (C0 : lw_At p s m meth c b L xs) {G : hG} (hK0 : hK G s) {A : Nat → Prop} (hA : ∀ q : Nat, s.heap.size ≤ q → A q) (hbA : ¬ A b) {ad : Nat → Nat} {mo lv tb mb gb : Nat} {wa : Nat} {t : Nat} (ht : t < 30) {Q : State → Prop} {S : CS} {hp : HP} {tm : Nat} {δ : TG} {ω : TS} (hg : gI tb mb gb S tm δ ω) (htb : tb < 1000) (hmb : mb ≤ 100000) (hgb : gb ≤ 100000) (hC : cW ad S hp) {dk : Nat} {lvl : Nat → Nat} {row : Nat → Nat → Nat} (hm : sA mo dk lv lvl row (sR S) tm (sD S) (sF S 0) δ (vw S 0) ω hp) {F9 : Nat → Int32} (hw9 : hp wa = some (eI 64 F9)) (hwk : ∀ key, key < 61 → wa ≠ ad key) (hF9 : ∀ n, n < 64 → F9 n = wv S n) {n9 : Nat} (hn9 : n9 < 64) {x : Int32} {H : Heap} {locs : List Loc} {k N9 : Nat} (hk : k + gS S + 600 ≤ N9) (hN : N9 ≤ 112000) (hV0 : hV G hp H) (hA0 : hIn A hp) (hS : va_S A s.heap H locs) {ls : Array Slot} (hl : lv_has ls 15 [(8, .int (sG S 0)), (7, .int (sV S 0)), (6, .int (nI n9)), (5, .ref wa), (4, .int x), (3, .int (nI t)), (2, .ref mo), (1, .ref (aX ad)), (0, .ref b)]) (kk : ∀ (k2 : Nat) (hp' : HP) (H : Heap) (locs : List Loc), (∃ S2, gX ad mo lv (tb + 1) (mb + 320) (gb + 5) S2 hp' ∧ k2 + gS S2 ≤ N9) → hV G hp' H → hIn A hp' → va_S A s.heap H locs → ∀ ls : Array Slot, lv_has ls 15 [(3, .int (nI (t + 1))), (2, .ref mo), (1, .ref (aX ad)), (0, .ref b)] → W p l e room_1 s m #[Value.ref b] below meth c H locs k2 (65 * k2) Q (F0 m 22 ls [])) (hs9 : blN (x >>> (nI 4 &&& 31)) 3 = 0) (hlt9 : nI (szR (upd (sF S 0) n9 (-1))) < sR S) : W p l e room_1 s m #[Value.ref b] below meth c H locs k (65 * k) Q (F0 m 128 ls []) := by
  obtain ⟨hx, hb, hr, hml, hown, hts, hX, hbl, hlocks, hgv⟩ := id C0
  have hF : CallFix p m c cL_law 15 s #[Value.ref b] wsLw RL := ⟨hx, hb, hml, hown, fun w h => hts w (wsLw_in w h)⟩
  obtain ⟨hI, hoT, hoD, htd, htg, ⟨r9, hr1, hr2, hr3⟩, hmv, hmg, htm9⟩ := id hg
  have hnk := hC.ok.n
  have hvk := hm.v
  have hokd : okR (sF S 0) := hC.ok.1 0
  have hI2 : ∀ l, l < 4 → bN (vw S 0) l ≤ 2 := fun l hl => hI l hl
  have hzd := szR_le (sF S 0)
  have hn := hm.le
  have hv2 : (-1 : Int32) ≠ -2 := by decide
  have hok9 : okR (upd (sF S 0) n9 (-1)) := okR_put hokd (by omega) (Or.inl rfl)
  have hz9 : 0 < szR (upd (sF S 0) n9 (-1)) := szR_put (by omega) hv2
  have hzu := szR_le (upd (sF S 0) n9 (-1))
  have hgk := K_putN (S := S) (x := n9) (v := -1) (by omega) hv2
  have hvk9 : (-1 : Int32) = -1 ∨ ∃ w : Nat, w < 100 ∧ (-1 : Int32) = nI w := (Or.inl rfl)
  have hF2 : ∀ n, n < 64 → upd F9 n9 (-1) n = wv (wrS S n9 (-1)) n := fun n hn => by
    rw [wv_put hvk9 hv2]
    unfold upd
    by_cases e : n = n9
    · rw [if_pos e, if_pos e]
    · rw [if_neg e, if_neg e]; exact hF9 n hn
  refine lv_iload hx hb dL_law_128 (lv_at hl 4 rfl) ?_
  refine lv_iconst (v := nI 4) hx hb dL_law_130 (by decide) ?_
  refine lv_ishr hx hb dL_law_131 ?_
  refine lv_iconst (v := nI 3) hx hb dL_law_132 (by decide) ?_
  have hbl133 : blN ((x >>> (nI 4 &&& 31))) 3 < 3 := bl_lt _ (by omega)
  refine h_rdS (As := [.int (x >>> (nI 4 &&& 31)), .int (nI 3)]) (rest := []) hF (c_L_below l G hp ((x >>> (nI 4 &&& 31))) 3 (by omega) (by omega)) 2 (gZl gL_law_L_below) rfl (by decide +kernel) ⟨Nat.le_of_ble_eq_true rfl, Nat.le_of_ble_eq_true rfl⟩ hK0 hV0 rfl hl.1 rfl (Nat.le_of_ble_eq_true rfl) (by show _ ≤ 600130; omega) (by show _ ≤ 7301080; omega) dL_law_133 ?_
  refine h_if_ne (a := blN ((x >>> (nI 4 &&& 31))) 3) (tgt := 143) hx hb dL_law_136 (by decide) (by omega) (fun c_136 => absurd hs9 c_136) (fun c_136 => ?_)
  refine lv_iconst (v := nI 1) hx hb dL_law_139 (by decide) ?_
  refine lv_goto (tgt := 144) hx hb dL_law_140 (by decide) ?_
  refine lv_istore (lv' := [(9, .int (nI 1)), (8, .int (sG S 0)), (7, .int (sV S 0)), (6, .int (nI n9)), (5, .ref wa), (4, .int x), (3, .int (nI t)), (2, .ref mo), (1, .ref (aX ad)), (0, .ref b)]) hx hb dL_law_144 hl (by decide) rfl (fun ls hl => ?_)
  refine lv_iload hx hb dL_law_146 (lv_at hl 0 rfl) ?_
  refine h_if_eq (a := 1) (tgt := 155) hx hb dL_law_148 (by decide) (by omega) (fun c_148 => absurd c_148 (by decide)) (fun c_148 => ?_)
  refine lv_iconst (v := (-1)) hx hb dL_law_151 (by decide) ?_
  refine lv_goto (tgt := 164) hx hb dL_law_152 (by decide) ?_
  refine lv_istore (lv' := [(10, .int (-1)), (9, .int (nI 1)), (8, .int (sG S 0)), (7, .int (sV S 0)), (6, .int (nI n9)), (5, .ref wa), (4, .int x), (3, .int (nI t)), (2, .ref mo), (1, .ref (aX ad)), (0, .ref b)]) hx hb dL_law_164 hl (by decide) rfl (fun ls hl => ?_)
  refine lv_iload hx hb dL_law_166 (lv_at hl 1 rfl) ?_
  refine h_if_eq (a := 1) (tgt := 180) hx hb dL_law_168 (by decide) (by omega) (fun c_168 => absurd c_168 (by decide)) (fun c_168 => ?_)
  refine lv_aload_n hx hb dL_law_171 rfl (lv_at hl 9 rfl) ?_
  refine lv_iload hx hb dL_law_172 (lv_at hl 4 rfl) ?_
  refine h_wrV (As := [.int (nI n9)]) (rest := []) hF (c_X2_strike l G A hp ad S hC hI n9 (by omega) hA0) 1 (gZl gL_law_X2_strike) rfl (by decide +kernel) ⟨Nat.le_of_ble_eq_true rfl, Nat.le_of_ble_eq_true rfl⟩ hK0 hV0 hA hS hC.xo rfl rfl rfl hl.1 rfl (Nat.le_of_ble_eq_true rfl) ⟨by show _ ≤ 600130; omega, by show _ ≤ 7301080; omega⟩ dL_law_174 (fun ro hp1 H locs hP1 hV0 hA0 hS => ?_)
  have hltw : nI (szR (sF (wrS S n9 (-1)) 0)) < sR S := by rw [w_sF]; exact hlt9
  rw [if_pos hltw, if_pos hltw] at hP1
  obtain ⟨rfl, hT⟩ := hP1
  replace hm := hm.ms (cT.skw hC hT)
  replace hw9 := (hT.2 wa hwk).trans hw9
  have hC := hT.1
  have hn := hm.le
  refine lv_goto (tgt := 188) hx hb dL_law_177 (by decide) ?_
  refine lv_istore (lv' := [(11, .int (bI (false))), (10, .int (-1)), (9, .int (nI 1)), (8, .int (sG S 0)), (7, .int (sV S 0)), (6, .int (nI n9)), (5, .ref wa), (4, .int x), (3, .int (nI t)), (2, .ref mo), (1, .ref (aX ad)), (0, .ref b)]) hx hb dL_law_188 hl (by decide) rfl (fun ls hl => ?_)
  refine lv_aload_n hx hb dL_law_190 rfl (lv_at hl 9 rfl) ?_
  refine lv_iload hx hb dL_law_191 (lv_at hl 5 rfl) ?_
  refine lv_iload hx hb dL_law_193 (lv_at hl 1 rfl) ?_
  refine h_wrV (As := [.int (nI n9), .int (-1)]) (rest := []) hF (c_X3_putN l G A hp1 mo dk lv lvl row (sR S) tm (sD S) (sF S 0) δ (vw S 0) ω hm hI2 hoT hoD hokd htd htg (by omega) n9 (by omega) ((-1)) (Or.inl rfl) hlt9 hA0) 2 (gZl gL_law_X3_put) rfl (by decide +kernel) ⟨Nat.le_of_ble_eq_true rfl, Nat.le_of_ble_eq_true rfl⟩ hK0 hV0 hA hS hm.cmo rfl rfl rfl hl.1 rfl (Nat.le_of_ble_eq_true rfl) ⟨by show _ ≤ 600130; omega, by show _ ≤ 7301080; omega⟩ dL_law_195 (fun ro hp2 H locs hP1 hV0 hA0 hS => ?_)
  obtain ⟨rfl, ⟨q1, dk2, lvl2, row2, hm2⟩, hE3⟩ := hP1
  replace hw9 := hE3 _ _ rfl hw9
  replace hC := hC.mvX hE3
  have hX2 := G_mono (tb2 := tb + 1) (mb2 := mb + 320) (gb2 := gb + 5) (G_putN hg hv2 hC hm2) (by omega) (by omega) (by omega)
  refine lv_iload hx hb dL_law_198 (lv_at hl 0 rfl) ?_
  refine lv_icmp_eq (tgt := 205) hx hb dL_law_200 (by decide) (fun c_200 => ?_) (fun c_200 => absurd rfl c_200)
  refine lv_aload hx hb dL_law_205 (lv_at hl 6 rfl) ?_
  refine lv_iload hx hb dL_law_207 (lv_at hl 5 rfl) ?_
  refine lv_iload hx hb dL_law_209 (lv_at hl 1 rfl) ?_
  refine h_iast (i := n9) (x := (-1)) hx hb hK0 hV0 hA0 hS hw9 (by omega) (by omega) dL_law_211 (fun H locs hV0 hA0 hS => ?_)
  replace hX2 := hX2.pq hw9 hwk (eI 64 (upd F9 n9 ((-1))))
  replace hC := hC.pq hwk (eI 64 (upd F9 n9 ((-1))))
  replace hw9 : hput hp2 wa (eI 64 (upd F9 n9 ((-1)))) wa = some (eI 64 (upd F9 n9 ((-1)))) := hput_s _ _ _
  replace hV0 : hV G (hput hp2 wa (eI 64 (upd F9 n9 ((-1))))) H := hV0
  replace hA0 : hIn A (hput hp2 wa (eI 64 (upd F9 n9 ((-1))))) := hA0
  generalize hput hp2 wa (eI 64 (upd F9 n9 ((-1)))) = hp3 at hV0 hA0 hC hX2 hw9
  refine lv_iload hx hb dL_law_212 (lv_at hl 0 rfl) ?_
  refine h_if_neB (tgt := 244) hx hb dL_law_214 (by decide) (fun c_214 => absurd c_214 (by decide)) (fun c_214 => ?_)
  refine lv_aload_n hx hb dL_law_217 rfl (lv_at hl 10 rfl) ?_
  refine lv_iload hx hb dL_law_218 (lv_at hl 5 rfl) ?_
  refine h_rdV (As := [.int (nI n9)]) (rest := []) hF (c_X2_dts l G hp3 ad (wrS S n9 (-1)) hC n9 (by omega) (0) (dts_put hv2)) 1 (gZl gL_law_X2_detours) rfl (by decide +kernel) ⟨Nat.le_of_ble_eq_true rfl, Nat.le_of_ble_eq_true rfl⟩ hK0 hV0 hC.xo rfl rfl rfl hl.1 rfl (Nat.le_of_ble_eq_true rfl) (by show _ ≤ 600130; omega) (by show _ ≤ 7301080; omega) dL_law_220 ?_
  refine h_if_ne (a := 0) (tgt := 267) hx hb dL_law_223 (by decide) (by omega) (fun c_223 => absurd rfl c_223) (fun c_223 => ?_)
  refine lv_aload_n hx hb dL_law_226 rfl (lv_at hl 10 rfl) ?_
  refine lv_iconst (v := nI 4) hx hb dL_law_227 (by decide) ?_
  refine h_rdV (As := [.int (nI 4)]) (rest := []) hF (c_X2_cnt l G hp3 ad (wrS S n9 (-1)) hC 4 (by omega) ((sV S 0)) rfl) 1 (gZl gL_law_X2_count) rfl (by decide +kernel) ⟨Nat.le_of_ble_eq_true rfl, Nat.le_of_ble_eq_true rfl⟩ hK0 hV0 hC.xo rfl rfl rfl hl.1 rfl (Nat.le_of_ble_eq_true rfl) (by show _ ≤ 600130; omega) (by show _ ≤ 7301080; omega) dL_law_228 ?_
  refine lv_iload hx hb dL_law_231 (lv_at hl 4 rfl) ?_
  refine lv_icmp_ne (tgt := 267) hx hb dL_law_233 (by decide) (fun c_233 => absurd rfl c_233) (fun c_233 => ?_)
  refine lv_aload_n hx hb dL_law_236 rfl (lv_at hl 10 rfl) ?_
  refine lv_iconst (v := nI 0) hx hb dL_law_237 (by decide) ?_
  refine h_rdV (As := [.int (nI 0)]) (rest := []) hF (c_X2_cnt l G hp3 ad (wrS S n9 (-1)) hC 0 (by omega) (nI (szR (upd (sF S 0) n9 (-1)))) (by show nI (szR (sF (wrS S n9 (-1)) 0)) = _; rw [w_sF])) 1 (gZl gL_law_X2_count) rfl (by decide +kernel) ⟨Nat.le_of_ble_eq_true rfl, Nat.le_of_ble_eq_true rfl⟩ hK0 hV0 hC.xo rfl rfl rfl hl.1 rfl (Nat.le_of_ble_eq_true rfl) (by show _ ≤ 600130; omega) (by show _ ≤ 7301080; omega) dL_law_238 ?_
  refine h_if_eq (a := szR (upd (sF S 0) n9 (-1))) (tgt := 267) hx hb dL_law_241 (by decide) (by omega) (fun c_241 => absurd c_241 (by omega)) (fun c_241 => ?_)
  refine lv_iload hx hb dL_law_244 (lv_at hl 0 rfl) ?_
  refine h_if_eqB (tgt := 269) hx hb dL_law_246 (by decide) (fun c_246 => ?_) (fun c_246 => absurd c_246 (by decide))
  refine lv_goto (tgt := 490) hx hb dL_law_269 (by decide) ?_
  refine W.widen (k := k + (3)) (n := 65 * (k + (3))) (by omega) (by omega) ?_
  have hgk := hgk
  exact lw_490 hL C0 hK0 hA hbA ht hX2 hw9 hF2 (by omega) (by omega) hV0 (lv_sub hl [8, 6, 9, 10, 11] rfl) (kk (k + (3)) _ H locs ⟨_, hX2, by omega⟩ hV0 hA0 hS)

set_option maxHeartbeats 2000000 in
set_option maxRecDepth 100000 in
theorem lw_c0sB {p : Program} {l : Launch} {e : Env} {s : State} {m : MethodId} {below : List Frame} {meth : Method} {c : Code} {b L : Nat} {xs : Nat → Int32} (hL : L ≤ 260) (C0 : lw_At p s m meth c b L xs) {G : hG} (hK0 : hK G s) {A : Nat → Prop} (hA : ∀ q : Nat, s.heap.size ≤ q → A q) (hbA : ¬ A b) {ad : Nat → Nat} {mo lv tb mb gb : Nat} {wa : Nat} {t : Nat} (ht : t < 30) {Q : State → Prop} {S : CS} {hp : HP} {tm : Nat} {δ : TG} {ω : TS} (hg : gI tb mb gb S tm δ ω) (htb : tb < 1000) (hmb : mb ≤ 100000) (hgb : gb ≤ 100000) (hC : cW ad S hp) {dk : Nat} {lvl : Nat → Nat} {row : Nat → Nat → Nat} (hm : sA mo dk lv lvl row (sR S) tm (sD S) (sF S 0) δ (vw S 0) ω hp) {F9 : Nat → Int32} (hw9 : hp wa = some (eI 64 F9)) (hwk : ∀ key, key < 61 → wa ≠ ad key) (hF9 : ∀ n, n < 64 → F9 n = wv S n) {n9 : Nat} (hn9 : n9 < 64) {x : Int32} {H : Heap} {locs : List Loc} {k N9 : Nat} (hk : k + gS S + 600 ≤ N9) (hN : N9 ≤ 112000) (hV0 : hV G hp H) (hA0 : hIn A hp) (hS : va_S A s.heap H locs) {ls : Array Slot} (hl : lv_has ls 15 [(8, .int (sG S 0)), (7, .int (sV S 0)), (6, .int (nI n9)), (5, .ref wa), (4, .int x), (3, .int (nI t)), (2, .ref mo), (1, .ref (aX ad)), (0, .ref b)]) (kk : ∀ (k2 : Nat) (hp' : HP) (H : Heap) (locs : List Loc), (∃ S2, gX ad mo lv (tb + 1) (mb + 320) (gb + 5) S2 hp' ∧ k2 + gS S2 ≤ N9) → hV G hp' H → hIn A hp' → va_S A s.heap H locs → ∀ ls : Array Slot, lv_has ls 15 [(3, .int (nI (t + 1))), (2, .ref mo), (1, .ref (aX ad)), (0, .ref b)] → W p l e room_1 s m #[Value.ref b] below meth c H locs k2 (65 * k2) Q (F0 m 22 ls [])) (hs9 : blN (x >>> (nI 4 &&& 31)) 3 = 0) (hlt9 : ¬ nI (szR (upd (sF S 0) n9 (-1))) < sR S) : W p l e room_1 s m #[Value.ref b] below meth c H locs k (65 * k) Q (F0 m 128 ls []) := by
  obtain ⟨hx, hb, hr, hml, hown, hts, hX, hbl, hlocks, hgv⟩ := id C0
  have hF : CallFix p m c cL_law 15 s #[Value.ref b] wsLw RL := ⟨hx, hb, hml, hown, fun w h => hts w (wsLw_in w h)⟩
  obtain ⟨hI, hoT, hoD, htd, htg, ⟨r9, hr1, hr2, hr3⟩, hmv, hmg, htm9⟩ := id hg
  have hnk := hC.ok.n
  have hvk := hm.v
  have hokd : okR (sF S 0) := hC.ok.1 0
  have hI2 : ∀ l, l < 4 → bN (vw S 0) l ≤ 2 := fun l hl => hI l hl
  have hzd := szR_le (sF S 0)
  have hn := hm.le
  have hv2 : (-1 : Int32) ≠ -2 := by decide
  have hok9 : okR (upd (sF S 0) n9 (-1)) := okR_put hokd (by omega) (Or.inl rfl)
  have hz9 : 0 < szR (upd (sF S 0) n9 (-1)) := szR_put (by omega) hv2
  have hzu := szR_le (upd (sF S 0) n9 (-1))
  have hgk := K_putB (S := S) (x := n9) (v := -1) hnk hI hvk hok9 (by omega) hv2
  have hzw : ¬ szR (sF (wrS S n9 (-1)) 0) = 0 := by rw [w_sF]; omega
  have hlk := lk_bf (S := wrS S n9 (-1)) hnk hI hzw
  have hgt : sV S 0 < sV (bfS (wrS S n9 (-1))) 0 := bf_gt (S := wrS S n9 (-1)) (T_put hg (q := 0) hv2) hmb (by omega)
  have hvk9 : (-1 : Int32) = -1 ∨ ∃ w : Nat, w < 100 ∧ (-1 : Int32) = nI w := (Or.inl rfl)
  have hF2 : ∀ n, n < 64 → upd F9 n9 (-1) n = wv (wrS S n9 (-1)) n := fun n hn => by
    rw [wv_put hvk9 hv2]
    unfold upd
    by_cases e : n = n9
    · rw [if_pos e, if_pos e]
    · rw [if_neg e, if_neg e]; exact hF9 n hn
  refine lv_iload hx hb dL_law_128 (lv_at hl 4 rfl) ?_
  refine lv_iconst (v := nI 4) hx hb dL_law_130 (by decide) ?_
  refine lv_ishr hx hb dL_law_131 ?_
  refine lv_iconst (v := nI 3) hx hb dL_law_132 (by decide) ?_
  have hbl133 : blN ((x >>> (nI 4 &&& 31))) 3 < 3 := bl_lt _ (by omega)
  refine h_rdS (As := [.int (x >>> (nI 4 &&& 31)), .int (nI 3)]) (rest := []) hF (c_L_below l G hp ((x >>> (nI 4 &&& 31))) 3 (by omega) (by omega)) 2 (gZl gL_law_L_below) rfl (by decide +kernel) ⟨Nat.le_of_ble_eq_true rfl, Nat.le_of_ble_eq_true rfl⟩ hK0 hV0 rfl hl.1 rfl (Nat.le_of_ble_eq_true rfl) (by show _ ≤ 600130; omega) (by show _ ≤ 7301080; omega) dL_law_133 ?_
  refine h_if_ne (a := blN ((x >>> (nI 4 &&& 31))) 3) (tgt := 143) hx hb dL_law_136 (by decide) (by omega) (fun c_136 => absurd hs9 c_136) (fun c_136 => ?_)
  refine lv_iconst (v := nI 1) hx hb dL_law_139 (by decide) ?_
  refine lv_goto (tgt := 144) hx hb dL_law_140 (by decide) ?_
  refine lv_istore (lv' := [(9, .int (nI 1)), (8, .int (sG S 0)), (7, .int (sV S 0)), (6, .int (nI n9)), (5, .ref wa), (4, .int x), (3, .int (nI t)), (2, .ref mo), (1, .ref (aX ad)), (0, .ref b)]) hx hb dL_law_144 hl (by decide) rfl (fun ls hl => ?_)
  refine lv_iload hx hb dL_law_146 (lv_at hl 0 rfl) ?_
  refine h_if_eq (a := 1) (tgt := 155) hx hb dL_law_148 (by decide) (by omega) (fun c_148 => absurd c_148 (by decide)) (fun c_148 => ?_)
  refine lv_iconst (v := (-1)) hx hb dL_law_151 (by decide) ?_
  refine lv_goto (tgt := 164) hx hb dL_law_152 (by decide) ?_
  refine lv_istore (lv' := [(10, .int (-1)), (9, .int (nI 1)), (8, .int (sG S 0)), (7, .int (sV S 0)), (6, .int (nI n9)), (5, .ref wa), (4, .int x), (3, .int (nI t)), (2, .ref mo), (1, .ref (aX ad)), (0, .ref b)]) hx hb dL_law_164 hl (by decide) rfl (fun ls hl => ?_)
  refine lv_iload hx hb dL_law_166 (lv_at hl 1 rfl) ?_
  refine h_if_eq (a := 1) (tgt := 180) hx hb dL_law_168 (by decide) (by omega) (fun c_168 => absurd c_168 (by decide)) (fun c_168 => ?_)
  refine lv_aload_n hx hb dL_law_171 rfl (lv_at hl 9 rfl) ?_
  refine lv_iload hx hb dL_law_172 (lv_at hl 4 rfl) ?_
  refine h_wrV (As := [.int (nI n9)]) (rest := []) hF (c_X2_strike l G A hp ad S hC hI n9 (by omega) hA0) 1 (gZl gL_law_X2_strike) rfl (by decide +kernel) ⟨Nat.le_of_ble_eq_true rfl, Nat.le_of_ble_eq_true rfl⟩ hK0 hV0 hA hS hC.xo rfl rfl rfl hl.1 rfl (Nat.le_of_ble_eq_true rfl) ⟨by show _ ≤ 600130; omega, by show _ ≤ 7301080; omega⟩ dL_law_174 (fun ro hp1 H locs hP1 hV0 hA0 hS => ?_)
  have hltw : ¬ nI (szR (sF (wrS S n9 (-1)) 0)) < sR S := by rw [w_sF]; exact hlt9
  rw [if_neg hltw, if_neg hltw] at hP1
  obtain ⟨rfl, hT⟩ := hP1
  replace hm := hm.ms (cT.skw hC hT)
  replace hw9 := (hT.2 wa hwk).trans hw9
  have hC := hT.1
  have hn := hm.le
  refine lv_goto (tgt := 188) hx hb dL_law_177 (by decide) ?_
  refine lv_istore (lv' := [(11, .int (bI (true))), (10, .int (-1)), (9, .int (nI 1)), (8, .int (sG S 0)), (7, .int (sV S 0)), (6, .int (nI n9)), (5, .ref wa), (4, .int x), (3, .int (nI t)), (2, .ref mo), (1, .ref (aX ad)), (0, .ref b)]) hx hb dL_law_188 hl (by decide) rfl (fun ls hl => ?_)
  refine lv_aload_n hx hb dL_law_190 rfl (lv_at hl 9 rfl) ?_
  refine lv_iload hx hb dL_law_191 (lv_at hl 5 rfl) ?_
  refine lv_iload hx hb dL_law_193 (lv_at hl 1 rfl) ?_
  refine h_wrV (As := [.int (nI n9), .int (-1)]) (rest := []) hF (c_X3_putB l G A hp1 mo dk lv lvl row (sR S) tm (sD S) (sF S 0) δ (vw S 0) ω hm hI2 hoT hoD hokd htd htg (by omega) n9 (by omega) ((-1)) (Or.inl rfl) hlt9 hA0) 2 (gZl gL_law_X3_put) rfl (by decide +kernel) ⟨Nat.le_of_ble_eq_true rfl, Nat.le_of_ble_eq_true rfl⟩ hK0 hV0 hA hS hm.cmo rfl rfl rfl hl.1 rfl (Nat.le_of_ble_eq_true rfl) ⟨by show _ ≤ 600130; omega, by show _ ≤ 7301080; omega⟩ dL_law_195 (fun ro hp2 H locs hP1 hV0 hA0 hS => ?_)
  obtain ⟨rfl, ⟨q1, dk2, lvl2, row2, hm2⟩, hE3⟩ := hP1
  replace hw9 := hE3 _ _ rfl hw9
  replace hC := hC.mvX hE3
  have hX2 := G_mono (tb2 := tb + 1) (mb2 := mb + 320) (gb2 := gb + 5) (G_putB hg hnk hvk hv2 (by omega) hok9 hC hm2) (by omega) (by omega) (by omega)
  refine lv_iload hx hb dL_law_198 (lv_at hl 0 rfl) ?_
  refine lv_icmp_eq (tgt := 205) hx hb dL_law_200 (by decide) (fun c_200 => ?_) (fun c_200 => absurd rfl c_200)
  refine lv_aload hx hb dL_law_205 (lv_at hl 6 rfl) ?_
  refine lv_iload hx hb dL_law_207 (lv_at hl 5 rfl) ?_
  refine lv_iload hx hb dL_law_209 (lv_at hl 1 rfl) ?_
  refine h_iast (i := n9) (x := (-1)) hx hb hK0 hV0 hA0 hS hw9 (by omega) (by omega) dL_law_211 (fun H locs hV0 hA0 hS => ?_)
  replace hX2 := hX2.pq hw9 hwk (eI 64 (upd F9 n9 ((-1))))
  replace hC := hC.pq hwk (eI 64 (upd F9 n9 ((-1))))
  replace hw9 : hput hp2 wa (eI 64 (upd F9 n9 ((-1)))) wa = some (eI 64 (upd F9 n9 ((-1)))) := hput_s _ _ _
  replace hV0 : hV G (hput hp2 wa (eI 64 (upd F9 n9 ((-1))))) H := hV0
  replace hA0 : hIn A (hput hp2 wa (eI 64 (upd F9 n9 ((-1))))) := hA0
  generalize hput hp2 wa (eI 64 (upd F9 n9 ((-1)))) = hp3 at hV0 hA0 hC hX2 hw9
  refine lv_iload hx hb dL_law_212 (lv_at hl 0 rfl) ?_
  refine h_if_neB (tgt := 244) hx hb dL_law_214 (by decide) (fun c_214 => ?_) (fun c_214 => absurd c_214 (by decide))
  refine lv_iload hx hb dL_law_244 (lv_at hl 0 rfl) ?_
  refine h_if_eqB (tgt := 269) hx hb dL_law_246 (by decide) (fun c_246 => absurd c_246 (by decide)) (fun c_246 => ?_)
  refine lv_aload_n hx hb dL_law_249 rfl (lv_at hl 10 rfl) ?_
  refine lv_iconst (v := nI 0) hx hb dL_law_250 (by decide) ?_
  refine h_rdV (As := [.int (nI 0)]) (rest := []) hF (c_X2_cnt l G hp3 ad (bfS (wrS S n9 (-1))) hC 0 (by omega) (nI 0) (by show nI (szR (sF (bfS (wrS S n9 (-1))) 0)) = _; rw [hlk.2.2.1, emR_sz])) 1 (gZl gL_law_X2_count) rfl (by decide +kernel) ⟨Nat.le_of_ble_eq_true rfl, Nat.le_of_ble_eq_true rfl⟩ hK0 hV0 hC.xo rfl rfl rfl hl.1 rfl (Nat.le_of_ble_eq_true rfl) (by show _ ≤ 600130; omega) (by show _ ≤ 7301080; omega) dL_law_251 ?_
  refine h_if_ne (a := 0) (tgt := 267) hx hb dL_law_254 (by decide) (by omega) (fun c_254 => absurd rfl c_254) (fun c_254 => ?_)
  refine lv_aload_n hx hb dL_law_257 rfl (lv_at hl 10 rfl) ?_
  refine lv_iconst (v := nI 4) hx hb dL_law_258 (by decide) ?_
  refine h_rdV (As := [.int (nI 4)]) (rest := []) hF (c_X2_cnt l G hp3 ad (bfS (wrS S n9 (-1))) hC 4 (by omega) ((sV (bfS (wrS S n9 (-1))) 0)) rfl) 1 (gZl gL_law_X2_count) rfl (by decide +kernel) ⟨Nat.le_of_ble_eq_true rfl, Nat.le_of_ble_eq_true rfl⟩ hK0 hV0 hC.xo rfl rfl rfl hl.1 rfl (Nat.le_of_ble_eq_true rfl) (by show _ ≤ 600130; omega) (by show _ ≤ 7301080; omega) dL_law_259 ?_
  refine lv_iload hx hb dL_law_262 (lv_at hl 4 rfl) ?_
  refine lv_icmp_gt (tgt := 269) hx hb dL_law_264 (by decide) (fun c_264 => ?_) (fun c_264 => absurd hgt c_264)
  refine lv_goto (tgt := 490) hx hb dL_law_269 (by decide) ?_
  refine W.widen (k := k + (5 + stC (cmB (vw S 0) 0 (upd (sF S 0) n9 (-1))) 4)) (n := 65 * (k + (5 + stC (cmB (vw S 0) 0 (upd (sF S 0) n9 (-1))) 4))) (by omega) (by omega) ?_
  have hgk := hgk
  exact lw_490 hL C0 hK0 hA hbA ht hX2 hw9 (fun n hn => (hF2 n hn).trans (wv_bf (S := wrS S n9 (-1)) hnk hI hzw hn).symm) (by omega) (by omega) hV0 (lv_sub hl [8, 6, 9, 10, 11] rfl) (kk (k + (5 + stC (cmB (vw S 0) 0 (upd (sF S 0) n9 (-1))) 4)) _ H locs ⟨_, hX2, by omega⟩ hV0 hA0 hS)

set_option maxHeartbeats 2000000 in
set_option maxRecDepth 100000 in
theorem lw_c0wN {p : Program} {l : Launch} {e : Env} {s : State} {m : MethodId} {below : List Frame} {meth : Method} {c : Code} {b L : Nat} {xs : Nat → Int32} (hL : L ≤ 260) (C0 : lw_At p s m meth c b L xs) {G : hG} (hK0 : hK G s) {A : Nat → Prop} (hA : ∀ q : Nat, s.heap.size ≤ q → A q) (hbA : ¬ A b) {ad : Nat → Nat} {mo lv tb mb gb : Nat} {wa : Nat} {t : Nat} (ht : t < 30) {Q : State → Prop} {S : CS} {hp : HP} {tm : Nat} {δ : TG} {ω : TS} (hg : gI tb mb gb S tm δ ω) (htb : tb < 1000) (hmb : mb ≤ 100000) (hgb : gb ≤ 100000) (hC : cW ad S hp) {dk : Nat} {lvl : Nat → Nat} {row : Nat → Nat → Nat} (hm : sA mo dk lv lvl row (sR S) tm (sD S) (sF S 0) δ (vw S 0) ω hp) {F9 : Nat → Int32} (hw9 : hp wa = some (eI 64 F9)) (hwk : ∀ key, key < 61 → wa ≠ ad key) (hF9 : ∀ n, n < 64 → F9 n = wv S n) {n9 : Nat} (hn9 : n9 < 64) {x : Int32} {H : Heap} {locs : List Loc} {k N9 : Nat} (hk : k + gS S + 600 ≤ N9) (hN : N9 ≤ 112000) (hV0 : hV G hp H) (hA0 : hIn A hp) (hS : va_S A s.heap H locs) {ls : Array Slot} (hl : lv_has ls 15 [(8, .int (sG S 0)), (7, .int (sV S 0)), (6, .int (nI n9)), (5, .ref wa), (4, .int x), (3, .int (nI t)), (2, .ref mo), (1, .ref (aX ad)), (0, .ref b)]) (kk : ∀ (k2 : Nat) (hp' : HP) (H : Heap) (locs : List Loc), (∃ S2, gX ad mo lv (tb + 1) (mb + 320) (gb + 5) S2 hp' ∧ k2 + gS S2 ≤ N9) → hV G hp' H → hIn A hp' → va_S A s.heap H locs → ∀ ls : Array Slot, lv_has ls 15 [(3, .int (nI (t + 1))), (2, .ref mo), (1, .ref (aX ad)), (0, .ref b)] → W p l e room_1 s m #[Value.ref b] below meth c H locs k2 (65 * k2) Q (F0 m 22 ls [])) (hs9 : ¬ blN (x >>> (nI 4 &&& 31)) 3 = 0) (hlt9 : nI (szR (upd (sF S 0) n9 (nI (blN (x >>> (nI 3 &&& 31)) 100)))) < sR S) : W p l e room_1 s m #[Value.ref b] below meth c H locs k (65 * k) Q (F0 m 128 ls []) := by
  obtain ⟨hx, hb, hr, hml, hown, hts, hX, hbl, hlocks, hgv⟩ := id C0
  have hF : CallFix p m c cL_law 15 s #[Value.ref b] wsLw RL := ⟨hx, hb, hml, hown, fun w h => hts w (wsLw_in w h)⟩
  obtain ⟨hI, hoT, hoD, htd, htg, ⟨r9, hr1, hr2, hr3⟩, hmv, hmg, htm9⟩ := id hg
  have hnk := hC.ok.n
  have hvk := hm.v
  have hokd : okR (sF S 0) := hC.ok.1 0
  have hI2 : ∀ l, l < 4 → bN (vw S 0) l ≤ 2 := fun l hl => hI l hl
  have hzd := szR_le (sF S 0)
  have hn := hm.le
  have hv2 : (nI (blN (x >>> (nI 3 &&& 31)) 100) : Int32) ≠ -2 := nIne2 (bl_lt _ (by omega))
  have hok9 : okR (upd (sF S 0) n9 (nI (blN (x >>> (nI 3 &&& 31)) 100))) := okR_put hokd (by omega) (Or.inr ⟨_, bl_lt _ (by omega), rfl⟩)
  have hz9 : 0 < szR (upd (sF S 0) n9 (nI (blN (x >>> (nI 3 &&& 31)) 100))) := szR_put (by omega) hv2
  have hzu := szR_le (upd (sF S 0) n9 (nI (blN (x >>> (nI 3 &&& 31)) 100)))
  have hgk := K_putN (S := S) (x := n9) (v := nI (blN (x >>> (nI 3 &&& 31)) 100)) (by omega) hv2
  have hvk9 : (nI (blN (x >>> (nI 3 &&& 31)) 100) : Int32) = -1 ∨ ∃ w : Nat, w < 100 ∧ (nI (blN (x >>> (nI 3 &&& 31)) 100) : Int32) = nI w := (Or.inr ⟨_, bl_lt _ (by omega), rfl⟩)
  have hF2 : ∀ n, n < 64 → upd F9 n9 (nI (blN (x >>> (nI 3 &&& 31)) 100)) n = wv (wrS S n9 (nI (blN (x >>> (nI 3 &&& 31)) 100))) n := fun n hn => by
    rw [wv_put hvk9 hv2]
    unfold upd
    by_cases e : n = n9
    · rw [if_pos e, if_pos e]
    · rw [if_neg e, if_neg e]; exact hF9 n hn
  refine lv_iload hx hb dL_law_128 (lv_at hl 4 rfl) ?_
  refine lv_iconst (v := nI 4) hx hb dL_law_130 (by decide) ?_
  refine lv_ishr hx hb dL_law_131 ?_
  refine lv_iconst (v := nI 3) hx hb dL_law_132 (by decide) ?_
  have hbl133 : blN ((x >>> (nI 4 &&& 31))) 3 < 3 := bl_lt _ (by omega)
  refine h_rdS (As := [.int (x >>> (nI 4 &&& 31)), .int (nI 3)]) (rest := []) hF (c_L_below l G hp ((x >>> (nI 4 &&& 31))) 3 (by omega) (by omega)) 2 (gZl gL_law_L_below) rfl (by decide +kernel) ⟨Nat.le_of_ble_eq_true rfl, Nat.le_of_ble_eq_true rfl⟩ hK0 hV0 rfl hl.1 rfl (Nat.le_of_ble_eq_true rfl) (by show _ ≤ 600130; omega) (by show _ ≤ 7301080; omega) dL_law_133 ?_
  refine h_if_ne (a := blN ((x >>> (nI 4 &&& 31))) 3) (tgt := 143) hx hb dL_law_136 (by decide) (by omega) (fun c_136 => ?_) (fun c_136 => absurd c_136 hs9)
  refine lv_iconst (v := nI 0) hx hb dL_law_143 (by decide) ?_
  refine lv_istore (lv' := [(9, .int (nI 0)), (8, .int (sG S 0)), (7, .int (sV S 0)), (6, .int (nI n9)), (5, .ref wa), (4, .int x), (3, .int (nI t)), (2, .ref mo), (1, .ref (aX ad)), (0, .ref b)]) hx hb dL_law_144 hl (by decide) rfl (fun ls hl => ?_)
  refine lv_iload hx hb dL_law_146 (lv_at hl 0 rfl) ?_
  refine h_if_eq (a := 0) (tgt := 155) hx hb dL_law_148 (by decide) (by omega) (fun c_148 => ?_) (fun c_148 => absurd rfl c_148)
  refine lv_iload hx hb dL_law_155 (lv_at hl 5 rfl) ?_
  refine lv_iconst (v := nI 3) hx hb dL_law_157 (by decide) ?_
  refine lv_ishr hx hb dL_law_158 ?_
  refine lv_bipush (v := nI 100) hx hb dL_law_159 (by decide) ?_
  have hbl161 : blN ((x >>> (nI 3 &&& 31))) 100 < 100 := bl_lt _ (by omega)
  refine h_rdS (As := [.int (x >>> (nI 3 &&& 31)), .int (nI 100)]) (rest := []) hF (c_L_below l G hp ((x >>> (nI 3 &&& 31))) 100 (by omega) (by omega)) 2 (gZl gL_law_L_below) rfl (by decide +kernel) ⟨Nat.le_of_ble_eq_true rfl, Nat.le_of_ble_eq_true rfl⟩ hK0 hV0 rfl hl.1 rfl (Nat.le_of_ble_eq_true rfl) (by show _ ≤ 600130; omega) (by show _ ≤ 7301080; omega) dL_law_161 ?_
  refine lv_istore (lv' := [(10, .int (nI (blN ((x >>> (nI 3 &&& 31))) 100))), (9, .int (nI 0)), (8, .int (sG S 0)), (7, .int (sV S 0)), (6, .int (nI n9)), (5, .ref wa), (4, .int x), (3, .int (nI t)), (2, .ref mo), (1, .ref (aX ad)), (0, .ref b)]) hx hb dL_law_164 hl (by decide) rfl (fun ls hl => ?_)
  refine lv_iload hx hb dL_law_166 (lv_at hl 1 rfl) ?_
  refine h_if_eq (a := 0) (tgt := 180) hx hb dL_law_168 (by decide) (by omega) (fun c_168 => ?_) (fun c_168 => absurd rfl c_168)
  refine lv_aload_n hx hb dL_law_180 rfl (lv_at hl 9 rfl) ?_
  refine lv_iload hx hb dL_law_181 (lv_at hl 4 rfl) ?_
  refine lv_iload hx hb dL_law_183 (lv_at hl 0 rfl) ?_
  refine h_wrV (As := [.int (nI n9), .int (nI (blN ((x >>> (nI 3 &&& 31))) 100))]) (rest := []) hF (c_X2_write l G A hp ad S hC hI n9 (blN ((x >>> (nI 3 &&& 31))) 100) (by omega) (by omega) hA0) 2 (gZl gL_law_X2_write) rfl (by decide +kernel) ⟨Nat.le_of_ble_eq_true rfl, Nat.le_of_ble_eq_true rfl⟩ hK0 hV0 hA hS hC.xo rfl rfl rfl hl.1 rfl (Nat.le_of_ble_eq_true rfl) ⟨by show _ ≤ 600130; omega, by show _ ≤ 7301080; omega⟩ dL_law_185 (fun ro hp1 H locs hP1 hV0 hA0 hS => ?_)
  have hltw : nI (szR (sF (wrS S n9 (nI (blN (x >>> (nI 3 &&& 31)) 100))) 0)) < sR S := by rw [w_sF]; exact hlt9
  rw [if_pos hltw, if_pos hltw] at hP1
  obtain ⟨rfl, hT⟩ := hP1
  replace hm := hm.ms (cT.skw hC hT)
  replace hw9 := (hT.2 wa hwk).trans hw9
  have hC := hT.1
  have hn := hm.le
  refine lv_istore (lv' := [(11, .int (bI (false))), (10, .int (nI (blN ((x >>> (nI 3 &&& 31))) 100))), (9, .int (nI 0)), (8, .int (sG S 0)), (7, .int (sV S 0)), (6, .int (nI n9)), (5, .ref wa), (4, .int x), (3, .int (nI t)), (2, .ref mo), (1, .ref (aX ad)), (0, .ref b)]) hx hb dL_law_188 hl (by decide) rfl (fun ls hl => ?_)
  refine lv_aload_n hx hb dL_law_190 rfl (lv_at hl 9 rfl) ?_
  refine lv_iload hx hb dL_law_191 (lv_at hl 5 rfl) ?_
  refine lv_iload hx hb dL_law_193 (lv_at hl 1 rfl) ?_
  refine h_wrV (As := [.int (nI n9), .int (nI (blN ((x >>> (nI 3 &&& 31))) 100))]) (rest := []) hF (c_X3_putN l G A hp1 mo dk lv lvl row (sR S) tm (sD S) (sF S 0) δ (vw S 0) ω hm hI2 hoT hoD hokd htd htg (by omega) n9 (by omega) (nI (blN ((x >>> (nI 3 &&& 31))) 100)) (Or.inr ⟨_, bl_lt _ (by omega), rfl⟩) hlt9 hA0) 2 (gZl gL_law_X3_put) rfl (by decide +kernel) ⟨Nat.le_of_ble_eq_true rfl, Nat.le_of_ble_eq_true rfl⟩ hK0 hV0 hA hS hm.cmo rfl rfl rfl hl.1 rfl (Nat.le_of_ble_eq_true rfl) ⟨by show _ ≤ 600130; omega, by show _ ≤ 7301080; omega⟩ dL_law_195 (fun ro hp2 H locs hP1 hV0 hA0 hS => ?_)
  obtain ⟨rfl, ⟨q1, dk2, lvl2, row2, hm2⟩, hE3⟩ := hP1
  replace hw9 := hE3 _ _ rfl hw9
  replace hC := hC.mvX hE3
  have hX2 := G_mono (tb2 := tb + 1) (mb2 := mb + 320) (gb2 := gb + 5) (G_putN hg hv2 hC hm2) (by omega) (by omega) (by omega)
  refine lv_iload hx hb dL_law_198 (lv_at hl 0 rfl) ?_
  refine lv_icmp_eq (tgt := 205) hx hb dL_law_200 (by decide) (fun c_200 => ?_) (fun c_200 => absurd rfl c_200)
  refine lv_aload hx hb dL_law_205 (lv_at hl 6 rfl) ?_
  refine lv_iload hx hb dL_law_207 (lv_at hl 5 rfl) ?_
  refine lv_iload hx hb dL_law_209 (lv_at hl 1 rfl) ?_
  refine h_iast (i := n9) (x := nI (blN ((x >>> (nI 3 &&& 31))) 100)) hx hb hK0 hV0 hA0 hS hw9 (by omega) (by omega) dL_law_211 (fun H locs hV0 hA0 hS => ?_)
  replace hX2 := hX2.pq hw9 hwk (eI 64 (upd F9 n9 (nI (blN ((x >>> (nI 3 &&& 31))) 100))))
  replace hC := hC.pq hwk (eI 64 (upd F9 n9 (nI (blN ((x >>> (nI 3 &&& 31))) 100))))
  replace hw9 : hput hp2 wa (eI 64 (upd F9 n9 (nI (blN ((x >>> (nI 3 &&& 31))) 100)))) wa = some (eI 64 (upd F9 n9 (nI (blN ((x >>> (nI 3 &&& 31))) 100)))) := hput_s _ _ _
  replace hV0 : hV G (hput hp2 wa (eI 64 (upd F9 n9 (nI (blN ((x >>> (nI 3 &&& 31))) 100))))) H := hV0
  replace hA0 : hIn A (hput hp2 wa (eI 64 (upd F9 n9 (nI (blN ((x >>> (nI 3 &&& 31))) 100))))) := hA0
  generalize hput hp2 wa (eI 64 (upd F9 n9 (nI (blN ((x >>> (nI 3 &&& 31))) 100)))) = hp3 at hV0 hA0 hC hX2 hw9
  refine lv_iload hx hb dL_law_212 (lv_at hl 0 rfl) ?_
  refine h_if_neB (tgt := 244) hx hb dL_law_214 (by decide) (fun c_214 => absurd c_214 (by decide)) (fun c_214 => ?_)
  refine lv_aload_n hx hb dL_law_217 rfl (lv_at hl 10 rfl) ?_
  refine lv_iload hx hb dL_law_218 (lv_at hl 5 rfl) ?_
  refine h_rdV (As := [.int (nI n9)]) (rest := []) hF (c_X2_dts l G hp3 ad (wrS S n9 (nI (blN (x >>> (nI 3 &&& 31)) 100))) hC n9 (by omega) (0) (dts_put hv2)) 1 (gZl gL_law_X2_detours) rfl (by decide +kernel) ⟨Nat.le_of_ble_eq_true rfl, Nat.le_of_ble_eq_true rfl⟩ hK0 hV0 hC.xo rfl rfl rfl hl.1 rfl (Nat.le_of_ble_eq_true rfl) (by show _ ≤ 600130; omega) (by show _ ≤ 7301080; omega) dL_law_220 ?_
  refine h_if_ne (a := 0) (tgt := 267) hx hb dL_law_223 (by decide) (by omega) (fun c_223 => absurd rfl c_223) (fun c_223 => ?_)
  refine lv_aload_n hx hb dL_law_226 rfl (lv_at hl 10 rfl) ?_
  refine lv_iconst (v := nI 4) hx hb dL_law_227 (by decide) ?_
  refine h_rdV (As := [.int (nI 4)]) (rest := []) hF (c_X2_cnt l G hp3 ad (wrS S n9 (nI (blN (x >>> (nI 3 &&& 31)) 100))) hC 4 (by omega) ((sV S 0)) rfl) 1 (gZl gL_law_X2_count) rfl (by decide +kernel) ⟨Nat.le_of_ble_eq_true rfl, Nat.le_of_ble_eq_true rfl⟩ hK0 hV0 hC.xo rfl rfl rfl hl.1 rfl (Nat.le_of_ble_eq_true rfl) (by show _ ≤ 600130; omega) (by show _ ≤ 7301080; omega) dL_law_228 ?_
  refine lv_iload hx hb dL_law_231 (lv_at hl 4 rfl) ?_
  refine lv_icmp_ne (tgt := 267) hx hb dL_law_233 (by decide) (fun c_233 => absurd rfl c_233) (fun c_233 => ?_)
  refine lv_aload_n hx hb dL_law_236 rfl (lv_at hl 10 rfl) ?_
  refine lv_iconst (v := nI 0) hx hb dL_law_237 (by decide) ?_
  refine h_rdV (As := [.int (nI 0)]) (rest := []) hF (c_X2_cnt l G hp3 ad (wrS S n9 (nI (blN (x >>> (nI 3 &&& 31)) 100))) hC 0 (by omega) (nI (szR (upd (sF S 0) n9 (nI (blN (x >>> (nI 3 &&& 31)) 100))))) (by show nI (szR (sF (wrS S n9 (nI (blN (x >>> (nI 3 &&& 31)) 100))) 0)) = _; rw [w_sF])) 1 (gZl gL_law_X2_count) rfl (by decide +kernel) ⟨Nat.le_of_ble_eq_true rfl, Nat.le_of_ble_eq_true rfl⟩ hK0 hV0 hC.xo rfl rfl rfl hl.1 rfl (Nat.le_of_ble_eq_true rfl) (by show _ ≤ 600130; omega) (by show _ ≤ 7301080; omega) dL_law_238 ?_
  refine h_if_eq (a := szR (upd (sF S 0) n9 (nI (blN (x >>> (nI 3 &&& 31)) 100)))) (tgt := 267) hx hb dL_law_241 (by decide) (by omega) (fun c_241 => absurd c_241 (by omega)) (fun c_241 => ?_)
  refine lv_iload hx hb dL_law_244 (lv_at hl 0 rfl) ?_
  refine h_if_eqB (tgt := 269) hx hb dL_law_246 (by decide) (fun c_246 => ?_) (fun c_246 => absurd c_246 (by decide))
  refine lv_goto (tgt := 490) hx hb dL_law_269 (by decide) ?_
  refine W.widen (k := k + (3)) (n := 65 * (k + (3))) (by omega) (by omega) ?_
  have hgk := hgk
  exact lw_490 hL C0 hK0 hA hbA ht hX2 hw9 hF2 (by omega) (by omega) hV0 (lv_sub hl [8, 6, 9, 10, 11] rfl) (kk (k + (3)) _ H locs ⟨_, hX2, by omega⟩ hV0 hA0 hS)

set_option maxHeartbeats 2000000 in
set_option maxRecDepth 100000 in
theorem lw_c0wB {p : Program} {l : Launch} {e : Env} {s : State} {m : MethodId} {below : List Frame} {meth : Method} {c : Code} {b L : Nat} {xs : Nat → Int32} (hL : L ≤ 260) (C0 : lw_At p s m meth c b L xs) {G : hG} (hK0 : hK G s) {A : Nat → Prop} (hA : ∀ q : Nat, s.heap.size ≤ q → A q) (hbA : ¬ A b) {ad : Nat → Nat} {mo lv tb mb gb : Nat} {wa : Nat} {t : Nat} (ht : t < 30) {Q : State → Prop} {S : CS} {hp : HP} {tm : Nat} {δ : TG} {ω : TS} (hg : gI tb mb gb S tm δ ω) (htb : tb < 1000) (hmb : mb ≤ 100000) (hgb : gb ≤ 100000) (hC : cW ad S hp) {dk : Nat} {lvl : Nat → Nat} {row : Nat → Nat → Nat} (hm : sA mo dk lv lvl row (sR S) tm (sD S) (sF S 0) δ (vw S 0) ω hp) {F9 : Nat → Int32} (hw9 : hp wa = some (eI 64 F9)) (hwk : ∀ key, key < 61 → wa ≠ ad key) (hF9 : ∀ n, n < 64 → F9 n = wv S n) {n9 : Nat} (hn9 : n9 < 64) {x : Int32} {H : Heap} {locs : List Loc} {k N9 : Nat} (hk : k + gS S + 600 ≤ N9) (hN : N9 ≤ 112000) (hV0 : hV G hp H) (hA0 : hIn A hp) (hS : va_S A s.heap H locs) {ls : Array Slot} (hl : lv_has ls 15 [(8, .int (sG S 0)), (7, .int (sV S 0)), (6, .int (nI n9)), (5, .ref wa), (4, .int x), (3, .int (nI t)), (2, .ref mo), (1, .ref (aX ad)), (0, .ref b)]) (kk : ∀ (k2 : Nat) (hp' : HP) (H : Heap) (locs : List Loc), (∃ S2, gX ad mo lv (tb + 1) (mb + 320) (gb + 5) S2 hp' ∧ k2 + gS S2 ≤ N9) → hV G hp' H → hIn A hp' → va_S A s.heap H locs → ∀ ls : Array Slot, lv_has ls 15 [(3, .int (nI (t + 1))), (2, .ref mo), (1, .ref (aX ad)), (0, .ref b)] → W p l e room_1 s m #[Value.ref b] below meth c H locs k2 (65 * k2) Q (F0 m 22 ls [])) (hs9 : ¬ blN (x >>> (nI 4 &&& 31)) 3 = 0) (hlt9 : ¬ nI (szR (upd (sF S 0) n9 (nI (blN (x >>> (nI 3 &&& 31)) 100)))) < sR S) : W p l e room_1 s m #[Value.ref b] below meth c H locs k (65 * k) Q (F0 m 128 ls []) := by
  obtain ⟨hx, hb, hr, hml, hown, hts, hX, hbl, hlocks, hgv⟩ := id C0
  have hF : CallFix p m c cL_law 15 s #[Value.ref b] wsLw RL := ⟨hx, hb, hml, hown, fun w h => hts w (wsLw_in w h)⟩
  obtain ⟨hI, hoT, hoD, htd, htg, ⟨r9, hr1, hr2, hr3⟩, hmv, hmg, htm9⟩ := id hg
  have hnk := hC.ok.n
  have hvk := hm.v
  have hokd : okR (sF S 0) := hC.ok.1 0
  have hI2 : ∀ l, l < 4 → bN (vw S 0) l ≤ 2 := fun l hl => hI l hl
  have hzd := szR_le (sF S 0)
  have hn := hm.le
  have hv2 : (nI (blN (x >>> (nI 3 &&& 31)) 100) : Int32) ≠ -2 := nIne2 (bl_lt _ (by omega))
  have hok9 : okR (upd (sF S 0) n9 (nI (blN (x >>> (nI 3 &&& 31)) 100))) := okR_put hokd (by omega) (Or.inr ⟨_, bl_lt _ (by omega), rfl⟩)
  have hz9 : 0 < szR (upd (sF S 0) n9 (nI (blN (x >>> (nI 3 &&& 31)) 100))) := szR_put (by omega) hv2
  have hzu := szR_le (upd (sF S 0) n9 (nI (blN (x >>> (nI 3 &&& 31)) 100)))
  have hgk := K_putB (S := S) (x := n9) (v := nI (blN (x >>> (nI 3 &&& 31)) 100)) hnk hI hvk hok9 (by omega) hv2
  have hzw : ¬ szR (sF (wrS S n9 (nI (blN (x >>> (nI 3 &&& 31)) 100))) 0) = 0 := by rw [w_sF]; omega
  have hlk := lk_bf (S := wrS S n9 (nI (blN (x >>> (nI 3 &&& 31)) 100))) hnk hI hzw
  have hgt : sV S 0 < sV (bfS (wrS S n9 (nI (blN (x >>> (nI 3 &&& 31)) 100)))) 0 := bf_gt (S := wrS S n9 (nI (blN (x >>> (nI 3 &&& 31)) 100))) (T_put hg (q := 0) hv2) hmb (by omega)
  have hvk9 : (nI (blN (x >>> (nI 3 &&& 31)) 100) : Int32) = -1 ∨ ∃ w : Nat, w < 100 ∧ (nI (blN (x >>> (nI 3 &&& 31)) 100) : Int32) = nI w := (Or.inr ⟨_, bl_lt _ (by omega), rfl⟩)
  have hF2 : ∀ n, n < 64 → upd F9 n9 (nI (blN (x >>> (nI 3 &&& 31)) 100)) n = wv (wrS S n9 (nI (blN (x >>> (nI 3 &&& 31)) 100))) n := fun n hn => by
    rw [wv_put hvk9 hv2]
    unfold upd
    by_cases e : n = n9
    · rw [if_pos e, if_pos e]
    · rw [if_neg e, if_neg e]; exact hF9 n hn
  refine lv_iload hx hb dL_law_128 (lv_at hl 4 rfl) ?_
  refine lv_iconst (v := nI 4) hx hb dL_law_130 (by decide) ?_
  refine lv_ishr hx hb dL_law_131 ?_
  refine lv_iconst (v := nI 3) hx hb dL_law_132 (by decide) ?_
  have hbl133 : blN ((x >>> (nI 4 &&& 31))) 3 < 3 := bl_lt _ (by omega)
  refine h_rdS (As := [.int (x >>> (nI 4 &&& 31)), .int (nI 3)]) (rest := []) hF (c_L_below l G hp ((x >>> (nI 4 &&& 31))) 3 (by omega) (by omega)) 2 (gZl gL_law_L_below) rfl (by decide +kernel) ⟨Nat.le_of_ble_eq_true rfl, Nat.le_of_ble_eq_true rfl⟩ hK0 hV0 rfl hl.1 rfl (Nat.le_of_ble_eq_true rfl) (by show _ ≤ 600130; omega) (by show _ ≤ 7301080; omega) dL_law_133 ?_
  refine h_if_ne (a := blN ((x >>> (nI 4 &&& 31))) 3) (tgt := 143) hx hb dL_law_136 (by decide) (by omega) (fun c_136 => ?_) (fun c_136 => absurd c_136 hs9)
  refine lv_iconst (v := nI 0) hx hb dL_law_143 (by decide) ?_
  refine lv_istore (lv' := [(9, .int (nI 0)), (8, .int (sG S 0)), (7, .int (sV S 0)), (6, .int (nI n9)), (5, .ref wa), (4, .int x), (3, .int (nI t)), (2, .ref mo), (1, .ref (aX ad)), (0, .ref b)]) hx hb dL_law_144 hl (by decide) rfl (fun ls hl => ?_)
  refine lv_iload hx hb dL_law_146 (lv_at hl 0 rfl) ?_
  refine h_if_eq (a := 0) (tgt := 155) hx hb dL_law_148 (by decide) (by omega) (fun c_148 => ?_) (fun c_148 => absurd rfl c_148)
  refine lv_iload hx hb dL_law_155 (lv_at hl 5 rfl) ?_
  refine lv_iconst (v := nI 3) hx hb dL_law_157 (by decide) ?_
  refine lv_ishr hx hb dL_law_158 ?_
  refine lv_bipush (v := nI 100) hx hb dL_law_159 (by decide) ?_
  have hbl161 : blN ((x >>> (nI 3 &&& 31))) 100 < 100 := bl_lt _ (by omega)
  refine h_rdS (As := [.int (x >>> (nI 3 &&& 31)), .int (nI 100)]) (rest := []) hF (c_L_below l G hp ((x >>> (nI 3 &&& 31))) 100 (by omega) (by omega)) 2 (gZl gL_law_L_below) rfl (by decide +kernel) ⟨Nat.le_of_ble_eq_true rfl, Nat.le_of_ble_eq_true rfl⟩ hK0 hV0 rfl hl.1 rfl (Nat.le_of_ble_eq_true rfl) (by show _ ≤ 600130; omega) (by show _ ≤ 7301080; omega) dL_law_161 ?_
  refine lv_istore (lv' := [(10, .int (nI (blN ((x >>> (nI 3 &&& 31))) 100))), (9, .int (nI 0)), (8, .int (sG S 0)), (7, .int (sV S 0)), (6, .int (nI n9)), (5, .ref wa), (4, .int x), (3, .int (nI t)), (2, .ref mo), (1, .ref (aX ad)), (0, .ref b)]) hx hb dL_law_164 hl (by decide) rfl (fun ls hl => ?_)
  refine lv_iload hx hb dL_law_166 (lv_at hl 1 rfl) ?_
  refine h_if_eq (a := 0) (tgt := 180) hx hb dL_law_168 (by decide) (by omega) (fun c_168 => ?_) (fun c_168 => absurd rfl c_168)
  refine lv_aload_n hx hb dL_law_180 rfl (lv_at hl 9 rfl) ?_
  refine lv_iload hx hb dL_law_181 (lv_at hl 4 rfl) ?_
  refine lv_iload hx hb dL_law_183 (lv_at hl 0 rfl) ?_
  refine h_wrV (As := [.int (nI n9), .int (nI (blN ((x >>> (nI 3 &&& 31))) 100))]) (rest := []) hF (c_X2_write l G A hp ad S hC hI n9 (blN ((x >>> (nI 3 &&& 31))) 100) (by omega) (by omega) hA0) 2 (gZl gL_law_X2_write) rfl (by decide +kernel) ⟨Nat.le_of_ble_eq_true rfl, Nat.le_of_ble_eq_true rfl⟩ hK0 hV0 hA hS hC.xo rfl rfl rfl hl.1 rfl (Nat.le_of_ble_eq_true rfl) ⟨by show _ ≤ 600130; omega, by show _ ≤ 7301080; omega⟩ dL_law_185 (fun ro hp1 H locs hP1 hV0 hA0 hS => ?_)
  have hltw : ¬ nI (szR (sF (wrS S n9 (nI (blN (x >>> (nI 3 &&& 31)) 100))) 0)) < sR S := by rw [w_sF]; exact hlt9
  rw [if_neg hltw, if_neg hltw] at hP1
  obtain ⟨rfl, hT⟩ := hP1
  replace hm := hm.ms (cT.skw hC hT)
  replace hw9 := (hT.2 wa hwk).trans hw9
  have hC := hT.1
  have hn := hm.le
  refine lv_istore (lv' := [(11, .int (bI (true))), (10, .int (nI (blN ((x >>> (nI 3 &&& 31))) 100))), (9, .int (nI 0)), (8, .int (sG S 0)), (7, .int (sV S 0)), (6, .int (nI n9)), (5, .ref wa), (4, .int x), (3, .int (nI t)), (2, .ref mo), (1, .ref (aX ad)), (0, .ref b)]) hx hb dL_law_188 hl (by decide) rfl (fun ls hl => ?_)
  refine lv_aload_n hx hb dL_law_190 rfl (lv_at hl 9 rfl) ?_
  refine lv_iload hx hb dL_law_191 (lv_at hl 5 rfl) ?_
  refine lv_iload hx hb dL_law_193 (lv_at hl 1 rfl) ?_
  refine h_wrV (As := [.int (nI n9), .int (nI (blN ((x >>> (nI 3 &&& 31))) 100))]) (rest := []) hF (c_X3_putB l G A hp1 mo dk lv lvl row (sR S) tm (sD S) (sF S 0) δ (vw S 0) ω hm hI2 hoT hoD hokd htd htg (by omega) n9 (by omega) (nI (blN ((x >>> (nI 3 &&& 31))) 100)) (Or.inr ⟨_, bl_lt _ (by omega), rfl⟩) hlt9 hA0) 2 (gZl gL_law_X3_put) rfl (by decide +kernel) ⟨Nat.le_of_ble_eq_true rfl, Nat.le_of_ble_eq_true rfl⟩ hK0 hV0 hA hS hm.cmo rfl rfl rfl hl.1 rfl (Nat.le_of_ble_eq_true rfl) ⟨by show _ ≤ 600130; omega, by show _ ≤ 7301080; omega⟩ dL_law_195 (fun ro hp2 H locs hP1 hV0 hA0 hS => ?_)
  obtain ⟨rfl, ⟨q1, dk2, lvl2, row2, hm2⟩, hE3⟩ := hP1
  replace hw9 := hE3 _ _ rfl hw9
  replace hC := hC.mvX hE3
  have hX2 := G_mono (tb2 := tb + 1) (mb2 := mb + 320) (gb2 := gb + 5) (G_putB hg hnk hvk hv2 (by omega) hok9 hC hm2) (by omega) (by omega) (by omega)
  refine lv_iload hx hb dL_law_198 (lv_at hl 0 rfl) ?_
  refine lv_icmp_eq (tgt := 205) hx hb dL_law_200 (by decide) (fun c_200 => ?_) (fun c_200 => absurd rfl c_200)
  refine lv_aload hx hb dL_law_205 (lv_at hl 6 rfl) ?_
  refine lv_iload hx hb dL_law_207 (lv_at hl 5 rfl) ?_
  refine lv_iload hx hb dL_law_209 (lv_at hl 1 rfl) ?_
  refine h_iast (i := n9) (x := nI (blN ((x >>> (nI 3 &&& 31))) 100)) hx hb hK0 hV0 hA0 hS hw9 (by omega) (by omega) dL_law_211 (fun H locs hV0 hA0 hS => ?_)
  replace hX2 := hX2.pq hw9 hwk (eI 64 (upd F9 n9 (nI (blN ((x >>> (nI 3 &&& 31))) 100))))
  replace hC := hC.pq hwk (eI 64 (upd F9 n9 (nI (blN ((x >>> (nI 3 &&& 31))) 100))))
  replace hw9 : hput hp2 wa (eI 64 (upd F9 n9 (nI (blN ((x >>> (nI 3 &&& 31))) 100)))) wa = some (eI 64 (upd F9 n9 (nI (blN ((x >>> (nI 3 &&& 31))) 100)))) := hput_s _ _ _
  replace hV0 : hV G (hput hp2 wa (eI 64 (upd F9 n9 (nI (blN ((x >>> (nI 3 &&& 31))) 100))))) H := hV0
  replace hA0 : hIn A (hput hp2 wa (eI 64 (upd F9 n9 (nI (blN ((x >>> (nI 3 &&& 31))) 100))))) := hA0
  generalize hput hp2 wa (eI 64 (upd F9 n9 (nI (blN ((x >>> (nI 3 &&& 31))) 100)))) = hp3 at hV0 hA0 hC hX2 hw9
  refine lv_iload hx hb dL_law_212 (lv_at hl 0 rfl) ?_
  refine h_if_neB (tgt := 244) hx hb dL_law_214 (by decide) (fun c_214 => ?_) (fun c_214 => absurd c_214 (by decide))
  refine lv_iload hx hb dL_law_244 (lv_at hl 0 rfl) ?_
  refine h_if_eqB (tgt := 269) hx hb dL_law_246 (by decide) (fun c_246 => absurd c_246 (by decide)) (fun c_246 => ?_)
  refine lv_aload_n hx hb dL_law_249 rfl (lv_at hl 10 rfl) ?_
  refine lv_iconst (v := nI 0) hx hb dL_law_250 (by decide) ?_
  refine h_rdV (As := [.int (nI 0)]) (rest := []) hF (c_X2_cnt l G hp3 ad (bfS (wrS S n9 (nI (blN (x >>> (nI 3 &&& 31)) 100)))) hC 0 (by omega) (nI 0) (by show nI (szR (sF (bfS (wrS S n9 (nI (blN (x >>> (nI 3 &&& 31)) 100)))) 0)) = _; rw [hlk.2.2.1, emR_sz])) 1 (gZl gL_law_X2_count) rfl (by decide +kernel) ⟨Nat.le_of_ble_eq_true rfl, Nat.le_of_ble_eq_true rfl⟩ hK0 hV0 hC.xo rfl rfl rfl hl.1 rfl (Nat.le_of_ble_eq_true rfl) (by show _ ≤ 600130; omega) (by show _ ≤ 7301080; omega) dL_law_251 ?_
  refine h_if_ne (a := 0) (tgt := 267) hx hb dL_law_254 (by decide) (by omega) (fun c_254 => absurd rfl c_254) (fun c_254 => ?_)
  refine lv_aload_n hx hb dL_law_257 rfl (lv_at hl 10 rfl) ?_
  refine lv_iconst (v := nI 4) hx hb dL_law_258 (by decide) ?_
  refine h_rdV (As := [.int (nI 4)]) (rest := []) hF (c_X2_cnt l G hp3 ad (bfS (wrS S n9 (nI (blN (x >>> (nI 3 &&& 31)) 100)))) hC 4 (by omega) ((sV (bfS (wrS S n9 (nI (blN (x >>> (nI 3 &&& 31)) 100)))) 0)) rfl) 1 (gZl gL_law_X2_count) rfl (by decide +kernel) ⟨Nat.le_of_ble_eq_true rfl, Nat.le_of_ble_eq_true rfl⟩ hK0 hV0 hC.xo rfl rfl rfl hl.1 rfl (Nat.le_of_ble_eq_true rfl) (by show _ ≤ 600130; omega) (by show _ ≤ 7301080; omega) dL_law_259 ?_
  refine lv_iload hx hb dL_law_262 (lv_at hl 4 rfl) ?_
  refine lv_icmp_gt (tgt := 269) hx hb dL_law_264 (by decide) (fun c_264 => ?_) (fun c_264 => absurd hgt c_264)
  refine lv_goto (tgt := 490) hx hb dL_law_269 (by decide) ?_
  refine W.widen (k := k + (5 + stC (cmB (vw S 0) 0 (upd (sF S 0) n9 (nI (blN (x >>> (nI 3 &&& 31)) 100)))) 4)) (n := 65 * (k + (5 + stC (cmB (vw S 0) 0 (upd (sF S 0) n9 (nI (blN (x >>> (nI 3 &&& 31)) 100)))) 4))) (by omega) (by omega) ?_
  have hgk := hgk
  exact lw_490 hL C0 hK0 hA hbA ht hX2 hw9 (fun n hn => (hF2 n hn).trans (wv_bf (S := wrS S n9 (nI (blN (x >>> (nI 3 &&& 31)) 100))) hnk hI hzw hn).symm) (by omega) (by omega) hV0 (lv_sub hl [8, 6, 9, 10, 11] rfl) (kk (k + (5 + stC (cmB (vw S 0) 0 (upd (sF S 0) n9 (nI (blN (x >>> (nI 3 &&& 31)) 100)))) 4)) _ H locs ⟨_, hX2, by omega⟩ hV0 hA0 hS)
