/-! act: all cases -/
theorem c_L_act (l : Launch) (G : hG) (A : Nat → Prop) (hp : HP) (ad : Nat → Nat) (S : CS) (hC : cW ad S hp) (mo dk lv : Nat) (lvl : Nat → Nat) (row : Nat → Nat → Nat) (tm : Nat) (δ : TG) (ω : TS) (hm : sA mo dk lv lvl row (sR S) tm (sD S) (sF S 0) δ (vw S 0) ω hp) (tb mb gb : Nat) (hg : gI tb mb gb S tm δ ω) (htb : tb < 1000) (x : Int32) (hA0 : hIn A hp) : ∃ k, k ≤ gS S + 600 ∧ hWr l yL_act wsL_act 7 157 k (65 * k) G A hp [.ref (aX ad), .ref mo, .int x] (fun ro hp' => ro = some (.int (bI true)) ∧ ∃ S2, gX ad mo lv (tb + 1) (mb + 320) (gb + 5) S2 hp' ∧ k + gS S2 ≤ gS S + 600) := by
  have hnk := hC.ok.n
  have hI := hg.1
  have hvk := hm.v
  have hokd : okR (sF S 0) := hC.ok.1 0
  have hn9l := numN_lt x
  have h18 : blN (x >>> (nI 9 &&& 31)) 18 < 18 := bl_lt _ (by omega)
  rcases (show blN (x >>> (nI 9 &&& 31)) 18 = 0 ∨ blN (x >>> (nI 9 &&& 31)) 18 = 1 ∨ blN (x >>> (nI 9 &&& 31)) 18 = 2 ∨ (blN (x >>> (nI 9 &&& 31)) 18 = 3 ∨ blN (x >>> (nI 9 &&& 31)) 18 = 4) ∨ (blN (x >>> (nI 9 &&& 31)) 18 = 5 ∨ blN (x >>> (nI 9 &&& 31)) 18 = 6 ∨ blN (x >>> (nI 9 &&& 31)) 18 = 7 ∨ blN (x >>> (nI 9 &&& 31)) 18 = 8) ∨ 9 ≤ blN (x >>> (nI 9 &&& 31)) 18 by omega) with hsw | hsw | hsw | hsw | hsw | hsw
  · by_cases h2 : blN x 2 = 0
    · exact ⟨0, by omega, c_act_0e l G A hp ad S hC mo dk lv lvl row tm δ ω hm tb mb gb hg htb x hsw h2 hA0⟩
    · by_cases hz : szR (sF S 0) = 0
      · exact ⟨0, by omega, c_act_0N l G A hp ad S hC mo dk lv lvl row tm δ ω hm tb mb gb hg htb x hsw h2 hz hA0⟩
      · exact ⟨2 + stC (cmB (vw S 0) 0 (sF S 0)) 4, by have := gS_bf hnk hI hvk hokd (show 0 < szR (sF S 0) by omega); omega, c_act_0B l G A hp ad S hC mo dk lv lvl row tm δ ω hm tb mb gb hg htb x hsw h2 (by omega) hA0⟩
  · by_cases h2 : bN (vw S 0) (blN (x >>> (nI 1 &&& 31)) 4) = 0
    · exact ⟨0, by omega, c_act_1e l G A hp ad S hC mo dk lv lvl row tm δ ω hm tb mb gb hg htb x hsw h2 hA0⟩
    · exact ⟨mgC (vw S 0) (blN (x >>> (nI 1 &&& 31)) 4) + stC (mgB (vw S 0) (blN (x >>> (nI 1 &&& 31)) 4)) 4, by have := gS_mg hnk hI hvk (show (blN (x >>> (nI 1 &&& 31)) 4) < 4 from bl_lt _ (by omega)) h2; omega, c_act_1 l G A hp ad S hC mo dk lv lvl row tm δ ω hm tb mb gb hg htb x hsw h2 hA0⟩
  · by_cases h2 : blN x 2 = 0
    · exact ⟨0, by omega, c_act_2e l G A hp ad S hC mo dk lv lvl row tm δ ω hm tb mb gb hg htb x hsw h2 hA0⟩
    · have hb8 : blN (x >>> (nI 2 &&& 31)) 8 < 8 := bl_lt _ (by omega)
      by_cases hlt : nI (szR (sF S 0)) < nI (1 + blN (x >>> (nI 2 &&& 31)) 8)
      · exact ⟨0, by omega, c_act_2N l G A hp ad S hC mo dk lv lvl row tm δ ω hm tb mb gb hg htb x hsw h2 hlt hA0⟩
      · have hzz : 0 < szR (sF S 0) := ge_pos (r := (1 + blN (x >>> (nI 2 &&& 31)) 8)) (by omega) (by omega) (szR_le _) hlt
        exact ⟨2 + stC (cmB (vw S 0) 0 (sF S 0)) 4, by have := gS_bf hnk hI hvk hokd hzz; omega, c_act_2B l G A hp ad S hC mo dk lv lvl row tm δ ω hm tb mb gb hg htb x hsw h2 hlt hA0⟩
  · exact ⟨0, by omega, c_act_3 l G A hp ad S hC mo dk lv lvl row tm δ ω hm tb mb gb hg htb x hsw hA0⟩
  · by_cases hlt : nI (szR (upd (sF S 0) (numN x) (-1))) < sR S
    · exact ⟨3, by omega, c_act_5N l G A hp ad S hC mo dk lv lvl row tm δ ω hm tb mb gb hg htb x hsw hlt hA0⟩
    · exact ⟨5 + stC (cmB (vw S 0) 0 (upd (sF S 0) (numN x) (-1))) 4, by have := K_putB (S := S) (x := (numN x)) (v := -1) hnk hI hvk (okR_put hokd (by omega) (Or.inl rfl)) (by omega) (by decide); omega, c_act_5B l G A hp ad S hC mo dk lv lvl row tm δ ω hm tb mb gb hg htb x hsw hlt hA0⟩
  · by_cases hlt : nI (szR (upd (sF S 0) (numN x) (nI (blN (x >>> (nI 3 &&& 31)) 100)))) < sR S
    · exact ⟨3, by omega, c_act_9N l G A hp ad S hC mo dk lv lvl row tm δ ω hm tb mb gb hg htb x hsw hlt hA0⟩
    · exact ⟨5 + stC (cmB (vw S 0) 0 (upd (sF S 0) (numN x) (nI (blN (x >>> (nI 3 &&& 31)) 100)))) 4, by have := K_putB (S := S) (x := (numN x)) (v := nI (blN (x >>> (nI 3 &&& 31)) 100)) hnk hI hvk (okR_put hokd (by omega) (Or.inr ⟨_, bl_lt _ (by omega), rfl⟩)) (by omega) (nIne2 (bl_lt _ (by omega))); omega, c_act_9B l G A hp ad S hC mo dk lv lvl row tm δ ω hm tb mb gb hg htb x hsw hlt hA0⟩
