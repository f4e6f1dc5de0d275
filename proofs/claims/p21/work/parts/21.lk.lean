/-! the class and the levels as a value -/
def nOk (S : CS) : Prop := (∀ k l, sN S k l ≤ 3) ∧ ∀ k l, 4 ≤ l → sN S k l = 0
theorem cOk.n {S : CS} (h : cOk S) : nOk S := h.2
def vw (S : CS) (k : Nat) : BV := (sN S k, gC S k, sV S k, sG S k)
theorem bv_ext {V W : BV} (h1 : bN V = bN W) (h2 : bG V = bG W) (h3 : bM V = bM W) (h4 : bK V = bK W) : V = W := by
  obtain ⟨a, b, c, d⟩ := V
  obtain ⟨a2, b2, c2, d2⟩ := W
  cases h1
  cases h2
  cases h3
  cases h4
  rfl
theorem gC_far {S T : CS} {k l r : Nat} (hn : sN T k l = sN S k l) (hf : r < sN S k l → sF T (1 + 13 * k + (3 * l + (sN S k l - 1 - r))) = sF S (1 + 13 * k + (3 * l + (sN S k l - 1 - r)))) : gC T k l r = gC S k l r := by
  unfold gC
  rw [hn]
  by_cases h : r < sN S k l
  · rw [if_pos h, if_pos h, hf h]
  · rw [if_neg h, if_neg h]
theorem sF_adS (S : CS) (k l j i : Nat) (hi : i ≠ 1 + 13 * k + (3 * l + sN S k l)) : sF (adS S k l j) i = sF S i := by
  unfold adS
  split
  · rfl
  · exact if_neg hi
theorem sR_adS (S : CS) (k l j : Nat) : sR (adS S k l j) = sR S ∧ sD (adS S k l j) = sD S ∧ (∀ k2, sG (adS S k l j) k2 = sG S k2) ∧ ∀ k2, k2 ≠ k → sV (adS S k l j) k2 = sV S k2 := by
  unfold adS
  split
  · exact ⟨rfl, rfl, fun _ => rfl, fun _ _ => rfl⟩
  · exact ⟨rfl, rfl, fun _ => rfl, fun _ h => if_neg h⟩
theorem sN_adS_y {S : CS} {k l j : Nat} (hz : ¬ szR (sF S j) = 0) (k2 l2 : Nat) : sN (adS S k l j) k2 l2 = if k2 = k ∧ l2 = l then sN S k l + 1 else sN S k2 l2 := by rw [sN_adS, if_neg hz]
theorem nok_ad {S : CS} (h : nOk S) {k l j : Nat} (hl : l < 4) (h2 : sN S k l ≤ 2) : nOk (adS S k l j) := by
  refine ⟨fun k2 l2 => ?_, fun k2 l2 h4 => ?_⟩
  · rw [sN_adS]
    split
    · exact h.1 k2 l2
    · split
      · omega
      · exact h.1 k2 l2
  · rw [sN_adS]
    split
    · exact h.2 k2 l2 h4
    · split
      · omega
      · exact h.2 k2 l2 h4
theorem vw_ad {S : CS} (h : nOk S) {k l j : Nat} (hl : l < 4) (h2 : sN S k l ≤ 2) (hz : ¬ szR (sF S j) = 0) : vw (adS S k l j) k = cmB (vw S k) l (sF S j) := by
  refine bv_ext ?_ ?_ ?_ ?_
  · funext l2
    show sN (adS S k l j) k l2 = if l2 = l then sN S k l + 1 else sN S k l2
    rw [sN_adS_y hz]
    by_cases e : l2 = l
    · rw [if_pos ⟨rfl, e⟩, if_pos e]
    · rw [if_neg (fun z => e z.2), if_neg e]
  · funext l2 r
    show gC (adS S k l j) k l2 r = (if l2 = l then (fun r => if r = 0 then sF S j else gC S k l (r - 1)) else gC S k l2) r
    by_cases e : l2 = l
    · subst e
      rw [if_pos rfl]
      have en : sN (adS S k l2 j) k l2 = sN S k l2 + 1 := by rw [sN_adS_y hz, if_pos ⟨rfl, rfl⟩]
      unfold gC
      rw [en]
      by_cases h0 : r = 0
      · rw [if_pos h0, if_pos (by omega), h0]
        unfold adS
        rw [if_neg hz]
        show (if _ = _ then sF S j else _) = sF S j
        rw [if_pos (by omega)]
      · rw [if_neg h0]
        by_cases h3 : r < sN S k l2 + 1
        · rw [if_pos h3, if_pos (by omega), sF_adS _ _ _ _ _ (by omega)]
          congr 2
          omega
        · rw [if_neg h3, if_neg (by omega)]
    · rw [if_neg e]
      have h3 := h.1 k l2
      have h4 : sN S k l2 ≠ 0 → l2 < 4 := fun hne => by
        rcases Nat.lt_or_ge l2 4 with q | q
        · exact q
        · exact absurd (h.2 k l2 q) hne
      exact gC_far (by rw [sN_adS_y hz, if_neg (fun z => e z.2)]) (fun hr => sF_adS _ _ _ _ _ (by omega))
  · exact sV_adS S k l j
  · exact (sR_adS S k l j).2.2.1 k
theorem vw_ad0 {S : CS} {k l j : Nat} (hz : szR (sF S j) = 0) : adS S k l j = S := if_pos hz
theorem vw_oth {S : CS} (h : nOk S) {l j : Nat} (hl : l < 4) (h2 : sN S 1 l ≤ 2) : vw (adS S 1 l j) 0 = vw S 0 := by
  by_cases hz : szR (sF S j) = 0
  · rw [vw_ad0 hz]
  · refine bv_ext ?_ ?_ ?_ ?_
    · funext l2
      show sN (adS S 1 l j) 0 l2 = sN S 0 l2
      rw [sN_adS_y hz, if_neg (fun z => absurd z.1 (by decide))]
    · funext l2 r
      have h3 := h.1 0 l2
      have h4 : sN S 0 l2 ≠ 0 → l2 < 4 := fun hne => by
        rcases Nat.lt_or_ge l2 4 with q | q
        · exact q
        · exact absurd (h.2 0 l2 q) hne
      exact gC_far (by rw [sN_adS_y hz, if_neg (fun z => absurd z.1 (by decide))]) (fun hr => sF_adS _ _ _ _ _ (by omega))
    · exact (sR_adS S 1 l j).2.2.2 0 (by decide)
    · exact (sR_adS S 1 l j).2.2.1 0
/-- merging: the row that is made, the level that is cleared -/
theorem sF_mg2 (S : CS) (k l : Nat) : sF (mg2 S k l) (13 + 13 * k) = mkB (vw S k) l := if_pos rfl
theorem sF_mg2n (S : CS) (k l i : Nat) (hi : i ≠ 13 + 13 * k) : sF (mg2 S k l) i = sF S i := if_neg hi
theorem nok_m2 {S : CS} (h : nOk S) (k l : Nat) : nOk (mg2 S k l) := by
  refine ⟨fun k2 l2 => ?_, fun k2 l2 h4 => ?_⟩
  · rw [sN_mg2]; split
    · exact Nat.zero_le _
    · exact h.1 k2 l2
  · rw [sN_mg2]; split
    · rfl
    · exact h.2 k2 l2 h4
theorem vw_mg2 {S : CS} (h : nOk S) {k l : Nat} : vw (mg2 S k l) k = setL (vw S k) l 0 (fun _ => emR) := by
  refine bv_ext ?_ ?_ rfl rfl
  · funext l2
    show sN (mg2 S k l) k l2 = if l2 = l then 0 else sN S k l2
    rw [sN_mg2]
    by_cases e : l2 = l
    · rw [if_pos ⟨rfl, e⟩, if_pos e]
    · rw [if_neg (fun z => e z.2), if_neg e]
  · funext l2 r
    show gC (mg2 S k l) k l2 r = (if l2 = l then (fun _ => emR) else gC S k l2) r
    by_cases e : l2 = l
    · rw [if_pos e]
      have en : sN (mg2 S k l) k l2 = 0 := by rw [sN_mg2, if_pos ⟨rfl, e⟩]
      unfold gC
      rw [en, if_neg (Nat.not_lt_zero r)]
    · rw [if_neg e]
      have h3 := h.1 k l2
      have h4 : sN S k l2 ≠ 0 → l2 < 4 := fun hne => by
        rcases Nat.lt_or_ge l2 4 with q | q
        · exact q
        · exact absurd (h.2 k l2 q) hne
      exact gC_far (by rw [sN_mg2, if_neg (fun z => e z.2)]) (fun hr => sF_mg2n _ _ _ _ (by omega))
theorem vw_mg2o {S : CS} (h : nOk S) {l : Nat} : vw (mg2 S 1 l) 0 = vw S 0 := by
  refine bv_ext ?_ ?_ rfl rfl
  · funext l2
    show sN (mg2 S 1 l) 0 l2 = sN S 0 l2
    rw [sN_mg2, if_neg (fun z => absurd z.1 (by decide))]
  · funext l2 r
    have h3 := h.1 0 l2
    have h4 : sN S 0 l2 ≠ 0 → l2 < 4 := fun hne => by
      rcases Nat.lt_or_ge l2 4 with q | q
      · exact q
      · exact absurd (h.2 0 l2 q) hne
    exact gC_far (by rw [sN_mg2, if_neg (fun z => absurd z.1 (by decide))]) (fun hr => sF_mg2n _ _ _ _ (by omega))
theorem mg2_two {S : CS} {k l : Nat} (hl : l < 4) (h1 : oneB (sN S k) l) : sN (mg2 S k l) k (min (l + 1) 3) ≤ 2 := by
  rw [sN_mg2]
  by_cases e : min (l + 1) 3 = l
  · rw [if_pos ⟨rfl, e⟩]; omega
  · rw [if_neg (fun z => e z.2)]
    exact h1 _ (by omega) e
theorem nok_mg {S : CS} (h : nOk S) {k l : Nat} (hl : l < 4) (h1 : oneB (sN S k) l) : nOk (mgS S k l) := nok_ad (S := mg2 S k l) (nok_m2 h k l) (by omega) (mg2_two hl h1)
theorem vw_mg {S : CS} (h : nOk S) {k l : Nat} (hl : l < 4) (h1 : oneB (sN S k) l) : vw (mgS S k l) k = mgB (vw S k) l := by
  have h0 : vw (mgS S k l) k = setK (vw (mg3 S k l) k) (bK (vw (mg3 S k l) k) + nI 1) := by
    refine bv_ext rfl rfl rfl ?_
    show (if k = k then _ else _) = _
    rw [if_pos rfl]
    rfl
  rw [h0]
  unfold mgB mg3
  by_cases hz : szR (mkB (vw S k) l) = 0
  · rw [if_pos hz, vw_ad0 (by rw [sF_mg2]; exact hz), vw_mg2 h]
    rfl
  · rw [if_neg hz, vw_ad (nok_m2 h k l) (by omega) (mg2_two hl h1) (by rw [sF_mg2]; exact hz), vw_mg2 h, sF_mg2]
    rfl
theorem vw_mgo {S : CS} (h : nOk S) {l : Nat} (hl : l < 4) (h1 : oneB (sN S 1) l) : vw (mgS S 1 l) 0 = vw S 0 := by
  have h0 : vw (mgS S 1 l) 0 = vw (mg3 S 1 l) 0 := bv_ext rfl rfl rfl rfl
  rw [h0]
  unfold mg3
  rw [vw_oth (nok_m2 h 1 l) (by omega) (mg2_two hl h1), vw_mg2o h]
theorem sF_mg {S : CS} (k l : Nat) : sF (mgS S k l) 0 = sF S 0 ∧ sR (mgS S k l) = sR S ∧ sD (mgS S k l) = sD S := by
  refine ⟨?_, (sR_adS (mg2 S k l) k _ _).1, (sR_adS (mg2 S k l) k _ _).2.1⟩
  exact (sF_adS (mg2 S k l) k _ _ 0 (by omega)).trans (sF_mg2n S k l 0 (by omega))
theorem lk_st {S : CS} {k L : Nat} (hk : k < 2) (h : nOk S) (h1 : oneB (sN S k) L) : ∀ m, m ≤ 4 → nOk (stS S k m) ∧ vw (stS S k m) k = stB (vw S k) m ∧ sF (stS S k m) 0 = sF S 0 ∧ sR (stS S k m) = sR S ∧ sD (stS S k m) = sD S ∧ (k = 1 → vw (stS S k m) 0 = vw S 0)
  | 0, _ => ⟨h, rfl, rfl, rfl, rfl, fun _ => rfl⟩
  | m + 1, hm => by
    obtain ⟨a1, a2, a3, a4, a5, a6⟩ := lk_st hk h h1 m (by omega)
    unfold stS stB
    rw [← a2]
    show nOk (if 3 ≤ sN (stS S k m) k m then mgS (stS S k m) k m else stS S k m) ∧ vw (if 3 ≤ sN (stS S k m) k m then mgS (stS S k m) k m else stS S k m) k = (if 3 ≤ sN (stS S k m) k m then _ else _) ∧ _
    by_cases h3 : 3 ≤ sN (stS S k m) k m
    · rw [if_pos h3, if_pos h3]
      have ho := st_at h1 (show m < 4 by omega) (by omega)
      have hf := sF_mg (S := stS S k m) k m
      refine ⟨nok_mg a1 (by omega) ho, vw_mg a1 (by omega) ho, hf.1.trans a3, hf.2.1.trans a4, hf.2.2.trans a5, fun e => ?_⟩
      subst e
      rw [vw_mgo a1 (by omega) ho]
      exact a6 rfl
    · rw [if_neg h3, if_neg h3]
      exact ⟨a1, rfl, a3, a4, a5, a6⟩
theorem uF0_N (S : CS) (f : Row) : vw (uF S 0 f) 0 = vw S 0 := bv_ext rfl (by
  funext l2 r
  exact gC_far (S := S) (T := uF S 0 f) rfl (fun hr => sF_uFn S f (by omega))) rfl rfl
theorem lk_bf {S : CS} (h : nOk S) (hI : cI S) (hz : ¬ szR (sF S 0) = 0) : nOk (bfS S) ∧ vw (bfS S) 0 = stB (cmB (vw S 0) 0 (sF S 0)) 4 ∧ sF (bfS S) 0 = emR ∧ sR (bfS S) = sR S ∧ sD (bfS S) = sD S ∧ cI (bfS S) := by
  have h2 : sN S 0 0 ≤ 2 := hI 0 (by decide)
  have h3 : nOk (uF (adS S 0 0 0) 0 emR) := nok_ad (S := S) (k := 0) (l := 0) (j := 0) h (by decide) h2
  obtain ⟨a1, a2, a3, a4, a5, -⟩ := lk_st (k := 0) (by decide) h3 (oneB_bf hI) 4 (Nat.le_refl _)
  have e1 : vw (uF (adS S 0 0 0) 0 emR) 0 = cmB (vw S 0) 0 (sF S 0) := by rw [uF0_N, vw_ad h (by decide) h2 hz]
  rw [e1] at a2
  have h5 := sR_adS S 0 0 0
  refine ⟨a1, a2, a3.trans (sF_uF _ _ _), a4.trans h5.1, a5.trans h5.2.1, fun l hl => ?_⟩
  have h6 := stB_two (V := cmB (vw S 0) 0 (sF S 0)) (cm_one (fun l hl => hI l hl)) l hl
  rw [← a2] at h6
  exact h6
theorem vw_N (S : CS) (k : Nat) : bN (vw S k) = sN S k := rfl
theorem vw_G (S : CS) (k : Nat) : bG (vw S k) = gC S k := rfl
theorem vw_M (S : CS) (k : Nat) : bM (vw S k) = sV S k := rfl
theorem vw_K (S : CS) (k : Nat) : bK (vw S k) = sG S k := rfl
def ng (V W : BV) : Prop := bN V = bN W ∧ bG V = bG W
theorem mkB_ng {V W : BV} (h : ng V W) (l : Nat) : mkB V l = mkB W l := by
  unfold mkB
  rw [h.1, h.2]
theorem ng_setL {V W : BV} (h : ng V W) (l n : Nat) (g : Nat → Row) : ng (setL V l n g) (setL W l n g) := by
  refine ⟨?_, ?_⟩
  · show (fun l2 => if l2 = l then n else bN V l2) = fun l2 => if l2 = l then n else bN W l2
    rw [h.1]
  · show (fun l2 => if l2 = l then g else bG V l2) = fun l2 => if l2 = l then g else bG W l2
    rw [h.2]
theorem ng_cm {V W : BV} (h : ng V W) (l : Nat) (f : Row) : ng (cmB V l f) (cmB W l f) := by
  unfold cmB
  rw [h.1, h.2]
  exact ng_setL (V := setM V _) (W := setM W _) ⟨h.1, h.2⟩ _ _ _
theorem ng_mg {V W : BV} (h : ng V W) (l : Nat) : ng (mgB V l) (mgB W l) := by
  have hc : ng (clB V l) (clB W l) := ng_setL h l 0 (fun _ => emR)
  unfold mgB
  rw [mkB_ng h]
  split
  · exact hc
  · exact ng_cm hc _ _
theorem ng_st {V W : BV} (h : ng V W) : ∀ m, ng (stB V m) (stB W m)
  | 0 => h
  | m + 1 => by
    have ih := ng_st h m
    unfold stB
    rw [ih.1]
    split
    · exact ng_mg ih m
    · exact ih
theorem nok_cp {S : CS} (h : nOk S) : nOk (cpS S 4 4 0) := by
  refine ⟨fun k l => ?_, fun k l h4 => ?_⟩
  · show (if k = 1 ∧ l < 4 then sN S 0 l else sN S k l) ≤ 3
    split
    · exact h.1 0 l
    · exact h.1 k l
  · show (if k = 1 ∧ l < 4 then sN S 0 l else sN S k l) = 0
    split
    · exact h.2 0 l h4
    · exact h.2 k l h4
theorem cp_N {S : CS} (h : nOk S) : sN (cpS S 4 4 0) 1 = sN S 0 := by
  funext l
  show (if 1 = 1 ∧ l < 4 then sN S 0 l else sN S 1 l) = sN S 0 l
  split
  · rfl
  · rw [h.2 1 l (by omega), h.2 0 l (by omega)]
theorem cp_g {S : CS} (h : nOk S) : gC (cpS S 4 4 0) 1 = gC S 0 := by
  funext l r
  unfold gC
  rw [cp_N h]
  split
  · rename_i h1
    have h3 := h.1 0 l
    have h4 : l < 4 := by
      rcases Nat.lt_or_ge l 4 with q | q
      · exact q
      · have := h.2 0 l q
        omega
    show (if (14 ≤ 1 + 13 * 1 + (3 * l + (sN S 0 l - 1 - r)) ∧ 1 + 13 * 1 + (3 * l + (sN S 0 l - 1 - r)) < 26) ∧ _ then _ else _) = _
    rw [if_pos]
    · congr 1
      omega
    · have e1 : (1 + 13 * 1 + (3 * l + (sN S 0 l - 1 - r)) - 14) / 3 = l := by omega
      have e2 : (1 + 13 * 1 + (3 * l + (sN S 0 l - 1 - r)) - 14) % 3 = sN S 0 l - 1 - r := by omega
      rw [e1, e2]
      exact ⟨by omega, Or.inl ⟨by omega, by omega⟩⟩
  · rfl
theorem cp_F {S : CS} {i : Nat} (hi : i < 14) : sF (cpS S 4 4 0) i = sF S i := if_neg (fun z => by have := z.1.1; omega)
theorem cp_0 {S : CS} (h : nOk S) : vw (cpS S 4 4 0) 0 = vw S 0 := by
  refine bv_ext (by funext l; exact cpS_N0 S 4 4 0 l) ?_ rfl rfl
  funext l r
  have h3 := h.1 0 l
  have h4 : sN S 0 l ≠ 0 → l < 4 := fun hne => by
    rcases Nat.lt_or_ge l 4 with q | q
    · exact q
    · exact absurd (h.2 0 l q) hne
  exact gC_far (S := S) (T := cpS S 4 4 0) (cpS_N0 S 4 4 0 l) (fun hr => cp_F (by omega))
theorem lk_tm {S : CS} (h : nOk S) (hI : cI S) {l : Nat} (hl : l < 4) : nOk (tmS S l) ∧ vw (tmS S l) 0 = vw S 0 ∧ sF (tmS S l) 0 = sF S 0 ∧ sR (tmS S l) = sR S ∧ sD (tmS S l) = sD S ∧ cI (tmS S l) ∧ ng (vw (tmS S l) 1) (trB (vw S 0) l) := by
  have ho : oneB (sN (cpS S 4 4 0) 1) l := by rw [cp_N h]; exact oneB_all hI l
  have hc := nok_cp h
  have hm := sF_mg (S := cpS S 4 4 0) 1 l
  have key := lk_st (k := 1) (by decide) (nok_mg hc hl ho) (mg_one hl ho) 4 (Nat.le_refl _)
  have e9 := vw_mgo hc hl ho
  have e8 := vw_mg hc hl ho
  unfold tmS trB
  rw [e9, e8, hm.1, hm.2.1, hm.2.2] at key
  have hng : ng (stB (mgB (vw (cpS S 4 4 0) 1) l) 4) (stB (mgB (vw S 0) l) 4) := ng_st (ng_mg (V := vw (cpS S 4 4 0) 1) (W := vw S 0) ⟨cp_N h, cp_g h⟩ l) 4
  generalize stS (mgS (cpS S 4 4 0) 1 l) 1 4 = T at key ⊢
  generalize stB (mgB (vw (cpS S 4 4 0) 1) l) 4 = W at key hng
  generalize stB (mgB (vw S 0) l) 4 = W2 at hng ⊢
  obtain ⟨a1, a2, a3, a4, a5, a6⟩ := key
  have e0 : vw T 0 = vw S 0 := (a6 rfl).trans (cp_0 h)
  refine ⟨a1, e0, a3.trans (cp_F (by decide)), a4, a5, fun l2 h2 => ?_, ?_⟩
  · have e1 : sN T 0 = sN S 0 := congrArg bN e0
    rw [e1]
    exact hI l2 h2
  · rw [a2]
    exact hng
theorem lt_ng {V W : BV} (h : ng V W) (l w : Nat) : ltS V l w = ltS W l w := by
  match w with
  | 0 => show bN V l = bN W l; rw [h.1]
  | 1 => show snA (fun r => szR (bG V l r)) (bN V l) = snA (fun r => szR (bG W l r)) (bN W l); rw [h.1, h.2]
  | w + 2 => show snA (fun r => tbR (bG V l r)) (bN V l) = snA (fun r => tbR (bG W l r)) (bN W l); rw [h.1, h.2]
theorem lk_sl (S : CS) (k : Nat) : slAll S k = snA (fun l => ltS (vw S k) l 1) 4 := by
  unfold slAll
  have e : (fun l => slB S k l) = fun l => ltS (vw S k) l 1 := funext fun l => rfl
  rw [e]
theorem lk_sl1 {S : CS} (h : nOk S) (hI : cI S) {l : Nat} (hl : l < 4) : slAll (tmS S l) 1 = snA (fun j => ltS (trB (vw S 0) l) j 1) 4 := by
  have e : (fun j => ltS (vw (tmS S l) 1) j 1) = fun j => ltS (trB (vw S 0) l) j 1 := funext fun j => lt_ng (lk_tm h hI hl).2.2.2.2.2.2 j 1
  rw [lk_sl, e]
theorem lk_sl0 {S : CS} (h : nOk S) (hI : cI S) {l : Nat} (hl : l < 4) : slAll (tmS S l) 0 = snA (fun j => ltS (vw S 0) j 1) 4 := by
  rw [lk_sl, (lk_tm h hI hl).2.1]
