/-! the Sim beside the class: one view -/
theorem cW.mvL {ad : Nat → Nat} {S : CS} {hp hp' : HP} (h : cW ad S hp) (he : leH hp hp') : cW ad S hp' := ⟨h.1, h.2.1, fun key hk => he _ _ (h.2.2 key hk)⟩
theorem cE_fz {ad : Nat → Nat} {S : CS} {key : Nat} : fz (cE ad S key) = true := by
  unfold cE
  split
  · split <;> rfl
  · split
    · rfl
    · split
      · rfl
      · split <;> rfl
theorem cW.mvX {ad : Nat → Nat} {S : CS} {hp hp' : HP} (h : cW ad S hp) (he : exH hp hp') : cW ad S hp' := ⟨h.1, h.2.1, fun key hk => he _ _ cE_fz (h.2.2 key hk)⟩
/-- how many of a run's slips have it -/
def cnK (f : Row) (p : Nat → Bool) : Nat → Nat
  | 0 => 0
  | k + 1 => cnK f p k + (if p (nthR f k) = true then 1 else 0)
theorem cnK_y {f : Row} {p : Nat → Bool} {k : Nat} (h : p (nthR f k) = true) : cnK f p (k + 1) = cnK f p k + 1 := by
  show _ + (if _ then _ else _) = _
  rw [if_pos h]
theorem cnK_n {f : Row} {p : Nat → Bool} {k : Nat} (h : p (nthR f k) = false) : cnK f p (k + 1) = cnK f p k + 0 := by
  show _ + (if _ then _ else _) = _
  rw [if_neg (by rw [h]; decide)]
theorem cnK_le (f : Row) (p : Nat → Bool) : ∀ k, cnK f p k ≤ k
  | 0 => Nat.le_refl _
  | k + 1 => by
    have := cnK_le f p k
    show _ + (if _ then _ else _) ≤ _
    split <;> omega
theorem cnK_F {f : Row} {p : Nat → Bool} (hp : ∀ x, x < 64 → p x = true → hasR f x = true) : ∀ m, m ≤ 64 → cntB p m = cnK f p (cntB (hasR f) m)
  | 0, _ => rfl
  | m + 1, h => by
    have ih := cnK_F hp m (by omega)
    by_cases e : hasR f m = true
    · rw [cntB_y e]
      have hn : nthR f (cntB (hasR f) m) = m := nthR_of (by omega) e rfl
      cases hq : p m with
      | true => rw [cntB_y hq, cnK_y (by rw [hn]; exact hq), ih]
      | false => rw [cntB_n hq, cnK_n (by rw [hn]; exact hq), ih]; rfl
    · have e2 : hasR f m = false := Bool.eq_false_iff.mpr e
      have e3 : p m = false := by
        cases hq : p m with
        | false => rfl
        | true => exact absurd (hp m (by omega) hq) e
      rw [cntB_n e2, cntB_n e3, ih]
theorem cnK_e {f : Row} {p : Nat → Bool} (hp : ∀ x, x < 64 → p x = true → hasR f x = true) : cnK f p (szR f) = cntB p 64 := (cnK_F hp 64 (Nat.le_refl _)).symm
/-! sieve and tombs of the first slips -/
theorem ap_s {f : Row} (hok : okR f) {k : Nat} (hk : k < szR f) : upd (acP emR f k) (nthR f k) (f (nthR f k)) = acP emR f (k + 1) := by
  have h0 : ¬ hasR emR (nthR f k) = true := by
    intro z
    have h2 : emR (nthR f k) = -2 := rfl
    rw [hasR, h2] at z
    exact absurd z (by decide)
  rw [← acP_s (F := emR) (W := fun _ => (0, 0)) (t := 0) hok hk (fun z => absurd z h0)]
  unfold wF
  rw [if_neg]
  intro z
  unfold wk at z
  rw [Bool.and_eq_true, acP_has] at z
  rcases z.1 with q | q
  · exact h0 q
  · have := (nth_at hk).2.2
    omega
theorem ap_no {f : Row} {k : Nat} (hk : k < szR f) : acP emR f k (nthR f k) = -2 := by
  have h0 : ¬ hasR emR (nthR f k) = true := by
    intro z
    have h2 : emR (nthR f k) = -2 := rfl
    rw [hasR, h2] at z
    exact absurd z (by decide)
  unfold acP
  rw [if_neg h0, if_neg (by have := (nth_at hk).2.2; omega)]
theorem ap_sv {f : Row} (hok : okR f) {k : Nat} (hk : k < szR f) : svR (acP emR f k) ||| (nI 1 <<< (nI (nthR f k % 8) &&& 31)) = svR (acP emR f (k + 1)) := by
  obtain ⟨h1, h2, h3⟩ := nth_at hk
  rw [← ap_s hok hk, svR_upd _ h1 (ne_has h2)]
theorem ap_tb {f : Row} (hok : okR f) {k : Nat} (hk : k < szR f) : tbR (acP emR f (k + 1)) = tbR (acP emR f k) + (if f (nthR f k) = -1 then 1 else 0) := by
  obtain ⟨h1, h2, h3⟩ := nth_at hk
  have h4 := tbR_upd (acP emR f k) (v := f (nthR f k)) h1
  rw [ap_s hok hk, ap_no hk] at h4
  simpa using h4
theorem ap_0 {f : Row} : svR (acP emR f 0) = nI 0 ∧ tbR (acP emR f 0) = 0 := by
  rw [acP_0]
  decide
theorem ap_e {f : Row} (hok : okR f) : acP emR f (szR f) = f := by
  funext y
  have h0 : ¬ hasR emR y = true := by
    intro z
    have h2 : emR y = -2 := rfl
    rw [hasR, h2] at z
    exact absurd z (by decide)
  unfold acP
  rw [if_neg h0]
  by_cases h : cntB (hasR f) y < szR f
  · rw [if_pos h]
  · rw [if_neg h]
    by_cases h2 : hasR f y = true
    · exact absurd ((cnt_le (has_lt hok h2)).2 h2) h
    · exact (hasR_f2 h2).symm
/-- whether a run's slip stands, by its time -/
def stP (d : Row) (V : BV) (l r : Nat) : Nat → Bool := fun x => !hasR d x && frA (bN V) (bG V) l r x
theorem st_iff {d : Row} {δ : TG} {V : BV} {ω : TS} (hoT : oT V ω) (hoD : oD d δ V ω) {l r x : Nat} (hl : l < 4) (hr : r < bN V l) (hh : hasR (bG V l r) x = true) {t : Nat × Nat} (h : laS d δ V ω x = some t) : (t.1 = (ω l r x).1 → stP d V l r x = true) ∧ (¬ t.1 = (ω l r x).1 → stP d V l r x = false) := by
  unfold stP
  rcases la_wd (d := d) (δ := δ) (V := V) (ω := ω) (x := x) with ⟨h1, h2⟩ | ⟨h1, h2, h3⟩ | ⟨l1, r1, h1, h2, h3, h4, h5, h6, h7⟩
  · rw [h1] at h; cases h
  · rw [h2] at h
    cases h
    have := hoD l r x hl hr h1 hh
    rw [h1]
    exact ⟨fun z => by omega, fun _ => rfl⟩
  · rw [h4] at h
    cases h
    rw [h1]
    unfold frA at h7 ⊢
    rw [Bool.and_eq_true, Bool.and_eq_true, decide_eq_true_iff, decide_eq_true_iff] at h7
    have hlt : l1 < l ∨ (l1 = l ∧ r1 < r) ∨ (l1 = l ∧ r1 = r) := by
      rcases Nat.lt_trichotomy l1 l with q | q | q
      · exact Or.inl q
      · rcases Nat.lt_trichotomy r1 r with p | p | p
        · exact Or.inr (Or.inl ⟨q, p⟩)
        · exact Or.inr (Or.inr ⟨q, p⟩)
        · have h8 := h7.2.1 r p
          rw [q, hh] at h8
          cases h8
      · have h8 := fsL_iff.mp (h7.1 l q) r hr
        rw [hh] at h8
        cases h8
    rcases hlt with q | q | ⟨q1, q2⟩
    · have := hoT l1 r1 l r x (Or.inl q) hl h3 hr h5 hh
      refine ⟨fun z => by omega, fun _ => ?_⟩
      rw [decide_eq_false (p := ∀ l2, l2 < l → fsL (bG V l2) x (bN V l2) 0 = -2) (fun z => ne_has h5 (by
        have h8 := fsL_iff.mp (z l1 q) r1 h3
        rw [h8] at h5
        cases h5))]
      rfl
    · have := hoT l1 r1 l r x (Or.inr q) hl h3 hr h5 hh
      refine ⟨fun z => by omega, fun _ => ?_⟩
      rw [decide_eq_false (p := ∀ r2, r2 < r → hasR (bG V l r2) x = false) (fun z => by
        have h8 := z r1 q.2
        rw [← q.1, h5] at h8
        cases h8)]
      simp
    · subst q1
      subst q2
      refine ⟨fun _ => ?_, fun z => absurd rfl z⟩
      rw [decide_eq_true h7.1, decide_eq_true h7.2.1, hh]
      rfl
theorem st_has {d : Row} {V : BV} {l r x : Nat} (h : stP d V l r x = true) : hasR (bG V l r) x = true := by
  unfold stP frA at h
  rw [Bool.and_eq_true, Bool.and_eq_true, Bool.and_eq_true] at h
  exact h.2.2.2
theorem la_has {d : Row} {δ : TG} {V : BV} {ω : TS} {l r x : Nat} (hl : l < 4) (hr : r < bN V l) (hh : hasR (bG V l r) x = true) : ¬ laS d δ V ω x = none := by
  intro h
  rcases la_wd (d := d) (δ := δ) (V := V) (ω := ω) (x := x) with ⟨h1, h2⟩ | ⟨h1, h2, h3⟩ | ⟨l1, r1, h1, h2, h3, h4, h5, h6, h7⟩
  · have hd : hasR d x = false := by
      cases hq : hasR d x with
      | false => rfl
      | true =>
        rw [wd0_n (ne_has hq)] at h2
        exact absurd h2 (ne_has hq)
    have hd2 : d x = -2 := hasR_f2 (by rw [hd]; decide)
    rw [wd0_y hd2] at h2
    have key : ∀ m k, fsA (bN V) (bG V) x m k = -2 → ∀ l2, k ≤ l2 → l2 < k + m → fsL (bG V l2) x (bN V l2) 0 = -2 := by
      intro m
      induction m with
      | zero => intro k _ l2 a b; omega
      | succ m ih =>
        intro k hk l2 a b
        unfold fsA at hk
        by_cases e : fsL (bG V k) x (bN V k) 0 = -2
        · rw [if_pos e] at hk
          by_cases e2 : l2 = k
          · rw [e2]; exact e
          · exact ih (k + 1) hk l2 (by omega) (by omega)
        · rw [if_neg e] at hk
          exact absurd hk e
    have h8 := fsL_iff.mp (key 4 0 h2 l (Nat.zero_le _) (by omega)) r hr
    rw [hh] at h8
    cases h8
  · rw [h2] at h; cases h
  · rw [h4] at h; cases h
theorem if_10 {x : Int32} (h : okw x) : (¬ 0 ≤ x → (if x = -1 then 1 else 0) = 1) ∧ (0 ≤ x → (if x = -1 then 1 else 0) = 0) := by
  refine ⟨fun z => if_pos (h.lt.mp (Int32.not_le.mp z)), fun z => if_neg (fun q => ?_)⟩
  rw [q] at z
  exact absurd z (by decide)
/-- what a run tells: six numbers -/
theorem fc_of {f : Row} {s wh : Nat} {F : Nat → Int32} (hwh : wh < 6) (h0 : F 0 = nI (szR f)) (h1 : F 1 = nI (lsR f)) (h2 : F 2 = grR f) (h3 : F 3 = svR f) (h4 : F 4 = nI (tbR f)) (h5 : F 5 = nI s) : fcS f s wh = F wh := by
  rcases (show wh = 0 ∨ wh = 1 ∨ wh = 2 ∨ wh = 3 ∨ wh = 4 ∨ wh = 5 by omega) with q | q | q | q | q | q <;> subst q
  · exact h0.symm
  · exact h1.symm
  · exact h2.symm
  · exact h3.symm
  · exact h4.symm
  · exact h5.symm
theorem mn_c (k : Nat) (hk : k ≤ 768) : Op.cmpValue (FP.dcmp (mnV k) (mnV k)) .l = 0 := by
  have h := (mnV_ok ⟨k, by omega⟩).2
  have h2 : FP.dcmp (mnV k) (mnV k) = FP.dcmp (mnV 0) (mnV 0) := h
  rw [h2]
  decide +kernel
