/-! making a SlipLevels -/
def S0 : CS := (fun _ => emR, fun _ _ => 0, fun _ => 0, fun _ => 0, 4, 0)
theorem hV.reQ {G : hG} {hp : HP} {H : Heap} {a t n : Nat} {f g : Nat → Option Nat} (h : hV G hp H) (he : hp a = some (eQ t n f)) (hfg : ∀ j, j < n → f j = g j) : hV G (hput hp a (eQ t n g)) H := by
  intro q x hx
  by_cases h1 : q = a
  · subst h1
    rw [hput_s] at hx
    cases hx
    exact hatq_congr (h q _ he) hfg
  · rw [hput_n _ _ h1] at hx
    exact h q x hx
def gB (f : Nat → Nat) (b : Nat) : Nat → Nat := fun k => if k = 28 then b else f k
theorem lvK12 {k : Nat} (h : k < 28) : lvK 12 k := by unfold lvK; omega
theorem bnG {h h' : HP} {b : Nat} {e : hE} {f : Nat → Nat} (hb : h b = none) (B : bnF (hput h b e) h' b 12 f) :
    (∀ k k2, k < 29 → k2 < 29 → gB f b k = gB f b k2 → k = k2) ∧ (∀ k, k < 29 → h (gB f b k) = none) ∧ (∀ k, k < 29 → ∃ e, h' (gB f b k) = some e) ∧ ∀ x, (∀ k, k < 29 → x ≠ gB f b k) → h' x = h x := by
  have hso := fun k hk => B.some (k := k) hk
  obtain ⟨h1, h2, h3, h4, h5, h6, h7⟩ := B
  have e28 : gB f b 28 = b := if_pos rfl
  have ek : ∀ k, k < 28 → gB f b k = f k := fun k hk => if_neg (by omega)
  refine ⟨fun k k2 g1 g2 g3 => ?_, fun k g1 => ?_, fun k g1 => ?_, fun x g1 => ?_⟩
  · by_cases z : k = 28
    · by_cases y : k2 = 28
      · rw [z, y]
      · rw [z, e28, ek k2 (by omega)] at g3
        exact absurd g3.symm (h2 k2 (lvK12 (by omega))).2
    · by_cases y : k2 = 28
      · rw [y, e28, ek k (by omega)] at g3
        exact absurd g3 (h2 k (lvK12 (by omega))).2
      · rw [ek k (by omega), ek k2 (by omega)] at g3
        exact h1 k k2 (lvK12 (by omega)) (lvK12 (by omega)) g3
  · by_cases z : k = 28
    · rw [z, e28]; exact hb
    · rw [ek k (by omega)]
      exact (hput_none (h2 k (lvK12 (by omega))).1).2
  · by_cases z : k = 28
    · rw [z, e28]; exact ⟨_, h6⟩
    · rw [ek k (by omega)]
      exact hso k (lvK12 (by omega))
  · have b1 : x ≠ b := by have := g1 28 (by omega); rw [e28] at this; exact this
    rw [h7 x b1 (fun k hk => by have := g1 k (by unfold lvK at hk; omega); rw [ek k (by unfold lvK at hk; omega)] at this; exact this), hput_n _ _ b1]
def ad0 (a q w b1 b2 : Nat) (f1 f2 : Nat → Nat) : Nat → Nat := fun k => if k < 2 then (if k = 0 then q else w) else if k < 28 then gB f1 b1 (k - 2) else if k < 54 then gB f2 b2 (k - 28) else if k < 57 then gB f1 b1 (if k = 54 then 28 else k - 29) else if k < 60 then gB f2 b2 (if k = 57 then 28 else k - 32) else a
section AD0
variable {a q w b1 b2 : Nat} {f1 f2 : Nat → Nat}
theorem ad0_0 : ad0 a q w b1 b2 f1 f2 0 = q := rfl
theorem ad0_1 : ad0 a q w b1 b2 f1 f2 1 = w := rfl
theorem ad0_a {k : Nat} (h : 2 ≤ k) (h2 : k < 28) : ad0 a q w b1 b2 f1 f2 k = gB f1 b1 (k - 2) := by
  unfold ad0
  rw [if_neg (by omega), if_pos h2]
theorem ad0_b {k : Nat} (h : 28 ≤ k) (h2 : k < 54) : ad0 a q w b1 b2 f1 f2 k = gB f2 b2 (k - 28) := by
  unfold ad0
  rw [if_neg (by omega), if_neg (by omega), if_pos h2]
theorem ad0_g2 {k : Nat} (h : (2 ≤ k ∧ k < 28) ∨ (54 ≤ k ∧ k < 57)) : ∃ m, m < 29 ∧ ad0 a q w b1 b2 f1 f2 k = gB f1 b1 m ∧ m = (if k < 28 then k - 2 else if k = 54 then 28 else k - 29) := by
  rcases h with ⟨h, h2⟩ | ⟨h, h2⟩
  · exact ⟨k - 2, by omega, ad0_a h h2, (if_pos h2).symm⟩
  · refine ⟨if k = 54 then 28 else k - 29, by split <;> omega, ?_, (if_neg (by omega)).symm⟩
    unfold ad0
    rw [if_neg (by omega), if_neg (by omega), if_neg (by omega), if_pos h2]
theorem ad0_g3 {k : Nat} (h : (28 ≤ k ∧ k < 54) ∨ (57 ≤ k ∧ k < 60)) : ∃ m, m < 29 ∧ ad0 a q w b1 b2 f1 f2 k = gB f2 b2 m ∧ m = (if k < 54 then k - 28 else if k = 57 then 28 else k - 32) := by
  rcases h with ⟨h, h2⟩ | ⟨h, h2⟩
  · exact ⟨k - 28, by omega, ad0_b h h2, (if_pos h2).symm⟩
  · refine ⟨if k = 57 then 28 else k - 32, by split <;> omega, ?_, (if_neg (by omega)).symm⟩
    unfold ad0
    rw [if_neg (by omega), if_neg (by omega), if_neg (by omega), if_neg (by omega), if_pos h2]
end AD0
theorem c2_fin {hp hA h1 h2 : HP} {a q w b1 b2 : Nat} {f1 f2 : Nat → Nat} {e1 e2 ea ea1 : hE} (hpa : ∃ e, hp a = some e) (hq : hp q = none) (hw : hp w = none) (hqw : q ≠ w) (dsl : slAt hA q w emR) (hAa : hA a = some ea) (hfr : ∀ x, x ≠ a → x ≠ q → x ≠ w → hA x = hp x)
    (hb1 : hA b1 = none) (B1 : bnF (hput hA b1 e1) h1 b1 12 f1) (hb2 : hput h1 a ea1 b2 = none) (B2 : bnF (hput (hput h1 a ea1) b2 e2) h2 b2 12 f2) :
    ∃ (ad : Nat → Nat) (h4 : HP), ad 60 = a ∧ cW ad S0 h4 ∧ (∀ x, (∀ key, key < 61 → x ≠ ad key) → h4 x = hp x) ∧ (∀ G H, hV G (hput h2 a (eO 2 [.ref q, .ref b1, .ref b2, .int 4, .int 0])) H → hV G h4 H) ∧ ∀ A, hIn A (hput h2 a (eO 2 [.ref q, .ref b1, .ref b2, .int 4, .int 0])) → hIn A h4 := by
  obtain ⟨i1, n1, s1, r1⟩ := bnG hb1 B1
  obtain ⟨i2, n2, s2, r2⟩ := bnG hb2 B2
  obtain ⟨-, -, v13, v14, v15, v16, -⟩ := B1
  obtain ⟨-, -, v23, v24, v25, v26, -⟩ := B2
  obtain ⟨e0, hpa⟩ := hpa
  have aq : a ≠ q := hp_ne hpa hq
  have aw : a ≠ w := hp_ne hpa hw
  have ag1 : ∀ k, k < 29 → a ≠ gB f1 b1 k := fun k hk => hp_ne hAa (n1 k hk)
  have ag2 : ∀ k, k < 29 → a ≠ gB f2 b2 k := fun k hk => (hput_none (n2 k hk)).1.symm
  have qg1 : ∀ k, k < 29 → q ≠ gB f1 b1 k := fun k hk => hp_ne dsl.1 (n1 k hk)
  have wg1 : ∀ k, k < 29 → w ≠ gB f1 b1 k := fun k hk => hp_ne dsl.2 (n1 k hk)
  have q1 : h1 q = hA q := r1 q (fun k hk => qg1 k hk)
  have w1 : h1 w = hA w := r1 w (fun k hk => wg1 k hk)
  have qg2 : ∀ k, k < 29 → q ≠ gB f2 b2 k := fun k hk => hp_ne (q1.trans dsl.1) (hput_none (n2 k hk)).2
  have wg2 : ∀ k, k < 29 → w ≠ gB f2 b2 k := fun k hk => hp_ne (w1.trans dsl.2) (hput_none (n2 k hk)).2
  have g12 : ∀ k k2, k < 29 → k2 < 29 → gB f1 b1 k ≠ gB f2 b2 k2 := fun k k2 hk hk2 => by
    obtain ⟨e, he⟩ := s1 k hk
    exact hp_ne he (hput_none (n2 k2 hk2)).2
  have rr : ∀ x, x ≠ a → (∀ k, k < 29 → x ≠ gB f2 b2 k) → h2 x = h1 x := fun x g1 g2 => by rw [r2 x g2, hput_n _ _ g1]
  have q2 : h2 q = hA q := (rr q aq.symm qg2).trans q1
  have w2 : h2 w = hA w := (rr w aw.symm wg2).trans w1
  have b12 : ∀ k, k < 29 → h2 (gB f1 b1 k) = h1 (gB f1 b1 k) := fun k hk => rr _ (ag1 k hk).symm (fun k2 hk2 => g12 k k2 hk hk2)
  have x1 : ∀ k, k < 28 → f1 k = gB f1 b1 k := fun k hk => (if_neg (by omega)).symm
  have x2 : ∀ k, k < 28 → f2 k = gB f2 b2 k := fun k hk => (if_neg (by omega)).symm
  have y1 : b1 = gB f1 b1 28 := (if_pos rfl).symm
  have y2 : b2 = gB f2 b2 28 := (if_pos rfl).symm
  have hinj : ∀ i j, i < 61 → j < 61 → ad0 a q w b1 b2 f1 f2 i = ad0 a q w b1 b2 f1 f2 j → i = j := by
    intro i j hi hj h
    have hc : ∀ k, k < 61 → k = 0 ∨ k = 1 ∨ ((2 ≤ k ∧ k < 28) ∨ (54 ≤ k ∧ k < 57)) ∨ ((28 ≤ k ∧ k < 54) ∨ (57 ≤ k ∧ k < 60)) ∨ k = 60 := fun k hk => by omega
    have h60 : ad0 a q w b1 b2 f1 f2 60 = a := rfl
    rcases hc i hi with ci | ci | ci | ci | ci <;> rcases hc j hj with cj | cj | cj | cj | cj
    · omega
    · rw [ci, cj] at h; exact absurd h hqw
    · obtain ⟨m, z1, z2, -⟩ := ad0_g2 (a := a) (q := q) (w := w) (b1 := b1) (b2 := b2) (f1 := f1) (f2 := f2) cj
      rw [ci, z2] at h; exact absurd h (qg1 m z1)
    · obtain ⟨m, z1, z2, -⟩ := ad0_g3 (a := a) (q := q) (w := w) (b1 := b1) (b2 := b2) (f1 := f1) (f2 := f2) cj
      rw [ci, z2] at h; exact absurd h (qg2 m z1)
    · rw [ci, cj, h60] at h; exact absurd h.symm aq
    · rw [ci, cj] at h; exact absurd h.symm hqw
    · omega
    · obtain ⟨m, z1, z2, -⟩ := ad0_g2 (a := a) (q := q) (w := w) (b1 := b1) (b2 := b2) (f1 := f1) (f2 := f2) cj
      rw [ci, z2] at h; exact absurd h (wg1 m z1)
    · obtain ⟨m, z1, z2, -⟩ := ad0_g3 (a := a) (q := q) (w := w) (b1 := b1) (b2 := b2) (f1 := f1) (f2 := f2) cj
      rw [ci, z2] at h; exact absurd h (wg2 m z1)
    · rw [ci, cj, h60] at h; exact absurd h.symm aw
    · obtain ⟨m, z1, z2, -⟩ := ad0_g2 (a := a) (q := q) (w := w) (b1 := b1) (b2 := b2) (f1 := f1) (f2 := f2) ci
      rw [cj, z2] at h; exact absurd h.symm (qg1 m z1)
    · obtain ⟨m, z1, z2, -⟩ := ad0_g2 (a := a) (q := q) (w := w) (b1 := b1) (b2 := b2) (f1 := f1) (f2 := f2) ci
      rw [cj, z2] at h; exact absurd h.symm (wg1 m z1)
    · obtain ⟨m, z1, z2, z3⟩ := ad0_g2 (a := a) (q := q) (w := w) (b1 := b1) (b2 := b2) (f1 := f1) (f2 := f2) ci
      obtain ⟨m', z1', z2', z3'⟩ := ad0_g2 (a := a) (q := q) (w := w) (b1 := b1) (b2 := b2) (f1 := f1) (f2 := f2) cj
      rw [z2, z2'] at h
      have h9 := i1 m m' z1 z1' h
      rw [z3, z3'] at h9
      split at h9 <;> split at h9 <;> (try split at h9) <;> (try split at h9) <;> omega
    · obtain ⟨m, z1, z2, z3⟩ := ad0_g2 (a := a) (q := q) (w := w) (b1 := b1) (b2 := b2) (f1 := f1) (f2 := f2) ci
      obtain ⟨m', z1', z2', z3'⟩ := ad0_g3 (a := a) (q := q) (w := w) (b1 := b1) (b2 := b2) (f1 := f1) (f2 := f2) cj
      rw [z2, z2'] at h
      exact absurd h (g12 m m' z1 z1')
    · obtain ⟨m, z1, z2, z3⟩ := ad0_g2 (a := a) (q := q) (w := w) (b1 := b1) (b2 := b2) (f1 := f1) (f2 := f2) ci
      rw [cj, z2, h60] at h; exact absurd h.symm (ag1 m z1)
    · obtain ⟨m, z1, z2, -⟩ := ad0_g3 (a := a) (q := q) (w := w) (b1 := b1) (b2 := b2) (f1 := f1) (f2 := f2) ci
      rw [cj, z2] at h; exact absurd h.symm (qg2 m z1)
    · obtain ⟨m, z1, z2, -⟩ := ad0_g3 (a := a) (q := q) (w := w) (b1 := b1) (b2 := b2) (f1 := f1) (f2 := f2) ci
      rw [cj, z2] at h; exact absurd h.symm (wg2 m z1)
    · obtain ⟨m, z1, z2, z3⟩ := ad0_g3 (a := a) (q := q) (w := w) (b1 := b1) (b2 := b2) (f1 := f1) (f2 := f2) ci
      obtain ⟨m', z1', z2', z3'⟩ := ad0_g2 (a := a) (q := q) (w := w) (b1 := b1) (b2 := b2) (f1 := f1) (f2 := f2) cj
      rw [z2, z2'] at h
      exact absurd h.symm (g12 m' m z1' z1)
    · obtain ⟨m, z1, z2, z3⟩ := ad0_g3 (a := a) (q := q) (w := w) (b1 := b1) (b2 := b2) (f1 := f1) (f2 := f2) ci
      obtain ⟨m', z1', z2', z3'⟩ := ad0_g3 (a := a) (q := q) (w := w) (b1 := b1) (b2 := b2) (f1 := f1) (f2 := f2) cj
      rw [z2, z2'] at h
      have h9 := i2 m m' z1 z1' h
      rw [z3, z3'] at h9
      split at h9 <;> split at h9 <;> (try split at h9) <;> (try split at h9) <;> omega
    · obtain ⟨m, z1, z2, z3⟩ := ad0_g3 (a := a) (q := q) (w := w) (b1 := b1) (b2 := b2) (f1 := f1) (f2 := f2) ci
      rw [cj, z2, h60] at h; exact absurd h.symm (ag2 m z1)
    · rw [ci, cj, h60] at h; exact absurd h aq
    · rw [ci, cj, h60] at h; exact absurd h aw
    · obtain ⟨m, z1, z2, z3⟩ := ad0_g2 (a := a) (q := q) (w := w) (b1 := b1) (b2 := b2) (f1 := f1) (f2 := f2) cj
      rw [ci, z2, h60] at h; exact absurd h (ag1 m z1)
    · obtain ⟨m, z1, z2, z3⟩ := ad0_g3 (a := a) (q := q) (w := w) (b1 := b1) (b2 := b2) (f1 := f1) (f2 := f2) cj
      rw [ci, z2, h60] at h; exact absurd h (ag2 m z1)
    · omega
  generalize had : ad0 a q w b1 b2 f1 f2 = ad at hinj
  have k0 : ad 0 = q := by rw [← had]; rfl
  have k1 : ad 1 = w := by rw [← had]; rfl
  have kA : ∀ k, 2 ≤ k → k < 28 → ad k = f1 (k - 2) := fun k z y => by rw [← had, ad0_a z y, x1 _ (by omega)]
  have kB : ∀ k, 28 ≤ k → k < 54 → ad k = f2 (k - 28) := fun k z y => by rw [← had, ad0_b z y, x2 _ (by omega)]
  have k54 : ad 54 = b1 := by rw [← had]; rfl
  have k55 : ad 55 = f1 26 := by rw [← had]; rfl
  have k56 : ad 56 = f1 27 := by rw [← had]; rfl
  have k57 : ad 57 = b2 := by rw [← had]; rfl
  have k58 : ad 58 = f2 26 := by rw [← had]; rfl
  have k59 : ad 59 = f2 27 := by rw [← had]; rfl
  have k60 : ad 60 = a := by rw [← had]; rfl
  have t55 : hput h2 a (eO 2 [.ref q, .ref b1, .ref b2, .int 4, .int 0]) (ad 55) = some (eQ 2 12 (bnQ f1 12)) := by
    rw [k55, x1 26 (by omega), hput_n _ _ (ag1 26 (by omega)).symm, b12 26 (by omega), ← x1 26 (by omega)]; exact v14
  have t58 : hput h2 a (eO 2 [.ref q, .ref b1, .ref b2, .int 4, .int 0]) (ad 58) = some (eQ 2 12 (bnQ f2 12)) := by
    rw [k58, hput_n _ _ (by rw [x2 26 (by omega)]; exact (ag2 26 (by omega)).symm)]; exact v24
  have hne : ad 58 ≠ ad 55 := fun z => absurd (hinj 58 55 (by omega) (by omega) z) (by omega)
  have r55 : ∀ j, j < 12 → bnQ f1 12 j = some (aS ad (1 + 13 * 0 + j)) := fun j hj => by
    unfold bnQ aS
    rw [if_pos hj, kA _ (by omega) (by omega), show 2 * (1 + 13 * 0 + j) - 2 = 2 * j by omega]
  have r58 : ∀ j, j < 12 → bnQ f2 12 j = some (aS ad (1 + 13 * 1 + j)) := fun j hj => by
    unfold bnQ aS
    rw [if_pos hj, kB _ (by omega) (by omega), show 2 * (1 + 13 * 1 + j) - 28 = 2 * j by omega]
  refine ⟨ad, hput (hput (hput h2 a (eO 2 [.ref q, .ref b1, .ref b2, .int 4, .int 0])) (ad 55) (eQ 2 12 (fun j => some (aS ad (1 + 13 * 0 + j))))) (ad 58) (eQ 2 12 (fun j => some (aS ad (1 + 13 * 1 + j)))), k60, ⟨hinj, ⟨fun j => emR_ok, fun k l => Nat.zero_le _, fun k l _ => rfl⟩, fun key hk => ?_⟩, fun x hx => ?_, fun G H hv => ?_, fun A hA9 => ?_⟩
  · have hps : ∀ key, key < 61 → key ≠ 55 → key ≠ 58 → key ≠ 60 → hput (hput (hput h2 a (eO 2 [.ref q, .ref b1, .ref b2, .int 4, .int 0])) (ad 55) (eQ 2 12 (fun j => some (aS ad (1 + 13 * 0 + j))))) (ad 58) (eQ 2 12 (fun j => some (aS ad (1 + 13 * 1 + j)))) (ad key) = h2 (ad key) := fun key g1 g2 g3 g4 => by
      rw [hput_n _ _ (fun z => g3 (hinj _ _ g1 (by omega) z)), hput_n _ _ (fun z => g2 (hinj _ _ g1 (by omega) z)), hput_n _ _ (by rw [← k60]; exact fun z => g4 (hinj _ _ g1 (by omega) z))]
    have hc : key = 0 ∨ key = 1 ∨ (2 ≤ key ∧ key < 28) ∨ (28 ≤ key ∧ key < 54) ∨ key = 54 ∨ key = 55 ∨ key = 56 ∨ key = 57 ∨ key = 58 ∨ key = 59 ∨ key = 60 := by omega
    rcases hc with c | c | c | c | c | c | c | c | c | c | c
    · subst c
      rw [hps 0 (by omega) (by omega) (by omega) (by omega), k0, q2, dsl.1, ← k1]; rfl
    · subst c
      rw [hps 1 (by omega) (by omega) (by omega) (by omega), k1, w2, dsl.2]; rfl
    · rw [hps key hk (by omega) (by omega) (by omega), kA key c.1 c.2, x1 _ (by omega), b12 _ (by omega), ← x1 _ (by omega)]
      have h9 := v13 ((key - 2) / 2) (by omega)
      unfold cE
      rw [if_pos (by omega)]
      split
      · rename_i z
        rw [show key - 2 = 2 * ((key - 2) / 2) by omega, h9.1]
        show some (eO 1 (slO _ emR)) = some (eO 1 (slO (aW ad (key / 2)) emR))
        rw [show f1 (2 * ((key - 2) / 2) + 1) = aW ad (key / 2) by unfold aW; rw [kA _ (by omega) (by omega)]; congr 1; omega]
      · rename_i z
        rw [show key - 2 = 2 * ((key - 2) / 2) + 1 by omega, h9.2]; rfl
    · rw [hps key hk (by omega) (by omega) (by omega), kB key c.1 c.2]
      have h9 := v23 ((key - 28) / 2) (by omega)
      unfold cE
      rw [if_pos (by omega)]
      split
      · rename_i z
        rw [show key - 28 = 2 * ((key - 28) / 2) by omega, h9.1]
        show some (eO 1 (slO _ emR)) = some (eO 1 (slO (aW ad (key / 2)) emR))
        rw [show f2 (2 * ((key - 28) / 2) + 1) = aW ad (key / 2) by unfold aW; rw [kB _ (by omega) (by omega)]; congr 1; omega]
      · rename_i z
        rw [show key - 28 = 2 * ((key - 28) / 2) + 1 by omega, h9.2]; rfl
    · subst c
      rw [hps 54 (by omega) (by omega) (by omega) (by omega), k54, y1, b12 28 (by omega), ← y1, v16]
      show some (eO 0 [.ref (f1 26), .ref (f1 27), .ref (f1 24), .int 0, .int 0]) = some (eO 0 [.ref (ad 55), .ref (ad 56), .ref (ad 26), .int 0, .int 0])
      rw [k55, k56, kA 26 (by omega) (by omega)]
    · subst c
      rw [hput_n _ _ hne.symm, hput_s]; rfl
    · subst c
      rw [hps 56 (by omega) (by omega) (by omega) (by omega), k56, x1 27 (by omega), b12 27 (by omega), ← x1 27 (by omega), v15]; rfl
    · subst c
      rw [hps 57 (by omega) (by omega) (by omega) (by omega), k57, v26]
      show some (eO 0 [.ref (f2 26), .ref (f2 27), .ref (f2 24), .int 0, .int 0]) = some (eO 0 [.ref (ad 58), .ref (ad 59), .ref (ad 52), .int 0, .int 0])
      rw [k58, k59, kB 52 (by omega) (by omega)]
    · subst c
      rw [hput_s]; rfl
    · subst c
      rw [hps 59 (by omega) (by omega) (by omega) (by omega), k59, v25]; rfl
    · subst c
      rw [hput_n _ _ (fun z => absurd (hinj 60 58 (by omega) (by omega) z) (by omega)), hput_n _ _ (fun z => absurd (hinj 60 55 (by omega) (by omega) z) (by omega)), k60, hput_s]
      show some (eO 2 [.ref q, .ref b1, .ref b2, .int 4, .int 0]) = some (eO 2 [.ref (ad 0), .ref (ad 54), .ref (ad 57), .int 4, .int 0])
      rw [k0, k54, k57]
  · have xg1 : ∀ k, k < 29 → x ≠ gB f1 b1 k := fun k hk => by
      by_cases z : k < 26
      · have := hx (k + 2) (by omega)
        rw [kA _ (by omega) (by omega), x1 _ (by omega), show k + 2 - 2 = k by omega] at this
        exact this
      · rcases (show k = 26 ∨ k = 27 ∨ k = 28 by omega) with y | y | y
        · have := hx 55 (by omega); rw [k55, x1 _ (by omega)] at this; rw [y]; exact this
        · have := hx 56 (by omega); rw [k56, x1 _ (by omega)] at this; rw [y]; exact this
        · have := hx 54 (by omega); rw [k54] at this; rw [y, ← y1]; exact this
    have xg2 : ∀ k, k < 29 → x ≠ gB f2 b2 k := fun k hk => by
      by_cases z : k < 26
      · have := hx (k + 28) (by omega)
        rw [kB _ (by omega) (by omega), x2 _ (by omega), show k + 28 - 28 = k by omega] at this
        exact this
      · rcases (show k = 26 ∨ k = 27 ∨ k = 28 by omega) with y | y | y
        · have := hx 58 (by omega); rw [k58, x2 _ (by omega)] at this; rw [y]; exact this
        · have := hx 59 (by omega); rw [k59, x2 _ (by omega)] at this; rw [y]; exact this
        · have := hx 57 (by omega); rw [k57] at this; rw [y, ← y2]; exact this
    have xa : x ≠ a := by have := hx 60 (by omega); rw [k60] at this; exact this
    have xq : x ≠ q := by have := hx 0 (by omega); rw [k0] at this; exact this
    have xw : x ≠ w := by have := hx 1 (by omega); rw [k1] at this; exact this
    rw [hput_n _ _ (hx 58 (by omega)), hput_n _ _ (hx 55 (by omega)), hput_n _ _ xa, rr x xa xg2, r1 x xg1, hfr x xa xq xw]
  · refine (hv.reQ t55 r55).reQ ?_ r58
    rw [hput_n _ _ hne]; exact t58
  · exact (hA9.put (hA9 _ _ t55)).put (hA9 _ _ t58)
