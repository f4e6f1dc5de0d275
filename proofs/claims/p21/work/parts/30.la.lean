/-! what is found first, by its tag -/
abbrev OT : Type := Option (Nat × Nat)
def tg (f : Row) (w : TG) (x : Nat) : OT := if hasR f x = true then some (w x) else none
def orO (a b : OT) : OT := match a with
  | some t => some t
  | none => b
def oA (o : OT) : Option Nat := match o with
  | some t => some t.2
  | none => none
def laR (g : Nat → Row) (w : Nat → TG) (x : Nat) (b : OT) : Nat → OT
  | 0 => b
  | r + 1 => orO (laR g w x b r) (tg (g r) (w r) x)
def laL (V : BV) (ω : TS) (x : Nat) (b : OT) : Nat → OT
  | 0 => b
  | l + 1 => laR (bG V l) (ω l) x (laL V ω x b l) (bN V l)
def laS (d : Row) (δ : TG) (V : BV) (ω : TS) (x : Nat) : OT := laL V ω x (tg d δ x) 4
theorem tg_y {f : Row} {w : TG} {x : Nat} (h : hasR f x = true) : tg f w x = some (w x) := if_pos h
theorem tg_n {f : Row} {w : TG} {x : Nat} (h : hasR f x = false) : tg f w x = none := if_neg (by rw [h]; decide)
theorem laR_b {g : Nat → Row} {w : Nat → TG} {x : Nat} {t : Nat × Nat} : ∀ r, laR g w x (some t) r = some t
  | 0 => rfl
  | r + 1 => by
    show orO (laR g w x (some t) r) _ = _
    rw [laR_b r]
    rfl
theorem laL_b {V : BV} {ω : TS} {x : Nat} {t : Nat × Nat} : ∀ l, laL V ω x (some t) l = some t
  | 0 => rfl
  | l + 1 => by
    show laR _ _ x (laL V ω x (some t) l) _ = _
    rw [laL_b l, laR_b]
theorem laR_at {g : Nat → Row} {w : Nat → TG} {x : Nat} : ∀ r, (laR g w x none r = none ∧ ∀ r2, r2 < r → hasR (g r2) x = false) ∨ ∃ r1, r1 < r ∧ laR g w x none r = some (w r1 x) ∧ hasR (g r1) x = true ∧ ∀ r2, r2 < r1 → hasR (g r2) x = false
  | 0 => Or.inl ⟨rfl, fun r2 h => absurd h (Nat.not_lt_zero r2)⟩
  | r + 1 => by
    rcases laR_at (g := g) (w := w) (x := x) r with ⟨h1, h2⟩ | ⟨r1, h1, h2, h3, h4⟩
    · have e : laR g w x none (r + 1) = tg (g r) (w r) x := by
        show orO (laR g w x none r) _ = _
        rw [h1]
        rfl
      cases hh : hasR (g r) x with
      | true => exact Or.inr ⟨r, Nat.lt_succ_self r, by rw [e, tg_y hh], hh, h2⟩
      | false =>
        refine Or.inl ⟨by rw [e, tg_n hh], fun r2 h => ?_⟩
        by_cases e2 : r2 = r
        · rw [e2]; exact hh
        · exact h2 r2 (by omega)
    · refine Or.inr ⟨r1, by omega, ?_, h3, h4⟩
      show orO (laR g w x none r) _ = _
      rw [h2]
      rfl
theorem laL_at {V : BV} {ω : TS} {x : Nat} : ∀ l, (laL V ω x none l = none ∧ ∀ l2, l2 < l → ∀ r, r < bN V l2 → hasR (bG V l2 r) x = false) ∨ ∃ l1 r1, l1 < l ∧ r1 < bN V l1 ∧ laL V ω x none l = some (ω l1 r1 x) ∧ hasR (bG V l1 r1) x = true ∧ (∀ r2, r2 < r1 → hasR (bG V l1 r2) x = false) ∧ ∀ l2, l2 < l1 → ∀ r, r < bN V l2 → hasR (bG V l2 r) x = false
  | 0 => Or.inl ⟨rfl, fun l2 h => absurd h (Nat.not_lt_zero l2)⟩
  | l + 1 => by
    rcases laL_at (V := V) (ω := ω) (x := x) l with ⟨h1, h2⟩ | ⟨l1, r1, h1, h2, h3, h4, h5, h6⟩
    · have e : laL V ω x none (l + 1) = laR (bG V l) (ω l) x none (bN V l) := by
        show laR _ _ x (laL V ω x none l) _ = _
        rw [h1]
      rcases laR_at (g := bG V l) (w := ω l) (x := x) (bN V l) with ⟨g1, g2⟩ | ⟨r1, g1, g2, g3, g4⟩
      · refine Or.inl ⟨e.trans g1, fun l2 h r hr => ?_⟩
        by_cases e2 : l2 = l
        · subst e2; exact g2 r hr
        · exact h2 l2 (by omega) r hr
      · exact Or.inr ⟨l, r1, Nat.lt_succ_self l, g1, e.trans g2, g3, g4, h2⟩
    · refine Or.inr ⟨l1, r1, by omega, h2, ?_, h4, h5, h6⟩
      show laR _ _ x (laL V ω x none l) _ = _
      rw [h3, laR_b]
/-- where the first slip lies -/
theorem la_wd {d : Row} {δ : TG} {V : BV} {ω : TS} {x : Nat} : (laS d δ V ω x = none ∧ wd0 d (bN V) (bG V) x = -2) ∨ (hasR d x = true ∧ laS d δ V ω x = some (δ x) ∧ wd0 d (bN V) (bG V) x = d x) ∨ ∃ l r, hasR d x = false ∧ l < 4 ∧ r < bN V l ∧ laS d δ V ω x = some (ω l r x) ∧ hasR (bG V l r) x = true ∧ wd0 d (bN V) (bG V) x = bG V l r x ∧ frA (bN V) (bG V) l r x = true := by
  cases hd : hasR d x with
  | true =>
    refine Or.inr (Or.inl ⟨rfl, ?_, wd0_n (ne_has hd)⟩)
    unfold laS
    rw [tg_y hd, laL_b]
  | false =>
    have hd2 : d x = -2 := hasR_f2 (by rw [hd]; decide)
    have e : laS d δ V ω x = laL V ω x none 4 := by unfold laS; rw [tg_n hd]
    rw [wd0_y hd2, e]
    rcases laL_at (V := V) (ω := ω) (x := x) 4 with ⟨h1, h2⟩ | ⟨l, r, h1, h2, h3, h4, h5, h6⟩
    · exact Or.inl ⟨h1, fsA_none (fun l2 _ h => fsL_iff.mpr (h2 l2 (by omega)))⟩
    · have g1 : fsL (bG V l) x (bN V l) 0 = bG V l r x := fsL_some h4 (Nat.zero_le _) (by omega) (fun r2 _ h => h5 r2 h)
      have g2 : ¬ fsL (bG V l) x (bN V l) 0 = -2 := by rw [g1]; exact ne_has h4
      have g3 : ∀ l2, l2 < l → fsL (bG V l2) x (bN V l2) 0 = -2 := fun l2 h => fsL_iff.mpr (h6 l2 h)
      refine Or.inr (Or.inr ⟨l, r, rfl, h1, h2, h3, h4, ?_, ?_⟩)
      · rw [fsA_some g2 (Nat.zero_le _) (by omega) (fun l2 _ h => g3 l2 h), g1]
      · rw [frA_3 g3 h5, h4]
theorem la_src {V : BV} {ω : TS} {d : Row} {δ : TG} {x l r : Nat} {t : Nat × Nat} (h : laR (bG V l) (ω l) x (laL V ω x (tg d δ x) l) r = some t) (hr : r ≤ bN V l) : (hasR d x = true ∧ t = δ x) ∨ ∃ l2 r2, (l2 < l ∨ (l2 = l ∧ r2 < r)) ∧ r2 < bN V l2 ∧ hasR (bG V l2 r2) x = true ∧ t = ω l2 r2 x := by
  cases hd : hasR d x with
  | true =>
    rw [tg_y hd, laL_b, laR_b] at h
    exact Or.inl ⟨rfl, (Option.some.inj h).symm⟩
  | false =>
    rw [tg_n hd] at h
    rcases laL_at (V := V) (ω := ω) (x := x) l with ⟨h1, h2⟩ | ⟨l1, r1, h1, h2, h3, h4, h5, h6⟩
    · rw [h1] at h
      rcases laR_at (g := bG V l) (w := ω l) (x := x) r with ⟨g1, g2⟩ | ⟨r1, g1, g2, g3, g4⟩
      · rw [g1] at h; cases h
      · rw [g2] at h
        exact Or.inr ⟨l, r1, Or.inr ⟨rfl, g1⟩, by omega, g3, (Option.some.inj h).symm⟩
    · rw [h3, laR_b] at h
      exact Or.inr ⟨l1, r1, Or.inl h1, h2, h4, (Option.some.inj h).symm⟩
theorem sA.src {mo dk lv : Nat} {lvl : Nat → Nat} {row : Nat → Nat → Nat} {rm : Int32} {tm : Nat} {dt : Int32} {d : Row} {δ : TG} {V : BV} {ω : TS} {hp : HP} (hm : sA mo dk lv lvl row rm tm dt d δ V ω hp) (hoT : oT V ω) (hoD : oD d δ V ω) {x l r : Nat} (hx : x < 64) (hl : l < 4) {t : Nat × Nat} (h : laR (bG V l) (ω l) x (laL V ω x (tg d δ x) l) r = some t) (hr : r < bN V l) (hh : hasR (bG V l r) x = true) : (∃ v, sl hp t.2 x v t.1) ∧ (ω l r x).1 < t.1 := by
  rcases la_src h (by omega) with ⟨h1, h2⟩ | ⟨l2, r2, h1, h2, h3, h4⟩
  · rw [h2]
    exact ⟨⟨_, hm.cdk.2 x hx h1⟩, hoD l r x hl hr h1 hh⟩
  · rw [h4]
    exact ⟨⟨_, (hm.crow (by omega) h2).2 x hx h3⟩, hoT l2 r2 l r x h1 hl h2 hr h3 hh⟩
/-- the best so far in a run -/
def bkR (B : OT) (f : Row) (w : TG) (x k : Nat) : OT := orO B (if cntB (hasR f) x < k then tg f w x else none)
theorem bk_0 (B : OT) (f : Row) (w : TG) (x : Nat) : bkR B f w x 0 = B := by
  unfold bkR
  rw [if_neg (Nat.not_lt_zero _)]
  cases B <;> rfl
theorem bk_e {B : OT} {f : Row} {w : TG} {x : Nat} (hx : x < 64) : bkR B f w x (szR f) = orO B (tg f w x) := by
  unfold bkR
  by_cases h : cntB (hasR f) x < szR f
  · rw [if_pos h]
  · rw [if_neg h]
    have h2 : hasR f x = false := by
      cases hh : hasR f x with
      | false => rfl
      | true => exact absurd ((cnt_le hx).2 hh) h
    rw [tg_n h2]
theorem bk_n {B : OT} {f : Row} {w : TG} {x k : Nat} (hx : x < 64) (hk : k < szR f) (h : nthR f k ≠ x) : bkR B f w x (k + 1) = bkR B f w x k := by
  unfold bkR
  by_cases h1 : cntB (hasR f) x < k
  · rw [if_pos h1, if_pos (by omega)]
  · rw [if_neg h1]
    by_cases h2 : cntB (hasR f) x < k + 1
    · rw [if_pos h2, tg_n]
      cases hh : hasR f x with
      | false => rfl
      | true => exact absurd (cnt_nth hk (by omega) hh hx).symm h
    · rw [if_neg h2]
theorem bk_y {B : OT} {f : Row} {w : TG} {x k : Nat} (hk : k < szR f) (h : nthR f k = x) : bkR B f w x (k + 1) = orO B (some (w x)) ∧ bkR B f w x k = B := by
  have h1 := (nth_tri (x := x) hk).1 h
  unfold bkR
  rw [if_pos (by omega), if_neg (by omega), tg_y h1.1]
  refine ⟨rfl, ?_⟩
  cases B <;> rfl
/-- a reading loop with a value besides -/
theorem h_loopS {σ : Type} {W9 : Array Slot → Prop} {nL : Nat} (N : Nat) (L : Nat → σ → List (Nat × Value)) (I : Nat → σ → Prop) (hs : ∀ i : Nat, i ≤ N → ∀ o : σ, I i o → (i < N → ∀ o2 : σ, I (i + 1) o2 → ∀ ls : Array Slot, lv_has ls nL (L (i + 1) o2) → W9 ls) → ∀ ls : Array Slot, lv_has ls nL (L i o) → W9 ls) :
    ∀ i : Nat, i ≤ N → ∀ o : σ, I i o → ∀ ls : Array Slot, lv_has ls nL (L i o) → W9 ls := by
  have key : ∀ k i : Nat, i + k = N → ∀ o : σ, I i o → ∀ ls : Array Slot, lv_has ls nL (L i o) → W9 ls := by
    intro k
    induction k with
    | zero => intro i hk o hI; exact hs i (by omega) o hI (fun h => absurd h (by omega))
    | succ k ih => intro i hk o hI; exact hs i (by omega) o hI (fun _ o2 h => ih (i + 1) (by omega) o2 h)
  intro i hi o hI
  exact key (N - i) i (by omega) o hI
/-! what a run tells of a number -/
def exK (f : Row) (p : Nat → Bool) : Nat → Bool
  | 0 => false
  | k + 1 => exK f p k || p (nthR f k)
theorem exK_iff {f : Row} {p : Nat → Bool} : ∀ k, exK f p k = true ↔ ∃ j, j < k ∧ p (nthR f j) = true
  | 0 => ⟨fun h => (by cases h), fun ⟨j, h, _⟩ => absurd h (Nat.not_lt_zero j)⟩
  | k + 1 => by
    show (exK f p k || p (nthR f k)) = true ↔ _
    rw [Bool.or_eq_true, exK_iff k]
    refine ⟨fun h => ?_, fun ⟨j, h1, h2⟩ => ?_⟩
    · rcases h with ⟨j, h1, h2⟩ | h
      · exact ⟨j, by omega, h2⟩
      · exact ⟨k, Nat.lt_succ_self k, h⟩
    · by_cases e : j = k
      · rw [e] at h2; exact Or.inr h2
      · exact Or.inl ⟨j, by omega, h2⟩
theorem exK_all {f : Row} {p : Nat → Bool} : exK f p (szR f) = true ↔ ∃ y, y < 64 ∧ hasR f y = true ∧ p y = true := by
  rw [exK_iff]
  refine ⟨fun ⟨j, h1, h2⟩ => ⟨nthR f j, (nth_at h1).1, (nth_at h1).2.1, h2⟩, fun ⟨y, h1, h2, h3⟩ => ⟨cntB (hasR f) y, (cnt_le h1).2 h2, ?_⟩⟩
  rw [nthR_of h1 h2 rfl]
  exact h3
theorem exK_it {f : Row} {x : Nat} (hx : x < 64) : exK f (fun y => decide (y = x)) (szR f) = hasR f x := by
  rw [Bool.eq_iff_iff, exK_all]
  refine ⟨fun ⟨y, h1, h2, h3⟩ => ?_, fun h => ⟨x, hx, h, decide_eq_true rfl⟩⟩
  rw [decide_eq_true_iff] at h3
  rw [← h3]
  exact h2
theorem exK_hole {f : Row} {h : Nat} (hh : h < 8) : exK f (fun y => decide (y % 8 = h)) (szR f) = opR f h := by
  rw [Bool.eq_iff_iff, exK_all]
  refine ⟨fun ⟨y, h1, h2, h3⟩ => ?_, fun h9 => ?_⟩
  · rw [decide_eq_true_iff] at h3
    exact opR_t (j := y / 8) (by omega) (by rw [show h + 8 * (y / 8) = y by omega]; exact h2)
  · apply Classical.byContradiction
    intro hne
    have h10 : opR f h = false := opR_f (fun j hj => by
      cases hq : hasR f (h + 8 * j) with
      | false => rfl
      | true => exact absurd ⟨h + 8 * j, by omega, hq, decide_eq_true (by omega)⟩ hne)
    rw [h10] at h9
    cases h9
theorem ex_t {f : Row} {p : Nat → Bool} {k : Nat} (h : exK f p k = true) : exK f p (k + 1) = true := by
  show (exK f p k || p (nthR f k)) = true
  rw [h]; rfl
theorem ex_y {f : Row} {p : Nat → Bool} {k : Nat} (h : p (nthR f k) = true) : exK f p (k + 1) = true := by
  show (exK f p k || p (nthR f k)) = true
  rw [h, Bool.or_true]
theorem ex_n {f : Row} {p : Nat → Bool} {k : Nat} (h0 : exK f p k = false) (h : p (nthR f k) = false) : exK f p (k + 1) = false := by
  show (exK f p k || p (nthR f k)) = false
  rw [h0, h]; rfl
theorem nth_ls {f : Row} (h : 0 < szR f) : nthR f 0 = lsR f := by
  obtain ⟨h1, h2, h3⟩ := ls_at h
  refine nthR_of h1 h2 ?_
  have h4 : ∀ n, n ≤ lsR f → cntB (hasR f) n = 0 := by
    intro n
    induction n with
    | zero => intro _; rfl
    | succ n ih => intro hn; rw [cntB_n (h3 n (Nat.zero_le _) (by omega)), ih (by omega)]
  exact h4 _ (Nat.le_refl _)
theorem nth_gr {f : Row} (h : 0 < szR f) : nI (nthR f (szR f - 1)) = grR f := by
  obtain ⟨y, h1, h2, h3, h4⟩ := gr_at h
  rw [h2]
  congr 1
  refine nthR_of h1 h3 ?_
  have h5 : ∀ n, n ≤ 64 → y < n → cntB (hasR f) n = cntB (hasR f) y + 1 := by
    intro n
    induction n with
    | zero => intro _ h; omega
    | succ n ih =>
      intro hn hy
      by_cases e : n = y
      · rw [e, cntB_y h3]
      · rw [cntB_n (h4 n (by omega) (by omega)), ih (by omega) (by omega)]
  have h6 := h5 64 (Nat.le_refl _) h1
  unfold szR
  omega
theorem no_has {f : Row} {x : Nat} (hx : x < 64) (h : ∀ j, j < szR f → nthR f j ≠ x) : hasR f x = false := by
  cases hh : hasR f x with
  | false => rfl
  | true => exact absurd (nthR_of hx hh rfl) (h _ ((cnt_le hx).2 hh))
theorem la_word {d : Row} {δ : TG} {V : BV} {ω : TS} {x : Nat} (h : laS d δ V ω x = none) : -1 = wdS d (bN V) (bG V) x := by
  rcases la_wd (d := d) (δ := δ) (V := V) (ω := ω) (x := x) with ⟨h1, h2⟩ | ⟨h1, h2, h3⟩ | ⟨l, r, h1, h2, h3, h4, h5, h6, h7⟩
  · exact wdS_n (by rw [h2]; decide)
  · rw [h2] at h; cases h
  · rw [h4] at h; cases h
theorem sA.sw {mo dk lv : Nat} {lvl : Nat → Nat} {row : Nat → Nat → Nat} {rm : Int32} {tm : Nat} {dt : Int32} {d : Row} {δ : TG} {V : BV} {ω : TS} {hp : HP} (hm : sA mo dk lv lvl row rm tm dt d δ V ω hp) (hokd : okR d) {x : Nat} (hx : x < 64) {t : Nat × Nat} (h : laS d δ V ω x = some t) : sl hp t.2 x (wd0 d (bN V) (bG V) x) t.1 ∧ wd0 d (bN V) (bG V) x = wdS d (bN V) (bG V) x := by
  have key : okw (wd0 d (bN V) (bG V) x) → wd0 d (bN V) (bG V) x = wdS d (bN V) (bG V) x := fun hw => by
    rcases hw with hw | ⟨n, hn, hw⟩
    · rw [hw]
      exact wdS_n (by rw [hw]; decide)
    · exact wdS_y (by rw [hw]; exact nI_pos' (by omega))
  rcases la_wd (d := d) (δ := δ) (V := V) (ω := ω) (x := x) with ⟨h1, h2⟩ | ⟨h1, h2, h3⟩ | ⟨l, r, h1, h2, h3, h4, h5, h6, h7⟩
  · rw [h1] at h; cases h
  · rw [h2] at h
    cases h
    refine ⟨?_, key (by rw [h3]; exact hokd.w h1)⟩
    rw [h3]
    exact hm.cdk.2 x hx h1
  · rw [h4] at h
    cases h
    refine ⟨?_, key (by rw [h6]; exact (hm.ok h2 h3).w h5)⟩
    rw [h6]
    exact (hm.crow h2 h3).2 x hx h5
theorem dt_d {d : Row} {V : BV} {x : Nat} (h : hasR d x = true) : dtS d (bN V) (bG V) x = 0 := if_pos h
theorem dt_n {d : Row} {V : BV} {x : Nat} (h : hasR d x = false) : dtS d (bN V) (bG V) x = dtA (bN V) (bG V) x 4 0 := if_neg (by rw [h]; decide)
theorem opn_lo {f : Row} {x : Nat} (h : ¬ lsR f ≤ x) : opnC f x = false := by
  unfold opnC
  rw [decide_eq_false h]; rfl
theorem opn_hi {f : Row} {x : Nat} (h : ¬ nI x ≤ grR f) : opnC f x = false := by
  unfold opnC
  rw [decide_eq_false h]; simp
theorem opn_ho {f : Row} {x : Nat} (h1 : lsR f ≤ x) (h2 : nI x ≤ grR f) : opnC f x = opR f (x % 8) := by
  unfold opnC
  rw [decide_eq_true h1, decide_eq_true h2]
  simp
