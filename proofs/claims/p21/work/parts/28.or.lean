/-! later runs have earlier slips: all levels -/
def vOk (V : BV) : Prop := (∀ l, bN V l ≤ 3) ∧ ∀ l r, l < 4 → r < bN V l → 0 < szR (bG V l r) ∧ okR (bG V l r)
def oT (V : BV) (ω : TS) : Prop := ∀ l1 r1 l2 r2 x, (l1 < l2 ∨ (l1 = l2 ∧ r1 < r2)) → l2 < 4 → r1 < bN V l1 → r2 < bN V l2 → hasR (bG V l1 r1) x = true → hasR (bG V l2 r2) x = true → (ω l2 r2 x).1 < (ω l1 r1 x).1
theorem oT.L {V : BV} {ω : TS} (h : oT V ω) {l : Nat} (hl : l < 4) : ordL (bG V l) (ω l) (bN V l) := fun r1 r2 x a b c d => h l r1 l r2 x (Or.inr ⟨rfl, a⟩) hl (by omega) b c d
theorem cm_r {V : BV} {L l r : Nat} {f : Row} {x : Nat} (hr : r < bN (cmB V L f) l) (hh : hasR (bG (cmB V L f) l r) x = true) : (l = L ∧ r = 0 ∧ hasR f x = true) ∨ (l = L ∧ 0 < r ∧ r - 1 < bN V l ∧ hasR (bG V l (r - 1)) x = true) ∨ (l ≠ L ∧ r < bN V l ∧ hasR (bG V l r) x = true) := by
  have hr2 : r < if l = L then bN V L + 1 else bN V l := hr
  have hh2 : hasR ((if l = L then (fun r => if r = 0 then f else bG V L (r - 1)) else bG V l) r) x = true := hh
  by_cases e : l = L
  · rw [if_pos e] at hr2 hh2
    by_cases e2 : r = 0
    · subst e2
      exact Or.inl ⟨e, rfl, hh2⟩
    · have hh3 : hasR (if r = 0 then f else bG V L (r - 1)) x = true := hh2
      rw [if_neg e2] at hh3
      subst e
      exact Or.inr (Or.inl ⟨rfl, by omega, by omega, hh3⟩)
  · rw [if_neg e] at hr2 hh2
    exact Or.inr (Or.inr ⟨e, hr2, hh2⟩)
theorem cmT_0 (ω : TS) (L : Nat) (w : TG) : cmT ω L w L 0 = w := by
  unfold cmT
  rw [if_pos rfl, if_pos rfl]
theorem cmT_p (ω : TS) {L r : Nat} (w : TG) (h : 0 < r) : cmT ω L w L r = ω L (r - 1) := by
  unfold cmT
  rw [if_pos rfl, if_neg (by omega)]
theorem cmT_n (ω : TS) {L l : Nat} (w : TG) (h : l ≠ L) (r : Nat) : cmT ω L w l r = ω l r := by
  unfold cmT
  rw [if_neg h]
theorem oT.cm {V : BV} {ω : TS} {L : Nat} {f : Row} {w : TG} (h : oT V ω) (hb : ∀ l r x, l < L → r < bN V l → hasR f x = true → hasR (bG V l r) x = true → (w x).1 < (ω l r x).1) (ha : ∀ l r x, L ≤ l → l < 4 → r < bN V l → hasR f x = true → hasR (bG V l r) x = true → (ω l r x).1 < (w x).1) : oT (cmB V L f) (cmT ω L w) := by
  intro l1 r1 l2 r2 x hlt h4 hr1 hr2 h1 h2
  rcases cm_r hr1 h1 with ⟨a1, a2, a3⟩ | ⟨a1, a2, a3, a4⟩ | ⟨a1, a2, a3⟩
  · subst a1
    subst a2
    rw [cmT_0]
    rcases cm_r hr2 h2 with ⟨b1, b2, b3⟩ | ⟨b1, b2, b3, b4⟩ | ⟨b1, b2, b3⟩
    · omega
    · subst b1
      rw [cmT_p _ _ b2]
      exact ha l2 (r2 - 1) x (Nat.le_refl _) h4 b3 a3 b4
    · rw [cmT_n _ _ b1]
      exact ha l2 r2 x (by omega) h4 b2 a3 b3
  · subst a1
    rw [cmT_p _ _ a2]
    rcases cm_r hr2 h2 with ⟨b1, b2, b3⟩ | ⟨b1, b2, b3, b4⟩ | ⟨b1, b2, b3⟩
    · omega
    · subst b1
      rw [cmT_p _ _ b2]
      exact h l2 (r1 - 1) l2 (r2 - 1) x (Or.inr ⟨rfl, by omega⟩) h4 a3 b3 a4 b4
    · rw [cmT_n _ _ b1]
      exact h l1 (r1 - 1) l2 r2 x (Or.inl (by omega)) h4 a3 b2 a4 b3
  · rw [cmT_n _ _ a1]
    rcases cm_r hr2 h2 with ⟨b1, b2, b3⟩ | ⟨b1, b2, b3, b4⟩ | ⟨b1, b2, b3⟩
    · subst b1
      subst b2
      rw [cmT_0]
      exact hb l1 r1 x (by omega) a2 b3 a3
    · subst b1
      rw [cmT_p _ _ b2]
      exact h l1 r1 l2 (r2 - 1) x (Or.inl (by omega)) h4 a2 b3 a3 b4
    · rw [cmT_n _ _ b1]
      exact h l1 r1 l2 r2 x hlt h4 a2 b2 a3 b3
theorem cl_r {V : BV} {l l2 r : Nat} (hr : r < bN (clB V l) l2) : l2 ≠ l ∧ r < bN V l2 ∧ bG (clB V l) l2 r = bG V l2 r := by
  have hr2 : r < if l2 = l then 0 else bN V l2 := hr
  by_cases e : l2 = l
  · rw [if_pos e] at hr2
    omega
  · rw [if_neg e] at hr2
    exact ⟨e, hr2, by show (if l2 = l then (fun _ => emR) else bG V l2) r = _; rw [if_neg e]⟩
theorem oT.cl {V : BV} {ω : TS} (h : oT V ω) (l : Nat) : oT (clB V l) ω := by
  intro l1 r1 l2 r2 x hlt h4 hr1 hr2 h1 h2
  obtain ⟨-, a2, a3⟩ := cl_r hr1
  obtain ⟨-, b2, b3⟩ := cl_r hr2
  rw [a3] at h1
  rw [b3] at h2
  exact h l1 r1 l2 r2 x hlt h4 a2 b2 h1 h2
/-- a slip of the merged run is one of the level's -/
theorem mk_acc {V : BV} (ω : TS) {l x : Nat} (hok : ∀ r, r < bN V l → okR (bG V l r)) (h : hasR (mkB V l) x = true) : hasR (acF (bG V l) (bN V l)) x = true ∧ ∃ r, r < bN V l ∧ hasR (bG V l r) x = true ∧ acW (bG V l) (ω l) (bN V l) x = ω l r x ∧ mkB V l x = bG V l r x ∧ ∀ r2, r2 < r → hasR (bG V l r2) x = false := by
  have hao := ac_ok hok
  have h1 : mkB V l x ≠ -2 := ne_has h
  have key : mkB V l x = acF (bG V l) (bN V l) x := by
    rw [mk_ac hok] at h1 ⊢
    by_cases hb : nbA (bN V) l = true
    · rw [if_pos hb, lf_e hao] at h1 ⊢
      by_cases e : acF (bG V l) (bN V l) x = -1
      · rw [if_pos e] at h1
        exact absurd rfl h1
      · rw [if_neg e]
    · rw [if_neg hb]
  rw [key] at h1
  have h2 := has_ne h1
  obtain ⟨r, a1, a2, a3, a4, a5⟩ := ac_at (ω l) h2
  exact ⟨h2, r, a1, a2, a4, key.trans a3, a5⟩
theorem vOk.cl {V : BV} (h : vOk V) (l : Nat) : vOk (clB V l) := by
  refine ⟨fun l2 => ?_, fun l2 r hl hr => ?_⟩
  · show (if l2 = l then 0 else bN V l2) ≤ 3
    split
    · omega
    · exact h.1 l2
  · obtain ⟨-, a2, a3⟩ := cl_r hr
    rw [a3]
    exact h.2 l2 r hl a2
theorem vOk.cm {V : BV} (h : vOk V) {L : Nat} {f : Row} (hL : bN V L ≤ 2) (hz : 0 < szR f) (hok : okR f) : vOk (cmB V L f) := by
  refine ⟨fun l2 => ?_, fun l2 r hl hr => ?_⟩
  · rw [bN_cmB]
    split
    · omega
    · exact h.1 l2
  · have hr2 : r < if l2 = L then bN V L + 1 else bN V l2 := hr
    show 0 < szR ((if l2 = L then (fun r => if r = 0 then f else bG V L (r - 1)) else bG V l2) r) ∧ okR ((if l2 = L then (fun r => if r = 0 then f else bG V L (r - 1)) else bG V l2) r)
    by_cases e : l2 = L
    · rw [if_pos e] at hr2 ⊢
      show 0 < szR (if r = 0 then f else bG V L (r - 1)) ∧ okR (if r = 0 then f else bG V L (r - 1))
      by_cases e2 : r = 0
      · rw [if_pos e2]
        exact ⟨hz, hok⟩
      · rw [if_neg e2]
        subst e
        exact h.2 l2 (r - 1) hl (by omega)
    · rw [if_neg e] at hr2 ⊢
      exact h.2 l2 r hl hr2
theorem vOk.mg {V : BV} (h : vOk V) {l : Nat} (hl : l < 4) (h1 : oneB (bN V) l) : vOk (mgB V l) := by
  by_cases hz : szR (mkB V l) = 0
  · rw [mgB_0 hz]
    exact h.cl l
  · rw [mgB_1 hz]
    exact (h.cl l).cm (mgB_pre hl h1) (by omega) (mk_ok (fun r hr => (h.2 l r hl hr).2))
theorem vOk.st {V : BV} {L : Nat} (h : vOk V) (h1 : oneB (bN V) L) : ∀ m, m ≤ 4 → vOk (stB V m)
  | 0, _ => h
  | m + 1, hm => by
    have ih := h.st h1 m (by omega)
    by_cases h3 : bN (stB V m) m < 3
    · rw [stB_n h3]
      exact ih
    · rw [stB_y h3]
      exact ih.mg (by omega) (stB_at h1 (by omega) h3)
theorem oT.mg {V : BV} {ω : TS} (h : oT V ω) {l : Nat} (hl : l < 4) (hok : ∀ r, r < bN V l → okR (bG V l r)) : oT (mgB V l) (mgT V ω l) := by
  by_cases hz : szR (mkB V l) = 0
  · rw [mgB_0 hz, mgT_0 hz]
    exact h.cl l
  · rw [mgB_1 hz, mgT_1 hz]
    refine (h.cl l).cm (fun l2 r2 x h2 hr hf hg => ?_) (fun l2 r2 x h2 h4 hr hf hg => ?_)
    · obtain ⟨b1, b2, b3⟩ := cl_r hr
      rw [b3] at hg
      obtain ⟨-, r, a1, a2, a3, -, -⟩ := mk_acc ω hok hf
      rw [a3]
      exact h l2 r2 l r x (Or.inl (by omega)) hl b2 a1 hg a2
    · obtain ⟨b1, b2, b3⟩ := cl_r hr
      rw [b3] at hg
      obtain ⟨-, r, a1, a2, a3, -, -⟩ := mk_acc ω hok hf
      rw [a3]
      exact h l r l2 r2 x (Or.inl (by omega)) h4 a1 b2 a2 hg
theorem stT_y {V : BV} {ω : TS} {m : Nat} (h : ¬ bN (stB V m) m < 3) : stT V ω (m + 1) = mgT (stB V m) (stT V ω m) m := if_pos (by omega)
theorem stT_n {V : BV} {ω : TS} {m : Nat} (h : bN (stB V m) m < 3) : stT V ω (m + 1) = stT V ω m := if_neg (by omega)
theorem stC_y {V : BV} {m : Nat} (h : ¬ bN (stB V m) m < 3) : stC V (m + 1) = stC V m + mgC (stB V m) m := if_pos (by omega)
theorem stC_n {V : BV} {m : Nat} (h : bN (stB V m) m < 3) : stC V (m + 1) = stC V m := if_neg (by omega)
theorem stC_le (V : BV) {a b : Nat} (h : a ≤ b) : stC V a ≤ stC V b := by
  induction b with
  | zero => rw [show a = 0 by omega]; exact Nat.le_refl _
  | succ b ih =>
    by_cases e : a = b + 1
    · rw [e]; exact Nat.le_refl _
    · have h1 := ih (by omega)
      by_cases h3 : bN (stB V b) b < 3
      · rw [stC_n h3]; exact h1
      · rw [stC_y h3]; omega
theorem oT.st {V : BV} {ω : TS} {L : Nat} (h : oT V ω) (hv : vOk V) (h1 : oneB (bN V) L) : ∀ m, m ≤ 4 → oT (stB V m) (stT V ω m)
  | 0, _ => h
  | m + 1, hm => by
    have ih := h.st hv h1 m (by omega)
    by_cases h3 : bN (stB V m) m < 3
    · rw [stB_n h3, stT_n h3]
      exact ih
    · rw [stB_y h3, stT_y h3]
      exact ih.mg (by omega) (fun r hr => ((hv.st h1 m (by omega)).2 m r (by omega) hr).2)
theorem sA.v {mo dk lv : Nat} {lvl : Nat → Nat} {row : Nat → Nat → Nat} {rm : Int32} {tm : Nat} {dt : Int32} {d : Row} {δ : TG} {V : BV} {ω : TS} {hp : HP} (h : sA mo dk lv lvl row rm tm dt d δ V ω hp) : vOk V := h.2.2.2.2.2
/-- the desk's slips are the latest -/
def oD (d : Row) (δ : TG) (V : BV) (ω : TS) : Prop := ∀ l r x, l < 4 → r < bN V l → hasR d x = true → hasR (bG V l r) x = true → (ω l r x).1 < (δ x).1
theorem oT.bind {d : Row} {δ : TG} {V : BV} {ω : TS} (h : oT V ω) (hd : oD d δ V ω) : oT (cmB V 0 d) (cmT ω 0 δ) := h.cm (fun l r x h0 => absurd h0 (Nat.not_lt_zero l)) (fun l r x _ h4 hr hf hg => hd l r x h4 hr hf hg)
def putT (δ : TG) (x t q : Nat) : TG := fun y => if y = x then (t, q) else δ y
theorem put_F {d : Row} {δ : TG} {x t : Nat} {v : Int32} (h : ∀ y, hasR d y = true → (δ y).1 < t) : wF d δ x v t = upd d x v := if_neg (fun z => by
  unfold wk at z
  rw [Bool.and_eq_true, decide_eq_true_iff] at z
  have := h x z.1
  omega)
theorem put_T {d : Row} {δ : TG} {x t q : Nat} (h : ∀ y, hasR d y = true → (δ y).1 < t) : wT d δ x t q = putT δ x t q := if_neg (fun z => by
  unfold wk at z
  rw [Bool.and_eq_true, decide_eq_true_iff] at z
  have := h x z.1
  omega)
