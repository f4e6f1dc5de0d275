/-! what merging makes of rows and tags -/
def acF (g : Nat → Row) : Nat → Row
  | 0 => emR
  | r + 1 => fun y => if hasR (acF g r) y = true then acF g r y else g r y
def acW (g : Nat → Row) (w : Nat → TG) : Nat → TG
  | 0 => fun _ => (0, 0)
  | r + 1 => fun y => if hasR (acF g r) y = true then acW g w r y else w r y
def acP (F f : Row) (k : Nat) : Row := fun y => if hasR F y = true then F y else if cntB (hasR f) y < k then f y else -2
def lfP (F : Row) (k : Nat) : Row := fun y => if cntB (hasR F) y < k ∧ F y ≠ -1 then F y else -2
theorem hasR_f2 {f : Row} {y : Nat} (h : ¬ hasR f y = true) : f y = -2 := by
  by_cases e : f y = -2
  · exact e
  · exact absurd (hasR_true e) h
theorem has_ne {f : Row} {y : Nat} (h : f y ≠ -2) : hasR f y = true := hasR_true h
theorem ne_has {f : Row} {y : Nat} (h : hasR f y = true) : f y ≠ -2 := fun e => by rw [hasR, e] at h; exact absurd h (by decide)
theorem acP_has {F f : Row} {k y : Nat} : hasR (acP F f k) y = true ↔ hasR F y = true ∨ (cntB (hasR f) y < k ∧ hasR f y = true) := by
  have e : hasR (acP F f k) y = true ↔ acP F f k y ≠ -2 := ⟨fun h => ne_has h, fun h => has_ne h⟩
  rw [e]
  unfold acP
  by_cases h1 : hasR F y = true
  · rw [if_pos h1]
    exact ⟨fun _ => Or.inl h1, fun _ => ne_has h1⟩
  · rw [if_neg h1]
    by_cases h2 : cntB (hasR f) y < k
    · rw [if_pos h2]
      exact ⟨fun z => Or.inr ⟨h2, has_ne z⟩, fun z => by rcases z with z | z; exact absurd z h1; exact ne_has z.2⟩
    · rw [if_neg h2]
      exact ⟨fun z => absurd rfl z, fun z => by rcases z with z | z; exact absurd z h1; exact absurd z.1 h2⟩
theorem acP_0 (F f : Row) : acP F f 0 = F := by
  funext y
  unfold acP
  by_cases h1 : hasR F y = true
  · rw [if_pos h1]
  · rw [if_neg h1, if_neg (Nat.not_lt_zero _), hasR_f2 h1]
theorem acF_s {g : Nat → Row} {r : Nat} (hok : okR (g r)) : acF g (r + 1) = acP (acF g r) (g r) (szR (g r)) := by
  funext y
  show (if hasR (acF g r) y = true then acF g r y else g r y) = _
  unfold acP
  by_cases h1 : hasR (acF g r) y = true
  · rw [if_pos h1, if_pos h1]
  · rw [if_neg h1, if_neg h1]
    by_cases h2 : cntB (hasR (g r)) y < szR (g r)
    · rw [if_pos h2]
    · rw [if_neg h2]
      rcases Nat.lt_or_ge y 64 with h3 | h3
      · by_cases h4 : hasR (g r) y = true
        · exact absurd ((cnt_le h3).2 h4) h2
        · exact hasR_f2 h4
      · exact hok.1 y h3
theorem cnt_nth {f : Row} {k y : Nat} (hk : k < szR f) (hc : cntB (hasR f) y = k) (hh : hasR f y = true) (hy : y < 64) : y = nthR f k := by
  rw [nthR_of hy hh hc]
theorem has_lt {f : Row} (hok : okR f) {y : Nat} (h : hasR f y = true) : y < 64 := by
  rcases Nat.lt_or_ge y 64 with h3 | h3
  · exact h3
  · exact absurd (hok.1 y h3) (ne_has h)
theorem acP_s {F f : Row} {W : TG} {k t : Nat} (hok : okR f) (hk : k < szR f) (ho : hasR F (nthR f k) = true → t < (W (nthR f k)).1) : wF (acP F f k) W (nthR f k) (f (nthR f k)) t = acP F f (k + 1) := by
  obtain ⟨h1, h2, h3⟩ := nth_at hk
  have key : ∀ y, cntB (hasR f) y = k → ¬ y = nthR f k → f y = -2 := fun y hc hne => by
    by_cases h4 : hasR f y = true
    · exact absurd (cnt_nth hk hc h4 (has_lt hok h4)) hne
    · exact hasR_f2 h4
  have hF : (hasR (acP F f k) (nthR f k) = true) ↔ hasR F (nthR f k) = true := by
    rw [acP_has]
    exact ⟨fun z => by rcases z with z | z; exact z; omega, Or.inl⟩
  funext y
  unfold wF
  by_cases hb : hasR F (nthR f k) = true
  · rw [if_pos (by unfold wk; rw [hF.mpr hb, decide_eq_true (ho hb)]; rfl)]
    unfold acP
    by_cases e1 : hasR F y = true
    · rw [if_pos e1, if_pos e1]
    · rw [if_neg e1, if_neg e1]
      by_cases e2 : cntB (hasR f) y < k
      · rw [if_pos e2, if_pos (by omega)]
      · rw [if_neg e2]
        by_cases e3 : cntB (hasR f) y < k + 1
        · rw [if_pos e3, key y (by omega) (fun z => e1 (by rw [z]; exact hb))]
        · rw [if_neg e3]
  · rw [if_neg (fun z => hb (hF.mp (by unfold wk at z; rw [Bool.and_eq_true] at z; exact z.1)))]
    unfold upd acP
    by_cases e0 : y = nthR f k
    · rw [if_pos e0, e0, if_neg hb, if_pos (by omega)]
    · rw [if_neg e0]
      by_cases e1 : hasR F y = true
      · rw [if_pos e1, if_pos e1]
      · rw [if_neg e1, if_neg e1]
        by_cases e2 : cntB (hasR f) y < k
        · rw [if_pos e2, if_pos (by omega)]
        · rw [if_neg e2]
          by_cases e3 : cntB (hasR f) y < k + 1
          · rw [if_pos e3, key y (by omega) e0]
          · rw [if_neg e3]
theorem acT_s {F f : Row} {T w : TG} {k : Nat} (hk : k < szR f) (ho : hasR F (nthR f k) = true → (w (nthR f k)).1 < (T (nthR f k)).1) : wT (acP F f k) (fun y => if hasR F y = true then T y else w y) (nthR f k) (w (nthR f k)).1 (w (nthR f k)).2 = fun y => if hasR F y = true then T y else w y := by
  unfold wT
  by_cases hb : wk (acP F f k) (fun y => if hasR F y = true then T y else w y) (nthR f k) (w (nthR f k)).1 = true
  · rw [if_pos hb]
  · rw [if_neg hb]
    funext y
    by_cases e0 : y = nthR f k
    · rw [if_pos e0, e0]
      by_cases e1 : hasR F (nthR f k) = true
      · exfalso
        apply hb
        unfold wk
        have e2 : (fun y => if hasR F y = true then T y else w y) (nthR f k) = T (nthR f k) := if_pos e1
        rw [acP_has.mpr (Or.inl e1), e2, decide_eq_true (ho e1)]
        rfl
      · rw [if_neg e1]
    · rw [if_neg e0]
theorem rn.cg {hp : HP} {a : Nat} {f : Row} {w w2 : TG} (h : rn hp a f w) (hw : ∀ y, y < 64 → hasR f y = true → w y = w2 y) : rn hp a f w2 := by
  obtain ⟨⟨F, h1, h2⟩, h3⟩ := h
  exact ⟨⟨F, h1, fun i hi => (h2 i hi).trans (congrArg (fun z : Nat × Nat => some z.2) (hw _ (nth_at hi).1 (nth_at hi).2.1))⟩, fun y hy hh => by rw [← hw y hy hh]; exact h3 y hy hh⟩
/-- what is found first: its run -/
theorem ac_no {g : Nat → Row} {x : Nat} : ∀ {n : Nat}, ¬ hasR (acF g n) x = true → ∀ r2, r2 < n → hasR (g r2) x = false
  | 0, _, r2, h2 => absurd h2 (Nat.not_lt_zero r2)
  | n + 1, e, r2, h2 => by
    have e0 : ¬ hasR (acF g n) x = true := fun z => e (by
      have h1 : acF g (n + 1) x = acF g n x := if_pos z
      rw [hasR, h1]; exact z)
    by_cases h3 : r2 = n
    · cases hq : hasR (g r2) x with
      | false => rfl
      | true => exact absurd (by
          have h1 : acF g (n + 1) x = g n x := if_neg e0
          rw [hasR, h1, ← h3]; exact hq) e
    · exact ac_no e0 r2 (by omega)
theorem ac_at {g : Nat → Row} (w : Nat → TG) {x : Nat} : ∀ {n : Nat}, hasR (acF g n) x = true → ∃ r, r < n ∧ hasR (g r) x = true ∧ acF g n x = g r x ∧ acW g w n x = w r x ∧ ∀ r2, r2 < r → hasR (g r2) x = false
  | 0, h => by
    have h1 : hasR emR x = true := h
    have h2 : emR x = -2 := rfl
    rw [hasR, h2] at h1
    exact absurd h1 (by decide)
  | n + 1, h => by
    by_cases e : hasR (acF g n) x = true
    · obtain ⟨r, h1, h2, h3, h4, h5⟩ := ac_at w e
      have e1 : acF g (n + 1) x = acF g n x := if_pos e
      have e2 : acW g w (n + 1) x = acW g w n x := if_pos e
      exact ⟨r, by omega, h2, e1.trans h3, e2.trans h4, h5⟩
    · have e1 : acF g (n + 1) x = g n x := if_neg e
      have e3 : acW g w (n + 1) x = w n x := if_neg e
      have e2 : hasR (g n) x = true := by
        rw [hasR, e1] at h
        exact h
      exact ⟨n, Nat.lt_succ_self n, e2, e1, e3, fun r2 h2 => ac_no e r2 h2⟩
theorem ac_fs (g : Nat → Row) (n x : Nat) : acF g n x = fsL g x n 0 := by
  by_cases h : hasR (acF g n) x = true
  · obtain ⟨r, h1, h2, h3, -, h5⟩ := ac_at (fun _ _ => (0, 0)) h
    rw [h3, fsL_some h2 (Nat.zero_le _) (by omega) (fun r2 _ h4 => h5 r2 h4)]
  · rw [hasR_f2 h, fsL_none (fun r2 _ h4 => ac_no h r2 (by omega))]
theorem ac_ok {g : Nat → Row} {n : Nat} (hok : ∀ r, r < n → okR (g r)) : okR (acF g n) := by
  refine ⟨fun j hj => ?_, fun j => ?_⟩
  · by_cases h : hasR (acF g n) j = true
    · obtain ⟨r, h1, -, h3, -⟩ := ac_at (fun _ _ => (0, 0)) h
      rw [h3]; exact (hok r h1).1 j hj
    · exact hasR_f2 h
  · by_cases h : hasR (acF g n) j = true
    · obtain ⟨r, h1, -, h3, -⟩ := ac_at (fun _ _ => (0, 0)) h
      rw [h3]; exact (hok r h1).2 j
    · exact Or.inl (hasR_f2 h)
/-- later runs have earlier slips -/
def ordL (g : Nat → Row) (w : Nat → TG) (n : Nat) : Prop := ∀ r1 r2 x, r1 < r2 → r2 < n → hasR (g r1) x = true → hasR (g r2) x = true → (w r2 x).1 < (w r1 x).1
theorem ac_ord {g : Nat → Row} {w : Nat → TG} {n r x : Nat} (ho : ordL g w n) (hr : r < n) (h : hasR (acF g r) x = true) (h2 : hasR (g r) x = true) : (w r x).1 < (acW g w r x).1 := by
  obtain ⟨r1, a1, a2, -, a4, -⟩ := ac_at w h
  rw [a4]
  exact ho r1 r x a1 hr a2 h2
/-! tombs left out -/
theorem lfP_0 (F : Row) : lfP F 0 = emR := by
  funext y
  exact if_neg (fun z => Nat.not_lt_zero _ z.1)
theorem lf_no {F : Row} {k : Nat} (hk : k < szR F) : ¬ hasR (lfP F k) (nthR F k) = true := fun z => by
  obtain ⟨h1, h2, h3⟩ := nth_at hk
  have e : lfP F k (nthR F k) = -2 := if_neg (fun q => by omega)
  exact ne_has z e
theorem lf_key {F : Row} (hok : okR F) {k : Nat} (hk : k < szR F) {y : Nat} (hne : y ≠ nthR F k) : lfP F (k + 1) y = lfP F k y := by
  unfold lfP
  by_cases e1 : cntB (hasR F) y < k ∧ F y ≠ -1
  · rw [if_pos e1, if_pos ⟨by omega, e1.2⟩]
  · rw [if_neg e1]
    by_cases e2 : cntB (hasR F) y < k + 1 ∧ F y ≠ -1
    · rw [if_pos e2]
      by_cases h4 : hasR F y = true
      · exact absurd (cnt_nth hk (by
          have : ¬ cntB (hasR F) y < k := fun z => e1 ⟨z, e2.2⟩
          omega) h4 (has_lt hok h4)) hne
      · exact hasR_f2 h4
    · rw [if_neg e2]
theorem lf_s1 {F : Row} (hok : okR F) {W : TG} {k t : Nat} (hk : k < szR F) (h : F (nthR F k) ≠ -1) : wF (lfP F k) W (nthR F k) (F (nthR F k)) t = lfP F (k + 1) := by
  obtain ⟨h1, h2, h3⟩ := nth_at hk
  unfold wF
  rw [if_neg (fun z => lf_no hk (by unfold wk at z; rw [Bool.and_eq_true] at z; exact z.1))]
  funext y
  unfold upd
  by_cases e : y = nthR F k
  · rw [if_pos e, e]
    exact (if_pos ⟨by omega, h⟩).symm
  · rw [if_neg e, lf_key hok hk e]
theorem lf_s2 {F : Row} (hok : okR F) {k : Nat} (hk : k < szR F) (h : F (nthR F k) = -1) : lfP F (k + 1) = lfP F k := by
  funext y
  by_cases e : y = nthR F k
  · rw [e]
    unfold lfP
    rw [if_neg (fun z => z.2 h), if_neg (fun z => z.2 h)]
  · exact lf_key hok hk e
theorem lf_T {F : Row} {W : TG} {k : Nat} (hk : k < szR F) : wT (lfP F k) W (nthR F k) (W (nthR F k)).1 (W (nthR F k)).2 = W := by
  unfold wT
  split
  · rfl
  · funext y
    by_cases e0 : y = nthR F k
    · rw [if_pos e0, e0]
    · rw [if_neg e0]
theorem lf_e {F : Row} (hok : okR F) (y : Nat) : lfP F (szR F) y = if F y = -1 then -2 else F y := by
  unfold lfP
  by_cases h : F y = -1
  · rw [if_pos h, if_neg (fun z => z.2 h)]
  · rw [if_neg h]
    by_cases h2 : cntB (hasR F) y < szR F
    · rw [if_pos ⟨h2, h⟩]
    · rw [if_neg (fun z => h2 z.1)]
      by_cases h4 : hasR F y = true
      · exact absurd ((cnt_le (has_lt hok h4)).2 h4) h2
      · exact (hasR_f2 h4).symm
theorem mk_ac {V : BV} {l : Nat} (hok : ∀ r, r < bN V l → okR (bG V l r)) : mkB V l = if nbA (bN V) l = true then lfP (acF (bG V l) (bN V l)) (szR (acF (bG V l) (bN V l))) else acF (bG V l) (bN V l) := by
  have hao := ac_ok hok
  funext y
  have e : mkB V l y = gaW (bN V l) (bG V l) (nbA (bN V) l) y := by
    unfold mkB gaP
    by_cases h : y < 64
    · rw [if_pos h]
    · rw [if_neg h]
      have h2 : acF (bG V l) (bN V l) y = -2 := hao.1 y (by omega)
      rw [ac_fs] at h2
      rw [gaW_n h2]
  rw [e]
  unfold gaW
  rw [← ac_fs]
  by_cases hb : nbA (bN V) l = true
  · rw [if_pos hb, lf_e hao]
    by_cases h : acF (bG V l) (bN V l) y = -1
    · rw [if_pos ⟨hb, h⟩, if_pos h]
    · rw [if_neg (fun z => h z.2), if_neg h]
  · rw [if_neg hb, if_neg (fun z => hb z.1)]
/-! the tags behind binding, merging, settling -/
abbrev TS : Type := Nat → Nat → TG
def cmT (ω : TS) (l : Nat) (w : TG) : TS := fun l2 => if l2 = l then (fun r => if r = 0 then w else ω l (r - 1)) else ω l2
def mgT (V : BV) (ω : TS) (l : Nat) : TS := if szR (mkB V l) = 0 then ω else cmT ω (min (l + 1) 3) (acW (bG V l) (ω l) (bN V l))
def stT (V : BV) (ω : TS) : Nat → TS
  | 0 => ω
  | m + 1 => if 3 ≤ bN (stB V m) m then mgT (stB V m) (stT V ω m) m else stT V ω m
def qL (V : BV) (l : Nat) : Nat := snA (fun r => szR (bG V l r)) (bN V l)
/-- what a merging makes at most: cells; 65 slots each -/
def mgC (V : BV) (l : Nat) : Nat := 4 + 2 * (qL V l + szR (acF (bG V l) (bN V l)))
def stC (V : BV) : Nat → Nat
  | 0 => 0
  | m + 1 => if 3 ≤ bN (stB V m) m then stC V m + mgC (stB V m) m else stC V m
/-! the Sim's cells -/
def sA (mo dk lv : Nat) (lvl : Nat → Nat) (row : Nat → Nat → Nat) (rm : Int32) (tm : Nat) (dt : Int32) (d : Row) (δ : TG) (V : BV) (ω : TS) (hp : HP) : Prop :=
  hp mo = some (eO 3 [.int rm, .int (nI tm), .int (bM V), .int dt, .int (bK V), .ref dk, .ref lv]) ∧ rn hp dk d δ ∧ mQ hp lv 5 4 lvl ∧ (∀ l, l < 4 → mQ hp (lvl l) 4 (bN V l) (row l)) ∧ (∀ l r, l < 4 → r < bN V l → rn hp (row l r) (bG V l r) (ω l r)) ∧ (∀ l, bN V l ≤ 3) ∧ ∀ l r, l < 4 → r < bN V l → 0 < szR (bG V l r) ∧ okR (bG V l r)
section SA
variable {mo dk lv : Nat} {lvl : Nat → Nat} {row : Nat → Nat → Nat} {rm : Int32} {tm : Nat} {dt : Int32} {d : Row} {δ : TG} {V : BV} {ω : TS} {hp hp' : HP}
theorem sA.cmo (h : sA mo dk lv lvl row rm tm dt d δ V ω hp) : hp mo = some (eO 3 [.int rm, .int (nI tm), .int (bM V), .int dt, .int (bK V), .ref dk, .ref lv]) := h.1
theorem sA.cdk (h : sA mo dk lv lvl row rm tm dt d δ V ω hp) : rn hp dk d δ := h.2.1
theorem sA.clv (h : sA mo dk lv lvl row rm tm dt d δ V ω hp) : mQ hp lv 5 4 lvl := h.2.2.1
theorem sA.clvl (h : sA mo dk lv lvl row rm tm dt d δ V ω hp) {l : Nat} (hl : l < 4) : mQ hp (lvl l) 4 (bN V l) (row l) := h.2.2.2.1 l hl
theorem sA.crow (h : sA mo dk lv lvl row rm tm dt d δ V ω hp) {l r : Nat} (hl : l < 4) (hr : r < bN V l) : rn hp (row l r) (bG V l r) (ω l r) := h.2.2.2.2.1 l r hl hr
theorem sA.le (h : sA mo dk lv lvl row rm tm dt d δ V ω hp) (l : Nat) : bN V l ≤ 3 := h.2.2.2.2.2.1 l
theorem sA.pos (h : sA mo dk lv lvl row rm tm dt d δ V ω hp) {l r : Nat} (hl : l < 4) (hr : r < bN V l) : 0 < szR (bG V l r) := (h.2.2.2.2.2.2 l r hl hr).1
theorem sA.ok (h : sA mo dk lv lvl row rm tm dt d δ V ω hp) {l r : Nat} (hl : l < 4) (hr : r < bN V l) : okR (bG V l r) := (h.2.2.2.2.2.2 l r hl hr).2
/-- the Sim in a heap that has all that was -/
theorem sA.mv (h : sA mo dk lv lvl row rm tm dt d δ V ω hp) (he : leH hp hp') : sA mo dk lv lvl row rm tm dt d δ V ω hp' := by
  obtain ⟨F, h1, h2⟩ := h.clv
  exact ⟨he _ _ h.cmo, h.cdk.mv he.x, ⟨F, he _ _ h1, h2⟩, fun l hl => (h.clvl hl).mv he.x (by decide), fun l r hl hr => (h.crow hl hr).mv he.x, h.le, h.2.2.2.2.2.2⟩
/-- its object is written -/
theorem sA.setO (h : sA mo dk lv lvl row rm tm dt d δ V ω hp) {rm2 : Int32} {tm2 : Nat} {mv2 dt2 mg2 : Int32} {dk2 : Nat} {d2 : Row} {δ2 : TG} (hd : rn hp dk2 d2 δ2) :
    sA mo dk2 lv lvl row rm2 tm2 dt2 d2 δ2 (setK (setM V mv2) mg2) ω (hput hp mo (eO 3 [.int rm2, .int (nI tm2), .int mv2, .int dt2, .int mg2, .ref dk2, .ref lv])) := by
  have he : exH hp (hput hp mo (eO 3 [.int rm2, .int (nI tm2), .int mv2, .int dt2, .int mg2, .ref dk2, .ref lv])) := exH.rf.set h.cmo rfl
  obtain ⟨F, h1, h2⟩ := h.clv
  have hne : lv ≠ mo := hp_ne2 h1 h.cmo (fun z => by cases z)
  exact ⟨hput_s _ _ _, hd.mv he, ⟨F, (hput_n _ _ hne).trans h1, h2⟩, fun l hl => (h.clvl hl).mv he (by decide), fun l r hl hr => (h.crow hl hr).mv he, h.le, h.2.2.2.2.2.2⟩
/-- a level's row is put in -/
theorem sA.setL (h : sA mo dk lv lvl row rm tm dt d δ V ω hp) {LF : Nat → Option Nat} (hLF : hp lv = some (eQ 5 4 LF)) (hLs : ∀ i, i < 4 → LF i = some (lvl i)) {l q n : Nat} {rw2 : Nat → Nat} {g : Nat → Row} {w2 : Nat → TG} (hq : mQ hp q 4 n rw2) (hrs : ∀ r, r < n → rn hp (rw2 r) (g r) (w2 r)) (hps : ∀ r, r < n → 0 < szR (g r) ∧ okR (g r)) (hn : n ≤ 3) :
    sA mo dk lv (fun l2 => if l2 = l then q else lvl l2) (fun l2 => if l2 = l then rw2 else row l2) rm tm dt d δ (setL V l n g) (fun l2 => if l2 = l then w2 else ω l2) (hput hp lv (eQ 5 4 (va_up LF l (some q)))) := by
  have he : exH hp (hput hp lv (eQ 5 4 (va_up LF l (some q)))) := exH.rf.set hLF rfl
  have hne : mo ≠ lv := hp_ne2 h.cmo hLF (fun z => by cases z)
  refine ⟨(hput_n _ _ hne).trans h.cmo, h.cdk.mv he, ⟨_, hput_s _ _ _, fun i hi => ?_⟩, fun l2 hl => ?_, fun l2 r hl hr => ?_, fun l2 => ?_, fun l2 r hl hr => ?_⟩
  · show (if i = l then some q else LF i) = some (if i = l then q else lvl i)
    by_cases e : i = l
    · rw [if_pos e, if_pos e]
    · rw [if_neg e, if_neg e]
      exact hLs i hi
  · show mQ _ (if l2 = l then q else lvl l2) 4 (if l2 = l then n else bN V l2) (if l2 = l then rw2 else row l2)
    by_cases e : l2 = l
    · rw [if_pos e, if_pos e, if_pos e]
      exact hq.mv he (by decide)
    · rw [if_neg e, if_neg e, if_neg e]
      exact (h.clvl hl).mv he (by decide)
  · have hr2 : r < (if l2 = l then n else bN V l2) := hr
    show rn _ ((if l2 = l then rw2 else row l2) r) ((if l2 = l then g else bG V l2) r) ((if l2 = l then w2 else ω l2) r)
    by_cases e : l2 = l
    · rw [if_pos e] at hr2
      rw [if_pos e, if_pos e, if_pos e]
      exact (hrs r hr2).mv he
    · rw [if_neg e] at hr2
      rw [if_neg e, if_neg e, if_neg e]
      exact (h.crow hl hr2).mv he
  · show (if l2 = l then n else bN V l2) ≤ 3
    split
    · exact hn
    · exact h.le l2
  · have hr2 : r < (if l2 = l then n else bN V l2) := hr
    show 0 < szR ((if l2 = l then g else bG V l2) r) ∧ okR ((if l2 = l then g else bG V l2) r)
    by_cases e : l2 = l
    · rw [if_pos e] at hr2
      rw [if_pos e]
      exact hps r hr2
    · rw [if_neg e] at hr2
      rw [if_neg e]
      exact h.2.2.2.2.2.2 l2 r hl hr2
end SA
/-- the Sim, its addresses left open but those that stay -/
def sP (mo dk lv : Nat) (rm : Int32) (tm : Nat) (dt : Int32) (d : Row) (δ : TG) (V : BV) (ω : TS) (hp : HP) : Prop := ∃ (lvl : Nat → Nat) (row : Nat → Nat → Nat), sA mo dk lv lvl row rm tm dt d δ V ω hp

/-! loops with an address that changes; calls of nest mates -/
theorem h_loopWO {G : hG} {A : Nat → Prop} {H0 : Heap} {Wf : Nat → Heap → List Loc → Array Slot → Prop} {nL : Nat} (N : Nat) (L : Nat → Nat → List (Nat × Value)) (I : Nat → Nat → HP → Prop)
    (hs : ∀ i : Nat, i ≤ N → ∀ (o : Nat) (hp : HP) (H : Heap) (locs : List Loc), I i o hp → hV G hp H → hIn A hp → va_S A H0 H locs → (∀ (o2 : Nat) (hp : HP) (H : Heap) (locs : List Loc), i < N → I (i + 1) o2 hp → hV G hp H → hIn A hp → va_S A H0 H locs → ∀ ls : Array Slot, lv_has ls nL (L (i + 1) o2) → Wf (i + 1) H locs ls) → ∀ ls : Array Slot, lv_has ls nL (L i o) → Wf i H locs ls) :
    ∀ i : Nat, i ≤ N → ∀ (o : Nat) (hp : HP) (H : Heap) (locs : List Loc), I i o hp → hV G hp H → hIn A hp → va_S A H0 H locs → ∀ ls : Array Slot, lv_has ls nL (L i o) → Wf i H locs ls := by
  have key : ∀ k i : Nat, i + k = N → ∀ (o : Nat) (hp : HP) (H : Heap) (locs : List Loc), I i o hp → hV G hp H → hIn A hp → va_S A H0 H locs → ∀ ls : Array Slot, lv_has ls nL (L i o) → Wf i H locs ls := by
    intro k
    induction k with
    | zero => intro i hk o hp H locs h1 h2 h3 h4; exact hs i (by omega) o hp H locs h1 h2 h3 h4 (fun _ _ _ _ h => absurd h (by omega))
    | succ k ih => intro i hk o hp H locs h1 h2 h3 h4; exact hs i (by omega) o hp H locs h1 h2 h3 h4 (fun o2 hp H locs _ a b c d => ih (i + 1) (by omega) o2 hp H locs a b c d)
  intro i hi
  exact key (N - i) i (by omega)
section HN
variable {p : Program} {l : Launch} {e : Env} {R : Room} {s : State} {m : MethodId} {args : Array Value} {below : List Frame} {meth : Method} {c : Code} {H : Heap} {locs : List Loc} {cells slots : Nat} {Q : State → Prop}
variable {cc : ByteArray} {pc : Nat} {ls : Array Slot} {rest st0 : List Value} {G : hG} {hp : HP} {A : Nat → Prop} {a : Nat} {H0 : Heap} {mc ms : Nat}
theorem h_wrSN {own host : String} {index maxL nL fr lo : Nat} {y : MethodName} {bytes : ByteArray} {ret : Option FieldType} {Ts ws ws' : List Cond} {As : List Value} {P : Option Value → HP → Prop} (S : CallFix p m c cc nL s args Ts own) (hM : hWr l y ws fr lo mc ms G A hp As P) (n : Nat) (hT : GoodIn Ts ws) (hw : ws = Cond.code y bytes maxL ret :: ws') (hl9 : va_Nw (.methodLinkNest own index y host) s) (hini : (Cond.initialized y.cls).before args s = true) (hst : (Cond.static y).before args s = true)
    (hd : y.cls ≠ "java/lang/invoke/MethodHandle" ∧ y.cls ≠ "java/lang/invoke/VarHandle" ∧ (parseMethodDescriptor y.desc).map (fun d => d.parameters.length) = some n) (hRm : fr + 1 ≤ R.frames ∧ 8 + (maxL + 11) + lo ≤ R.locals) (hK0 : hK G s) (hV0 : hV G hp H) (hA : ∀ q : Nat, s.heap.size ≤ q → A q) (hS : va_S A s.heap H locs)
    (hn : As.length = n) (hsize : ls.size = nL) (hstack : st0 = As.reverse ++ rest) (hWs : (rest.map fun v => v.category).sum ≤ 8) (hcl : cells + mc ≤ R.cells ∧ slots + ms ≤ R.slots) (hdg : decode cc pc = .ok (.invokestatic index, 3))
    (kk : ∀ (ro : Option Value) (hp' : HP) (H1 : Heap) (locs1 : List Loc), P ro hp' → hV G hp' H1 → hIn A hp' → va_S A s.heap H1 locs1 → W p l e R s m args below meth c H1 locs1 (cells + mc) (slots + ms) Q (F0 m (pc + 3) ls (ro.toList ++ rest))) : W p l e R s m args below meth c H locs cells slots Q (F0 m pc ls st0) :=
  h_callW (va_runSN (As := As) (rest := rest) S hM ⟨va_cnB n S.2.2.2.2 hT hw rfl rfl hl9 hini hd hRm, hst, trivial⟩ (h_preSw hK0 hV0 hA hS) rfl hn hsize hstack (lv_room hWs) hdg hcl) hS kk
theorem h_rdSN {own host : String} {index maxL nL fr lo : Nat} {y : MethodName} {bytes : ByteArray} {ret : Option FieldType} {Ts ws ws' : List Cond} {As : List Value} {ro : Option Value} (S : CallFix p m c cc nL s args Ts own) (hM : hRd l y ws fr lo G hp As ro) (n : Nat) (hT : GoodIn Ts ws) (hw : ws = Cond.code y bytes maxL ret :: ws') (hl9 : va_Nw (.methodLinkNest own index y host) s) (hini : (Cond.initialized y.cls).before args s = true) (hst : (Cond.static y).before args s = true)
    (hd : y.cls ≠ "java/lang/invoke/MethodHandle" ∧ y.cls ≠ "java/lang/invoke/VarHandle" ∧ (parseMethodDescriptor y.desc).map (fun d => d.parameters.length) = some n) (hRm : fr + 1 ≤ R.frames ∧ 8 + (maxL + 11) + lo ≤ R.locals) (hK0 : hK G s) (hV0 : hV G hp H)
    (hn : As.length = n) (hsize : ls.size = nL) (hstack : st0 = As.reverse ++ rest) (hWs : (rest.map fun v => v.category).sum ≤ 8) (hcl : cells ≤ R.cells) (hsl : slots ≤ R.slots) (hdg : decode cc pc = .ok (.invokestatic index, 3))
    (kk : W p l e R s m args below meth c H locs cells slots Q (F0 m (pc + 3) ls (ro.toList ++ rest))) : W p l e R s m args below meth c H locs cells slots Q (F0 m pc ls st0) :=
  h_callR (fun q h => h) (va_runSN (As := As) (rest := rest) S hM ⟨va_cnB n S.2.2.2.2 hT hw rfl rfl hl9 hini hd hRm, hst, trivial⟩ (h_preS hK0 hV0) rfl hn hsize hstack (lv_room hWs) hdg ⟨hcl, hsl⟩) kk
end HN
/-! one slip more is gathered -/
theorem ac_step {hp : HP} {g : Nat → Row} {w : Nat → TG} {n r k q2 : Nat} (ho : ordL g w n) (hr : r < n) (hok : okR (g r)) (hk : k < szR (g r))
    (h : rn hp q2 (wF (acP (acF g r) (g r) k) (acW g w (r + 1)) (nthR (g r) k) (g r (nthR (g r) k)) (w r (nthR (g r) k)).1) (wT (acP (acF g r) (g r) k) (acW g w (r + 1)) (nthR (g r) k) (w r (nthR (g r) k)).1 (w r (nthR (g r) k)).2)) : rn hp q2 (acP (acF g r) (g r) (k + 1)) (acW g w (r + 1)) := by
  have hh := (nth_at hk).2.1
  have e0 : ∀ y, hasR (acF g r) y = true → acW g w (r + 1) y = acW g w r y := fun y hy => if_pos hy
  have e1 := acP_s (F := acF g r) (f := g r) (W := acW g w (r + 1)) (t := (w r (nthR (g r) k)).1) hok hk (fun z => by rw [e0 _ z]; exact ac_ord ho hr z hh)
  have e2 := acT_s (F := acF g r) (f := g r) (T := acW g w r) (w := w r) hk (fun z => ac_ord ho hr z hh)
  rw [e1] at h
  have e3 : wT (acP (acF g r) (g r) k) (acW g w (r + 1)) (nthR (g r) k) (w r (nthR (g r) k)).1 (w r (nthR (g r) k)).2 = acW g w (r + 1) := e2
  rw [e3] at h
  exact h
theorem ac_in {hp : HP} {g : Nat → Row} {w : Nat → TG} {r q : Nat} (h : rn hp q (acF g r) (acW g w r)) : rn hp q (acP (acF g r) (g r) 0) (acW g w (r + 1)) := by
  rw [acP_0]
  exact h.cg (fun y _ hh => (if_pos hh).symm)
theorem ac_out {hp : HP} {g : Nat → Row} {w : Nat → TG} {r q k : Nat} (hok : okR (g r)) (hk : k = szR (g r)) (h : rn hp q (acP (acF g r) (g r) k) (acW g w (r + 1))) : rn hp q (acF g (r + 1)) (acW g w (r + 1)) := by
  rw [acF_s hok, ← hk]
  exact h
theorem lf_step {hp : HP} {F : Row} {W : TG} {k q2 : Nat} (hok : okR F) (hk : k < szR F) (hne : F (nthR F k) ≠ -1)
    (h : rn hp q2 (wF (lfP F k) W (nthR F k) (F (nthR F k)) (W (nthR F k)).1) (wT (lfP F k) W (nthR F k) (W (nthR F k)).1 (W (nthR F k)).2)) : rn hp q2 (lfP F (k + 1)) W := by
  rw [lf_s1 hok hk hne, lf_T hk] at h
  exact h
theorem emR_sz : szR emR = 0 := by decide
theorem rn_new {hp : HP} {q : Nat} {f : Nat → Option Nat} {w : TG} (h : hp q = some (eQ 3 0 f)) : rn hp q emR w := by
  refine ⟨⟨f, by rw [emR_sz]; exact h, fun i hi => by rw [emR_sz] at hi; exact absurd hi (Nat.not_lt_zero i)⟩, fun y _ hh => ?_⟩
  exact absurd hh (by show ¬ hasR emR y = true; unfold hasR; show ¬ (!decide ((-2 : Int32) = -2)) = true; decide)
theorem snA_mono {f : Nat → Nat} {a b : Nat} (h : a ≤ b) : snA f a ≤ snA f b := by
  induction b with
  | zero => rw [show a = 0 by omega]; exact Nat.le_refl _
  | succ b ih =>
    by_cases e : a = b + 1
    · rw [e]; exact Nat.le_refl _
    · have := ih (by omega)
      show _ ≤ snA f b + f b
      omega
theorem snA_s (f : Nat → Nat) (n : Nat) : snA f (n + 1) = snA f n + f n := rfl
/-! the runs behind a level -/
abbrev sbF (n : Nat → Nat) (a : Nat) : Nat → Nat := fun j => if a ≤ j then n j else 0
theorem sb_0 (n : Nat → Nat) (a : Nat) : ∀ i, i ≤ a → snA (sbF n a) i = 0
  | 0, _ => rfl
  | i + 1, h => by
    show snA (sbF n a) i + (if a ≤ i then n i else 0) = 0
    rw [sb_0 n a i (by omega), if_neg (by omega)]
theorem sb_s {n : Nat → Nat} {a i : Nat} (h : a ≤ i) : snA (sbF n a) i + n i = snA (sbF n a) (i + 1) := by
  show _ = snA (sbF n a) i + (if a ≤ i then n i else 0)
  rw [if_pos h]
theorem sb_le {n : Nat → Nat} (hn : ∀ l, n l ≤ 3) (a : Nat) : ∀ i, snA (sbF n a) i ≤ 3 * i
  | 0 => Nat.le_refl _
  | i + 1 => by
    have h1 := sb_le hn a i
    have h2 := hn i
    show snA (sbF n a) i + (if a ≤ i then n i else 0) ≤ _
    split <;> omega
theorem snb_at {n : Nat → Nat} {a j : Nat} (hj : a ≤ j) : ∀ {i : Nat}, j < i → n j ≤ snA (sbF n a) i
  | 0, h => absurd h (Nat.not_lt_zero j)
  | i + 1, h => by
    show _ ≤ snA (sbF n a) i + (if a ≤ i then n i else 0)
    by_cases e : j = i
    · rw [e, if_pos (by omega)]; omega
    · have := snb_at (n := n) hj (i := i) (by omega)
      omega
theorem sb_z {n : Nat → Nat} {a : Nat} : ∀ {i : Nat}, (∀ j, a ≤ j → j < i → n j = 0) → snA (sbF n a) i = 0
  | 0, _ => rfl
  | i + 1, h => by
    show snA (sbF n a) i + (if a ≤ i then n i else 0) = 0
    rw [sb_z (fun j h1 h2 => h j h1 (by omega))]
    split
    · rw [h i (by omega) (by omega)]
    · rfl
theorem sb_nb {V : BV} {l : Nat} (hl : l < 4) : nbA (bN V) l = decide (snA (sbF (bN (clB V l)) (l + 1)) 4 = 0) := by
  have hc : ∀ j, l < j → bN (clB V l) j = bN V j := fun j hj => if_neg (by omega)
  by_cases h : ∀ j, l < j → j < 4 → bN V j = 0
  · rw [decide_eq_true (sb_z (fun j h1 h2 => by rw [hc j (by omega)]; exact h j (by omega) h2))]
    unfold nbA
    exact nbR_t (fun l2 h1 h2 => h l2 (by omega) (by omega))
  · have h2 : ∃ j, l < j ∧ j < 4 ∧ ¬ bN V j = 0 := by
      apply Classical.byContradiction
      intro hne
      apply h
      intro j h3 h1
      apply Classical.byContradiction
      intro h4
      exact hne ⟨j, h3, h1, h4⟩
    obtain ⟨j, h1, h3, h4⟩ := h2
    rw [decide_eq_false (fun z => by
      have := snb_at (n := bN (clB V l)) (a := l + 1) (j := j) (by omega) (i := 4) h3
      rw [hc j h1] at this
      omega)]
    unfold nbA
    exact nbR_f h4 (by omega) (by omega)
theorem mgT_0 {V : BV} {ω : TS} {l : Nat} (h : szR (mkB V l) = 0) : mgT V ω l = ω := if_pos h
theorem mgT_1 {V : BV} {ω : TS} {l : Nat} (h : ¬ szR (mkB V l) = 0) : mgT V ω l = cmT ω (min (l + 1) 3) (acW (bG V l) (ω l) (bN V l)) := if_neg h
theorem om_same (ω : TS) (l : Nat) : (fun l2 => if l2 = l then ω l else ω l2) = ω := by
  funext l2
  by_cases e : l2 = l
  · rw [if_pos e, e]
  · rw [if_neg e]
theorem mk_ok {V : BV} {l : Nat} (hok : ∀ r, r < bN V l → okR (bG V l r)) : okR (mkB V l) := by
  rw [mk_ac hok]
  have h := ac_ok hok
  split
  · refine ⟨fun j hj => ?_, fun j => ?_⟩
    · rw [lf_e h]
      split
      · rfl
      · exact h.1 j hj
    · rw [lf_e h]
      split
      · exact Or.inl rfl
      · exact h.2 j
  · exact h
theorem mk_1 {V : BV} {l : Nat} (hok : ∀ r, r < bN V l → okR (bG V l r)) (h : nbA (bN V) l = true) : mkB V l = lfP (acF (bG V l) (bN V l)) (szR (acF (bG V l) (bN V l))) := by rw [mk_ac hok, if_pos h]
theorem mk_0 {V : BV} {l : Nat} (hok : ∀ r, r < bN V l → okR (bG V l r)) (h : nbA (bN V) l = false) : mkB V l = acF (bG V l) (bN V l) := by rw [mk_ac hok, if_neg (by rw [h]; decide)]
