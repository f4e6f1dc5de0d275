/-! the model: its object -/
def mQ (hp : HP) (a t n : Nat) (x : Nat → Nat) : Prop := ∃ F : Nat → Option Nat, hp a = some (eQ t n F) ∧ ∀ i, i < n → F i = some (x i)
def mN (hp : HP) (a : Nat) (rm mv dt mg : Int32) : Prop := ∃ F : Nat → Int32, hp a = some (eI 4 F) ∧ F 0 = rm ∧ F 1 = mv ∧ F 2 = dt ∧ F 3 = mg
def mNv (rm mv dt mg : Int32) : Nat → Int32
  | 0 => rm
  | 1 => mv
  | 2 => dt
  | _ => mg
section HM2
variable {p : Program} {l : Launch} {e : Env} {R : Room} {s : State} {m : MethodId} {args : Array Value} {below : List Frame} {meth : Method} {c : Code} {H : Heap} {locs : List Loc} {cells slots : Nat} {Q : State → Prop}
variable {cc : ByteArray} {pc : Nat} {ls : Array Slot} {rest st0 : List Value} {G : hG} {hp : HP} {A : Nat → Prop} {a : Nat} {H0 : Heap} {mc ms : Nat}
theorem h_ialdE {f : Row} {i : Nat} (hm : mR hp a f) (hexec : p.tables.exec = Jvm.exec) (hb : c.code = cc) (hK0 : hK G s) (hV0 : hV G hp H) (hi : i < 64) (hdg : decode cc pc = .ok (.iaload, 1))
    (kk : W p l e R s m args below meth c H locs cells slots Q (F0 m (pc + 1) ls (.int (sw (f i)) :: rest))) : W p l e R s m args below meth c H locs cells slots Q (F0 m pc ls (.int (nI i) :: .ref a :: rest)) := by
  obtain ⟨F, h1, h2⟩ := hm
  exact h_ialdS (h2 i hi) hexec hb hK0 hV0 h1 hi (by omega) hdg kk
theorem h_alenE {f : Row} (hm : mR hp a f) (hexec : p.tables.exec = Jvm.exec) (hb : c.code = cc) (hK0 : hK G s) (hV0 : hV G hp H) (hdg : decode cc pc = .ok (.arraylength, 1))
    (kk : W p l e R s m args below meth c H locs cells slots Q (F0 m (pc + 1) ls (.int (nI 64) :: rest))) : W p l e R s m args below meth c H locs cells slots Q (F0 m pc ls (.ref a :: rest)) := by
  obtain ⟨F, h1, h2⟩ := hm
  exact h_alen hexec hb hK0 hV0 h1 rfl hdg kk
theorem h_aaldE {t n : Nat} {ty : FieldType} {x : Nat → Nat} {i : Nat} (hm : mQ hp a t n x) (hexec : p.tables.exec = Jvm.exec) (hb : c.code = cc) (hK0 : hK G s) (hV0 : hV G hp H) (ht : (hTs G)[t]? = some (G.2 t, ty)) (hr : ty.isReference = true) (hi : i < n) (hn : n < 2 ^ 31) (hdg : decode cc pc = .ok (.aaload, 1))
    (kk : W p l e R s m args below meth c H locs cells slots Q (F0 m (pc + 1) ls (.ref (x i) :: rest))) : W p l e R s m args below meth c H locs cells slots Q (F0 m pc ls (.int (nI i) :: .ref a :: rest)) := by
  obtain ⟨F, h1, h2⟩ := hm
  exact h_aaldS (h2 i hi) hexec hb hK0 hV0 h1 ht hr hi hn hdg kk
theorem h_alenQ {t n : Nat} {ty : FieldType} {x : Nat → Nat} (hm : mQ hp a t n x) (hexec : p.tables.exec = Jvm.exec) (hb : c.code = cc) (hK0 : hK G s) (hV0 : hV G hp H) (ht : (hTs G)[t]? = some (G.2 t, ty)) (hdg : decode cc pc = .ok (.arraylength, 1))
    (kk : W p l e R s m args below meth c H locs cells slots Q (F0 m (pc + 1) ls (.int (nI n) :: rest))) : W p l e R s m args below meth c H locs cells slots Q (F0 m pc ls (.ref a :: rest)) := by
  obtain ⟨F, h1, h2⟩ := hm
  exact h_alen hexec hb hK0 hV0 h1 ht hdg kk
theorem h_ialdN {rm mv dt mg x : Int32} {i : Nat} (hm : mN hp a rm mv dt mg) (hx : mNv rm mv dt mg i = x) (hi : i < 4) (hexec : p.tables.exec = Jvm.exec) (hb : c.code = cc) (hK0 : hK G s) (hV0 : hV G hp H) (hdg : decode cc pc = .ok (.iaload, 1))
    (kk : W p l e R s m args below meth c H locs cells slots Q (F0 m (pc + 1) ls (.int x :: rest))) : W p l e R s m args below meth c H locs cells slots Q (F0 m pc ls (.int (nI i) :: .ref a :: rest)) := by
  obtain ⟨F, h1, h2, h3, h4, h5⟩ := hm
  refine h_ialdS ?_ hexec hb hK0 hV0 h1 hi (by omega) hdg kk
  rcases (show i = 0 ∨ i = 1 ∨ i = 2 ∨ i = 3 by omega) with q | q | q | q <;> subst q
  · exact h2.trans hx
  · exact h3.trans hx
  · exact h4.trans hx
  · exact h5.trans hx
end HM2
/-- the levels: numbers of runs, runs, what was moved, what was merged -/
abbrev BV : Type := (Nat → Nat) × (Nat → Nat → Row) × Int32 × Int32
def bN (B : BV) : Nat → Nat := B.1
def bG (B : BV) : Nat → Nat → Row := B.2.1
def bM (B : BV) : Int32 := B.2.2.1
def bK (B : BV) : Int32 := B.2.2.2
def mA (mo dk lv nb : Nat) (lvl : Nat → Nat) (row : Nat → Nat → Nat) (th : Int32) (d : Row) (B : BV) (rm dt : Int32) (hp : HP) : Prop :=
  hp mo = some (eO 3 [.int th, .ref dk, .ref lv, .ref nb]) ∧ mR hp dk d ∧ mQ hp lv 4 4 lvl ∧ mN hp nb rm (bM B) dt (bK B) ∧ (∀ l, l < 4 → mQ hp (lvl l) 3 (bN B l) (row l)) ∧ (∀ l r, l < 4 → r < bN B l → mR hp (row l r) (bG B l r) ∧ 0 < szR (bG B l r)) ∧ ∀ l, bN B l ≤ 3
section MA
variable {mo dk lv nb : Nat} {lvl : Nat → Nat} {row : Nat → Nat → Nat} {th : Int32} {d : Row} {B : BV} {rm dt : Int32} {hp : HP}
theorem mA.cmo (h : mA mo dk lv nb lvl row th d B rm dt hp) : hp mo = some (eO 3 [.int th, .ref dk, .ref lv, .ref nb]) := h.1
theorem mA.cdk (h : mA mo dk lv nb lvl row th d B rm dt hp) : mR hp dk d := h.2.1
theorem mA.clv (h : mA mo dk lv nb lvl row th d B rm dt hp) : mQ hp lv 4 4 lvl := h.2.2.1
theorem mA.cnb (h : mA mo dk lv nb lvl row th d B rm dt hp) : mN hp nb rm (bM B) dt (bK B) := h.2.2.2.1
theorem mA.clvl (h : mA mo dk lv nb lvl row th d B rm dt hp) {l : Nat} (hl : l < 4) : mQ hp (lvl l) 3 (bN B l) (row l) := h.2.2.2.2.1 l hl
theorem mA.crow (h : mA mo dk lv nb lvl row th d B rm dt hp) {l r : Nat} (hl : l < 4) (hr : r < bN B l) : mR hp (row l r) (bG B l r) := (h.2.2.2.2.2.1 l r hl hr).1
theorem mA.pos (h : mA mo dk lv nb lvl row th d B rm dt hp) {l r : Nat} (hl : l < 4) (hr : r < bN B l) : 0 < szR (bG B l r) := (h.2.2.2.2.2.1 l r hl hr).2
theorem mA.le (h : mA mo dk lv nb lvl row th d B rm dt hp) (l : Nat) : bN B l ≤ 3 := h.2.2.2.2.2.2 l
end MA
theorem fstB_at {p : Nat → Bool} : ∀ k i, (∃ n, i ≤ n ∧ n < i + k ∧ p n = true) → p (fstB p k i) = true ∧ fstB p k i < i + k ∧ ∀ m, i ≤ m → m < fstB p k i → p m = false
  | 0, i, h => by obtain ⟨n, h1, h2, -⟩ := h; omega
  | k + 1, i, h => by
    unfold fstB
    by_cases e : p i = true
    · rw [if_pos e]
      exact ⟨e, by omega, fun m h1 h2 => by omega⟩
    · rw [if_neg e]
      obtain ⟨n, h1, h2, h3⟩ := h
      have hne : i ≠ n := fun q => e (q ▸ h3)
      obtain ⟨g1, g2, g3⟩ := fstB_at (p := p) k (i + 1) ⟨n, by omega, by omega, h3⟩
      refine ⟨g1, by omega, fun m h4 h5 => ?_⟩
      by_cases q : m = i
      · rw [q]; exact Bool.eq_false_iff.mpr e
      · exact g3 m (by omega) h5
theorem ls_at {f : Row} (h : 0 < szR f) : lsR f < 64 ∧ hasR f (lsR f) = true ∧ ∀ k, 0 ≤ k → k < lsR f → hasR f k = false := by
  obtain ⟨y, h1, h2, -⟩ := cnt_ex (p := hasR f) (m := 64) h
  obtain ⟨g1, g2, g3⟩ := fstB_at (p := hasR f) 64 0 ⟨y, Nat.zero_le _, by omega, h2⟩
  exact ⟨by have : fstB (hasR f) 64 0 < 0 + 64 := g2; unfold lsR; omega, g1, g3⟩
theorem lstB_at {p : Nat → Bool} : ∀ n, (∃ k, k < n ∧ p k = true) → ∃ y, y < n ∧ lstB p n = nI y ∧ p y = true ∧ ∀ k, y < k → k < n → p k = false
  | 0, h => by obtain ⟨k, h1, -⟩ := h; omega
  | n + 1, h => by
    unfold lstB
    by_cases e : p n = true
    · rw [if_pos e]
      exact ⟨n, Nat.lt_succ_self n, rfl, e, fun k h1 h2 => by omega⟩
    · rw [if_neg e]
      obtain ⟨k, h1, h2⟩ := h
      have hne : n ≠ k := fun q => e (q ▸ h2)
      obtain ⟨y, g1, g2, g3, g4⟩ := lstB_at n ⟨k, by omega, h2⟩
      refine ⟨y, by omega, g2, g3, fun k h3 h4 => ?_⟩
      by_cases q : k = n
      · rw [q]; exact Bool.eq_false_iff.mpr e
      · exact g4 k h3 (by omega)
theorem gr_at {f : Row} (h : 0 < szR f) : ∃ y, y < 64 ∧ grR f = nI y ∧ hasR f y = true ∧ ∀ k, y < k → k < 64 → hasR f k = false := by
  obtain ⟨y, h1, h2, -⟩ := cnt_ex (p := hasR f) (m := 64) h
  exact lstB_at 64 ⟨y, h1, h2⟩
theorem opn_1 {f : Row} {x : Nat} (hz : 0 < szR f) (hh : hasR f x = false) (h : x ≤ lsR f) : opnC f x = false := by
  unfold opnC
  by_cases e : lsR f ≤ x
  · have : x = lsR f := by omega
    rw [this, (ls_at hz).2.1] at hh
    cases hh
  · rw [decide_eq_false e]; rfl
theorem opn_2 {f : Row} {x : Nat} (hx : x < 64) (hz : 0 < szR f) (hh : hasR f x = false) (h : grR f ≤ nI x) : opnC f x = false := by
  unfold opnC
  obtain ⟨y, h1, h2, h3, -⟩ := gr_at hz
  rw [h2] at h ⊢
  by_cases e : nI x ≤ nI y
  · have h4 := (nI_leI (by omega) (by omega)).mp e
    have h5 := (nI_leI (by omega) (by omega)).mp h
    have : x = y := by omega
    rw [this, h3] at hh
    cases hh
  · rw [decide_eq_false e]; simp
theorem opn_3 {f : Row} {x : Nat} (h : ¬ x ≤ lsR f) (h2 : ¬ grR f ≤ nI x) : opnC f x = opR f (x % 8) := by
  unfold opnC
  rw [decide_eq_true (by omega), decide_eq_true (Int32.le_of_lt (Int32.not_le.mp h2))]
  simp
theorem sw_max (v : Int32) : (if -1 < sw v then sw v else -1) = (if 0 ≤ v then v else -1) := by
  by_cases h1 : v = -2
  · subst h1; decide
  · by_cases h2 : v = -1
    · subst h2; decide
    · rw [sw_e h1 h2]
      by_cases h3 : 0 ≤ v
      · rw [if_pos h3, if_pos (Int32.lt_of_lt_of_le (by decide) h3)]
      · rw [if_neg h3]
        split
        · rename_i h4
          have h5 : v = -1 ∨ 0 ≤ v := by
            have h6 := Int32.lt_iff_toInt_lt.mp h4
            have h7 : (-1 : Int32).toInt = -1 := by decide
            rw [h7] at h6
            right
            have h8 : (0 : Int32).toInt = 0 := by decide
            exact Int32.le_iff_toInt_le.mpr (by rw [h8]; omega)
          rcases h5 with h5 | h5
          · exact absurd h5 h2
          · exact absurd h5 h3
        · rfl
/-! whether a run has the first slip, as the model counts it -/
def okS (g : LV) (l r x k i : Nat) : Bool := decide (k = l ∧ r ≤ i) || !hasR (g k i) x
def al1 (g : LV) (l r x k : Nat) (b : Bool) : Nat → Bool
  | 0 => b
  | i + 1 => al1 g l r x k b i && okS g l r x k i
def al2 (n : Nat → Nat) (g : LV) (l r x : Nat) : Nat → Bool
  | 0 => true
  | k + 1 => al1 g l r x k (al2 n g l r x k) (n k)
theorem al1_iff {g : LV} {l r x k : Nat} {b : Bool} : ∀ m, al1 g l r x k b m = true ↔ b = true ∧ ∀ i, i < m → okS g l r x k i = true
  | 0 => ⟨fun h => ⟨h, fun i hi => absurd hi (Nat.not_lt_zero i)⟩, fun h => h.1⟩
  | m + 1 => by
    unfold al1
    rw [Bool.and_eq_true, al1_iff m]
    refine ⟨fun h => ⟨h.1.1, fun i hi => ?_⟩, fun h => ⟨⟨h.1, fun i hi => h.2 i (by omega)⟩, h.2 m (Nat.lt_succ_self m)⟩⟩
    by_cases e : i = m
    · rw [e]; exact h.2
    · exact h.1.2 i (by omega)
theorem al2_iff {n : Nat → Nat} {g : LV} {l r x : Nat} : ∀ m, al2 n g l r x m = true ↔ ∀ k, k < m → ∀ i, i < n k → okS g l r x k i = true
  | 0 => ⟨fun _ k hk => absurd hk (Nat.not_lt_zero k), fun _ => rfl⟩
  | m + 1 => by
    unfold al2
    rw [al1_iff, al2_iff m]
    refine ⟨fun h k hk => ?_, fun h => ⟨fun k hk => h k (by omega), h m (Nat.lt_succ_self m)⟩⟩
    by_cases e : k = m
    · rw [e]; exact h.2
    · exact h.1 k (by omega)
theorem okS_lt {g : LV} {l r x k i : Nat} (h : okS g l r x k i = true) (hn : ¬ (k = l ∧ r ≤ i)) : hasR (g k i) x = false := by
  unfold okS at h
  rw [decide_eq_false hn] at h
  simpa using h
theorem al2_fr {n : Nat → Nat} {g : LV} {l r x : Nat} (hr : r < n l) (hh : hasR (g l r) x = true) : al2 n g l r x (l + 1) = frA n g l r x := by
  unfold frA
  rw [hh, Bool.and_true]
  rw [Bool.eq_iff_iff, al2_iff, Bool.and_eq_true, decide_eq_true_iff, decide_eq_true_iff]
  refine ⟨fun h => ⟨fun l2 h2 => fsL_iff.mpr (fun i hi => okS_lt (h l2 (by omega) i hi) (by omega)), fun r2 h2 => okS_lt (h l (by omega) r2 (by omega)) (by omega)⟩, fun h k hk i hi => ?_⟩
  unfold okS
  by_cases e : k = l ∧ r ≤ i
  · rw [decide_eq_true e]; rfl
  · rw [decide_eq_false e]
    by_cases e2 : k = l
    · subst e2
      rw [h.2 i (by omega)]; rfl
    · rw [fsL_iff.mp (h.1 k (by omega)) i hi]; rfl
theorem sd_n1 {n : Nat → Nat} {g : LV} {d : Row} {l r x : Nat} (h : hasR (g l r) x = false) : (!hasR d x && frA n g l r x) = false := by
  unfold frA
  rw [h]
  simp
theorem sd_n2 {n : Nat → Nat} {g : LV} {d : Row} {l r x : Nat} (h : hasR d x = true) : (!hasR d x && frA n g l r x) = false := by
  rw [h]; rfl
theorem sd_y {n : Nat → Nat} {g : LV} {d : Row} {l r x : Nat} (hr : r < n l) (hh : hasR (g l r) x = true) (hd : hasR d x = false) : (!hasR d x && frA n g l r x) = al2 n g l r x (l + 1) := by
  rw [hd, al2_fr hr hh]; rfl
def dgN (f : Row) (d : Int64) : Nat → Int64
  | 0 => d
  | k + 1 => dgN f d k * 31 + (toldR f (nthR f k)).toInt64
theorem dgN_F (f : Row) (d : Int64) : ∀ m, m ≤ 64 → dgF f d m = dgN f d (cntB (hasR f) m)
  | 0, _ => rfl
  | m + 1, h => by
    have ih := dgN_F f d m (by omega)
    by_cases e : hasR f m = true
    · rw [dgF_y e, cntB_y e, ih]
      show _ = dgN f d (cntB (hasR f) m) * 31 + (toldR f (nthR f (cntB (hasR f) m))).toInt64
      rw [nthR_of (i := m) (by omega) e rfl]
    · have e2 : hasR f m = false := Bool.eq_false_iff.mpr e
      rw [dgF_n e2, cntB_n e2, ih]
theorem dgN_e (f : Row) (d : Int64) : dgN f d (szR f) = dgF f d 64 := (dgN_F f d 64 (Nat.le_refl _)).symm
