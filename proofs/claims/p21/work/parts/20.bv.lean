/-! rows of arrays that are known; a run, its places -/
section HM
variable {p : Program} {l : Launch} {e : Env} {R : Room} {s : State} {m : MethodId} {args : Array Value} {below : List Frame} {meth : Method} {c : Code} {H : Heap} {locs : List Loc} {cells slots : Nat} {Q : State → Prop}
variable {cc : ByteArray} {pc : Nat} {ls : Array Slot} {rest st0 : List Value} {G : hG} {hp : HP} {A : Nat → Prop} {a : Nat} {H0 : Heap} {mc ms : Nat}
theorem h_ialdS {n : Nat} {f : Nat → Int32} {i : Nat} {x : Int32} (hfx : f i = x) (hexec : p.tables.exec = Jvm.exec) (hb : c.code = cc) (hK0 : hK G s) (hV0 : hV G hp H) (he : hp a = some (eI n f)) (hi : i < n) (hn : n < 2 ^ 31) (hdg : decode cc pc = .ok (.iaload, 1))
    (kk : W p l e R s m args below meth c H locs cells slots Q (F0 m (pc + 1) ls (.int x :: rest))) : W p l e R s m args below meth c H locs cells slots Q (F0 m pc ls (.int (nI i) :: .ref a :: rest)) := by
  subst hfx
  exact h_iald hexec hb hK0 hV0 he hi hn hdg kk
theorem h_aaldS {t n : Nat} {ty : FieldType} {f : Nat → Option Nat} {i x : Nat} (hfx : f i = some x) (hexec : p.tables.exec = Jvm.exec) (hb : c.code = cc) (hK0 : hK G s) (hV0 : hV G hp H) (he : hp a = some (eQ t n f)) (ht : (hTs G)[t]? = some (G.2 t, ty)) (hr : ty.isReference = true) (hi : i < n) (hn : n < 2 ^ 31) (hdg : decode cc pc = .ok (.aaload, 1))
    (kk : W p l e R s m args below meth c H locs cells slots Q (F0 m (pc + 1) ls (.ref x :: rest))) : W p l e R s m args below meth c H locs cells slots Q (F0 m pc ls (.int (nI i) :: .ref a :: rest)) :=
  h_aald hexec hb hK0 hV0 he ht hr hi hn hdg (by rw [hfx]; exact kk)
end HM
theorem opR_t {f : Row} {h j : Nat} (hj : j < 8) (hh : hasR f (h + 8 * j) = true) : opR f h = true := by
  unfold opR
  rcases (show j = 0 ∨ j = 1 ∨ j = 2 ∨ j = 3 ∨ j = 4 ∨ j = 5 ∨ j = 6 ∨ j = 7 by omega) with q | q | q | q | q | q | q | q <;> subst q <;> simp at hh <;> simp [hh]
theorem opR_f {f : Row} {h : Nat} (hh : ∀ j, j < 8 → hasR f (h + 8 * j) = false) : opR f h = false := by
  unfold opR
  have h0 := hh 0 (by omega)
  have h1 := hh 1 (by omega)
  have h2 := hh 2 (by omega)
  have h3 := hh 3 (by omega)
  have h4 := hh 4 (by omega)
  have h5 := hh 5 (by omega)
  have h6 := hh 6 (by omega)
  have h7 := hh 7 (by omega)
  simp at h0 h1 h2 h3 h4 h5 h6 h7
  simp [h0, h1, h2, h3, h4, h5, h6, h7]
theorem cnt_ex {p : Nat → Bool} {k : Nat} : ∀ {m : Nat}, k < cntB p m → ∃ y, y < m ∧ p y = true ∧ cntB p y = k
  | 0, h => absurd h (Nat.not_lt_zero _)
  | m + 1, h => by
    rw [cntB_s] at h
    by_cases h1 : k < cntB p m
    · obtain ⟨y, h2, h3, h4⟩ := cnt_ex h1
      exact ⟨y, by omega, h3, h4⟩
    · by_cases h2 : p m = true
      · rw [if_pos h2] at h
        exact ⟨m, Nat.lt_succ_self m, h2, by omega⟩
      · rw [if_neg h2] at h
        omega
theorem nth_at {f : Row} {k : Nat} (h : k < szR f) : nthR f k < 64 ∧ hasR f (nthR f k) = true ∧ cntB (hasR f) (nthR f k) = k := by
  obtain ⟨y, h1, h2, h3⟩ := cnt_ex (p := hasR f) (m := 64) h
  rw [nthR_of h1 h2 h3]
  exact ⟨h1, h2, h3⟩
theorem nth_lo {f : Row} (h : 0 < szR f) : ∀ k, 0 ≤ k → k < nthR f 0 → hasR f k = false := fun k _ hk => by
  obtain ⟨h1, h2, h3⟩ := nth_at h
  cases hq : hasR f k with
  | false => rfl
  | true =>
    have h4 : cntB (hasR f) (k + 1) = cntB (hasR f) k + 1 := cntB_y hq
    have h5 := cntB_mono (hasR f) (k + 1) (nthR f 0) (by omega)
    omega
theorem nth_up {f : Row} {k : Nat} (h : k + 1 < szR f) : nthR f k + 1 ≤ nthR f (k + 1) ∧ ∀ j, nthR f k + 1 ≤ j → j < nthR f (k + 1) → hasR f j = false := by
  obtain ⟨h1, h2, h3⟩ := nth_at (f := f) (k := k) (by omega)
  obtain ⟨g1, g2, g3⟩ := nth_at h
  have h4 : cntB (hasR f) (nthR f k + 1) = cntB (hasR f) (nthR f k) + 1 := cntB_y h2
  refine ⟨?_, fun j hj hk => ?_⟩
  · by_cases q : nthR f k + 1 ≤ nthR f (k + 1)
    · exact q
    · have := cntB_mono (hasR f) (nthR f (k + 1)) (nthR f k) (by omega)
      omega
  · cases hq : hasR f j with
    | false => rfl
    | true =>
      have h5 : cntB (hasR f) (j + 1) = cntB (hasR f) j + 1 := cntB_y hq
      have h6 := cntB_mono (hasR f) (j + 1) (nthR f (k + 1)) (by omega)
      have h7 := cntB_mono (hasR f) (nthR f k + 1) j hj
      omega
def mQ (hp : HP) (a t n : Nat) (x : Nat → Nat) : Prop := ∃ F : Nat → Option Nat, hp a = some (eQ t n F) ∧ ∀ i, i < n → F i = some (x i)
section HM2
variable {p : Program} {l : Launch} {e : Env} {R : Room} {s : State} {m : MethodId} {args : Array Value} {below : List Frame} {meth : Method} {c : Code} {H : Heap} {locs : List Loc} {cells slots : Nat} {Q : State → Prop}
variable {cc : ByteArray} {pc : Nat} {ls : Array Slot} {rest st0 : List Value} {G : hG} {hp : HP} {A : Nat → Prop} {a : Nat} {H0 : Heap} {mc ms : Nat}
theorem h_aaldE {t n : Nat} {ty : FieldType} {x : Nat → Nat} {i : Nat} (hm : mQ hp a t n x) (hexec : p.tables.exec = Jvm.exec) (hb : c.code = cc) (hK0 : hK G s) (hV0 : hV G hp H) (ht : (hTs G)[t]? = some (G.2 t, ty)) (hr : ty.isReference = true) (hi : i < n) (hn : n < 2 ^ 31) (hdg : decode cc pc = .ok (.aaload, 1))
    (kk : W p l e R s m args below meth c H locs cells slots Q (F0 m (pc + 1) ls (.ref (x i) :: rest))) : W p l e R s m args below meth c H locs cells slots Q (F0 m pc ls (.int (nI i) :: .ref a :: rest)) := by
  obtain ⟨F, h1, h2⟩ := hm
  exact h_aaldS (h2 i hi) hexec hb hK0 hV0 h1 ht hr hi hn hdg kk
theorem h_alenQ {t n : Nat} {ty : FieldType} {x : Nat → Nat} (hm : mQ hp a t n x) (hexec : p.tables.exec = Jvm.exec) (hb : c.code = cc) (hK0 : hK G s) (hV0 : hV G hp H) (ht : (hTs G)[t]? = some (G.2 t, ty)) (hdg : decode cc pc = .ok (.arraylength, 1))
    (kk : W p l e R s m args below meth c H locs cells slots Q (F0 m (pc + 1) ls (.int (nI n) :: rest))) : W p l e R s m args below meth c H locs cells slots Q (F0 m pc ls (.ref a :: rest)) := by
  obtain ⟨F, h1, h2⟩ := hm
  exact h_alen hexec hb hK0 hV0 h1 ht hdg kk
end HM2
/-- the levels: numbers of runs, runs, what was moved, what was merged -/
abbrev BV : Type := (Nat → Nat) × (Nat → Nat → Row) × Int32 × Int32
def bN (B : BV) : Nat → Nat := B.1
def bG (B : BV) : Nat → Nat → Row := B.2.1
def bM (B : BV) : Int32 := B.2.2.1
def bK (B : BV) : Int32 := B.2.2.2
theorem fstB_at {p : Nat → Bool} : ∀ k i, (∃ n, i ≤ n ∧ n < i + k ∧ p n = true) → p (fstB p k i) = true ∧ fstB p k i < i + k ∧ ∀ m, i ≤ m → m < fstB p k i → p m = false
  | 0, i, h => by obtain ⟨n, h1, h2, -⟩ := h; omega
  | k + 1, i, h => by
    unfold fstB
    by_cases e : p i = true
    · rw [if_pos e]
      exact ⟨e, by omega, fun m h1 h2 => by omega⟩
    · rw [if_neg e]
      obtain ⟨n, h1, h2, h3⟩ := h
      have hne : i ≠ n := fun q => e (q ▸ h3)
      obtain ⟨g1, g2, g3⟩ := fstB_at (p := p) k (i + 1) ⟨n, by omega, by omega, h3⟩
      refine ⟨g1, by omega, fun m h4 h5 => ?_⟩
      by_cases q : m = i
      · rw [q]; exact Bool.eq_false_iff.mpr e
      · exact g3 m (by omega) h5
theorem ls_at {f : Row} (h : 0 < szR f) : lsR f < 64 ∧ hasR f (lsR f) = true ∧ ∀ k, 0 ≤ k → k < lsR f → hasR f k = false := by
  obtain ⟨y, h1, h2, -⟩ := cnt_ex (p := hasR f) (m := 64) h
  obtain ⟨g1, g2, g3⟩ := fstB_at (p := hasR f) 64 0 ⟨y, Nat.zero_le _, by omega, h2⟩
  exact ⟨by have : fstB (hasR f) 64 0 < 0 + 64 := g2; unfold lsR; omega, g1, g3⟩
theorem lstB_at {p : Nat → Bool} : ∀ n, (∃ k, k < n ∧ p k = true) → ∃ y, y < n ∧ lstB p n = nI y ∧ p y = true ∧ ∀ k, y < k → k < n → p k = false
  | 0, h => by obtain ⟨k, h1, -⟩ := h; omega
  | n + 1, h => by
    unfold lstB
    by_cases e : p n = true
    · rw [if_pos e]
      exact ⟨n, Nat.lt_succ_self n, rfl, e, fun k h1 h2 => by omega⟩
    · rw [if_neg e]
      obtain ⟨k, h1, h2⟩ := h
      have hne : n ≠ k := fun q => e (q ▸ h2)
      obtain ⟨y, g1, g2, g3, g4⟩ := lstB_at n ⟨k, by omega, h2⟩
      refine ⟨y, by omega, g2, g3, fun k h3 h4 => ?_⟩
      by_cases q : k = n
      · rw [q]; exact Bool.eq_false_iff.mpr e
      · exact g4 k h3 (by omega)
theorem gr_at {f : Row} (h : 0 < szR f) : ∃ y, y < 64 ∧ grR f = nI y ∧ hasR f y = true ∧ ∀ k, y < k → k < 64 → hasR f k = false := by
  obtain ⟨y, h1, h2, -⟩ := cnt_ex (p := hasR f) (m := 64) h
  exact lstB_at 64 ⟨y, h1, h2⟩
def setL (V : BV) (l n : Nat) (g : Nat → Row) : BV := (fun l2 => if l2 = l then n else bN V l2, fun l2 => if l2 = l then g else bG V l2, bM V, bK V)
def setM (V : BV) (v : Int32) : BV := (bN V, bG V, v, bK V)
def setK (V : BV) (v : Int32) : BV := (bN V, bG V, bM V, v)
theorem hp_ne2 {hp : HP} {a b : Nat} {e1 e2 : hE} (h1 : hp a = some e1) (h2 : hp b = some e2) (hne : e1 ≠ e2) : a ≠ b := fun z => hne (Option.some.inj ((z ▸ h1).symm.trans h2))
def cmB (V : BV) (l : Nat) (f : Row) : BV := setL (setM V (bM V + nI (szR f))) l (bN V l + 1) (fun r => if r = 0 then f else bG V l (r - 1))
def mkB (V : BV) (l : Nat) : Row := gaP (bN V l) (bG V l) (nbA (bN V) l) 64
def clB (V : BV) (l : Nat) : BV := setK (setL V l 0 (fun _ => emR)) (bK V + nI 1)
def mgB (V : BV) (l : Nat) : BV := if szR (mkB V l) = 0 then clB V l else cmB (clB V l) (min (l + 1) 3) (mkB V l)
def stB (V : BV) : Nat → BV
  | 0 => V
  | m + 1 => if 3 ≤ bN (stB V m) m then mgB (stB V m) m else stB V m
theorem stB_y {V : BV} {m : Nat} (h : ¬ bN (stB V m) m < 3) : stB V (m + 1) = mgB (stB V m) m := if_pos (by omega)
theorem stB_n {V : BV} {m : Nat} (h : bN (stB V m) m < 3) : stB V (m + 1) = stB V m := if_neg (by omega)
theorem bN_cmB (V : BV) (l : Nat) (f : Row) (l2 : Nat) : bN (cmB V l f) l2 = if l2 = l then bN V l + 1 else bN V l2 := rfl
theorem bN_clB (V : BV) (l l2 : Nat) : bN (clB V l) l2 = if l2 = l then 0 else bN V l2 := rfl
theorem bN_mgB_le (V : BV) (l l2 : Nat) (hl : l < 4) : bN (mgB V l) l2 ≤ if l2 = min (l + 1) 3 then (if l = 3 then 1 else bN V l2 + 1) else if l2 = l then 0 else bN V l2 := by
  unfold mgB
  by_cases hz : szR (mkB V l) = 0
  · rw [if_pos hz, bN_clB]
    by_cases h1 : l2 = min (l + 1) 3
    · rw [if_pos h1]
      by_cases h3 : l = 3
      · rw [if_pos h3, if_pos (by omega)]; omega
      · rw [if_neg h3, if_neg (by omega)]; omega
    · rw [if_neg h1]; exact Nat.le_refl _
  · rw [if_neg hz, bN_cmB]
    by_cases h1 : l2 = min (l + 1) 3
    · rw [if_pos h1, if_pos h1, bN_clB]
      by_cases h3 : l = 3
      · rw [if_pos h3, if_pos (by omega)]; omega
      · rw [if_neg h3, if_neg (by omega), h1]; omega
    · rw [if_neg h1, if_neg h1, bN_clB]; exact Nat.le_refl _
theorem mgB_one {V : BV} {l : Nat} (hl : l < 4) (h : oneB (bN V) l) : oneB (bN (mgB V l)) (l + 1) := by
  intro l2 h2 hne
  have h1 := bN_mgB_le V l l2 hl
  have h3 := h l2 h2
  by_cases e : l2 = min (l + 1) 3
  · by_cases e3 : l = 3
    · rw [if_pos e, if_pos e3] at h1; omega
    · omega
  · rw [if_neg e] at h1
    by_cases e2 : l2 = l
    · rw [if_pos e2] at h1; omega
    · rw [if_neg e2] at h1
      have := h3 e2
      omega
theorem stB_one {V : BV} {L : Nat} (h : oneB (bN V) L) : ∀ m, m ≤ 4 → ∃ L2, m ≤ L2 ∧ oneB (bN (stB V m)) L2
  | 0, _ => ⟨L, Nat.zero_le _, h⟩
  | m + 1, hm => by
    obtain ⟨L2, h1, h2⟩ := stB_one h m (by omega)
    unfold stB
    split
    · rename_i h3
      have e : L2 = m := by
        rcases Nat.lt_or_ge m L2 with q | q
        · have := h2 m (by omega) (by omega)
          omega
        · omega
      subst e
      exact ⟨L2 + 1, Nat.le_refl _, mgB_one (by omega) h2⟩
    · rename_i h3
      by_cases e : L2 = m
      · subst e
        exact ⟨L2 + 1, Nat.le_refl _, fun l hl hne => by
          by_cases e2 : l = L2
          · subst e2; omega
          · exact h2 l hl e2⟩
      · exact ⟨L2, by omega, h2⟩
theorem stB_two {V : BV} {L : Nat} (h : oneB (bN V) L) : ∀ l, l < 4 → bN (stB V 4) l ≤ 2 := by
  intro l hl
  obtain ⟨L2, h1, h2⟩ := stB_one h 4 (Nat.le_refl _)
  exact h2 l hl (by omega)
theorem stB_at {V : BV} {L m : Nat} (h : oneB (bN V) L) (hm : m < 4) (h3 : ¬ bN (stB V m) m < 3) : oneB (bN (stB V m)) m := by
  obtain ⟨L2, h1, h2⟩ := stB_one h m (by omega)
  have e : L2 = m := by
    rcases Nat.lt_or_ge m L2 with q | q
    · have := h2 m hm (by omega)
      omega
    · omega
  subst e
  exact h2
theorem mgB_pre {V : BV} {l : Nat} (hl : l < 4) (h : oneB (bN V) l) : bN (clB V l) (min (l + 1) 3) ≤ 2 := by
  rw [bN_clB]
  by_cases e : l = 3
  · rw [if_pos (by omega)]; omega
  · rw [if_neg (by omega)]
    have := h (l + 1) (by omega) (by omega)
    rw [show min (l + 1) 3 = l + 1 by omega]
    exact this

theorem mgB_0 {V : BV} {l : Nat} (h : szR (mkB V l) = 0) : mgB V l = clB V l := if_pos h
theorem mgB_1 {V : BV} {l : Nat} (h : ¬ szR (mkB V l) = 0) : mgB V l = cmB (clB V l) (min (l + 1) 3) (mkB V l) := if_neg h

theorem cm_one {V : BV} {l : Nat} {f : Row} (h : ∀ l, l < 4 → bN V l ≤ 2) : oneB (bN (cmB V l f)) l := fun l2 h2 hne => by
  rw [bN_cmB, if_neg hne]
  exact h l2 h2
def trB (V : BV) (l : Nat) : BV := stB (mgB V l) 4
theorem bI2 {V : BV} (hI : ∀ l, l < 4 → bN V l ≤ 2) (l : Nat) (hl : l < 4) : ∀ l2, l2 < 4 → bN (trB V l) l2 ≤ 2 := stB_two (mgB_one hl (oneB_all hI l))
def V0 : BV := (fun _ => 0, fun _ _ => emR, 0, 0)
def ltS (V : BV) (l : Nat) : Nat → Nat
  | 0 => bN V l
  | 1 => snA (fun r => szR (bG V l r)) (bN V l)
  | _ => snA (fun r => tbR (bG V l r)) (bN V l)
/-! THE SIM: slips, runs with their tags: of a number its time and its slip's address -/
abbrev TG : Type := Nat → Nat × Nat
def sl (hp : HP) (a x : Nat) (v : Int32) (t : Nat) : Prop := (∃ F : Nat → Int32, hp a = some (eI 3 F) ∧ F 0 = nI x ∧ F 1 = v ∧ F 2 = nI t) ∧ x < 64 ∧ t < 2 ^ 20
def rn (hp : HP) (a : Nat) (f : Row) (w : TG) : Prop := mQ hp a 3 (szR f) (fun k => (w (nthR f k)).2) ∧ ∀ y, y < 64 → hasR f y = true → sl hp (w y).2 y (f y) (w y).1
def fz : hE → Bool
  | .inl x => !decide (x.1 = 5)
  | .inr o => !decide (o.1 = 3)
/-- all cells but those of a Sim and its levels' row are as they were -/
def exH (hp hp' : HP) : Prop := ∀ (q : Nat) (e : hE), fz e = true → hp q = some e → hp' q = some e
/-- all cells are as they were -/
def leH (hp hp' : HP) : Prop := ∀ (q : Nat) (e : hE), hp q = some e → hp' q = some e
theorem leH.rf {hp : HP} : leH hp hp := fun _ _ h => h
theorem leH.tr {h1 h2 h3 : HP} (a : leH h1 h2) (b : leH h2 h3) : leH h1 h3 := fun q e h => b q e (a q e h)
theorem leH.x {h1 h2 : HP} (a : leH h1 h2) : exH h1 h2 := fun q e _ h => a q e h
theorem exH.rf {hp : HP} : exH hp hp := fun _ _ _ h => h
theorem exH.tr {h1 h2 h3 : HP} (a : exH h1 h2) (b : exH h2 h3) : exH h1 h3 := fun q e hf h => b q e hf (a q e hf h)
theorem leH.new {hp0 hp : HP} {q : Nat} {e : hE} (h : leH hp0 hp) (hq : hp0 q = none) : leH hp0 (hput hp q e) := fun x e1 h2 => by
  have hne : x ≠ q := fun z => by rw [z, hq] at h2; cases h2
  rw [hput_n _ _ hne]
  exact h x e1 h2
theorem exH.new {hp0 hp : HP} {q : Nat} {e : hE} (h : exH hp0 hp) (hq : hp0 q = none) : exH hp0 (hput hp q e) := fun x e1 h1 h2 => by
  have hne : x ≠ q := fun z => by rw [z, hq] at h2; cases h2
  rw [hput_n _ _ hne]
  exact h x e1 h1 h2
theorem exH.set {hp0 hp : HP} {q : Nat} {e0 e : hE} (h : exH hp0 hp) (hq : hp0 q = some e0) (hf : fz e0 = false) : exH hp0 (hput hp q e) := fun x e1 h1 h2 => by
  have hne : x ≠ q := fun z => by rw [z, hq] at h2; cases h2; rw [hf] at h1; cases h1
  rw [hput_n _ _ hne]
  exact h x e1 h1 h2
theorem leH.no {hp0 hp : HP} (h : leH hp0 hp) {q : Nat} (hq : hp q = none) : hp0 q = none := by
  cases hh : hp0 q with
  | none => rfl
  | some e => rw [h q e hh] at hq; cases hq
theorem sl.mv {hp hp' : HP} {a x : Nat} {v : Int32} {t : Nat} (h : sl hp a x v t) (he : exH hp hp') : sl hp' a x v t := by
  obtain ⟨⟨F, h1, h2⟩, h3⟩ := h
  exact ⟨⟨F, he _ _ rfl h1, h2⟩, h3⟩
theorem mQ.mv {hp hp' : HP} {a t n : Nat} {x : Nat → Nat} (h : mQ hp a t n x) (he : exH hp hp') (ht : t ≠ 5) : mQ hp' a t n x := by
  obtain ⟨F, h1, h2⟩ := h
  exact ⟨F, he _ _ (by show (!decide (t = 5)) = true; rw [decide_eq_false ht]; rfl) h1, h2⟩
theorem rn.mv {hp hp' : HP} {a : Nat} {f : Row} {w : TG} (h : rn hp a f w) (he : exH hp hp') : rn hp' a f w := ⟨h.1.mv he (by decide), fun y hy hh => (h.2 y hy hh).mv he⟩
theorem rn.at {hp : HP} {a : Nat} {f : Row} {w : TG} (h : rn hp a f w) {k : Nat} (hk : k < szR f) : sl hp (w (nthR f k)).2 (nthR f k) (f (nthR f k)) (w (nthR f k)).1 := h.2 _ (nth_at hk).1 (nth_at hk).2.1
theorem sl.c {hp : HP} {a x : Nat} {v : Int32} {t : Nat} (h : sl hp a x v t) : ∃ F : Nat → Int32, hp a = some (eI 3 F) := by
  obtain ⟨⟨F, h1, -⟩, -⟩ := h
  exact ⟨F, h1⟩
section HSL
variable {p : Program} {l : Launch} {e : Env} {R : Room} {s : State} {m : MethodId} {args : Array Value} {below : List Frame} {meth : Method} {c : Code} {H : Heap} {locs : List Loc} {cells slots : Nat} {Q : State → Prop}
variable {cc : ByteArray} {pc : Nat} {ls : Array Slot} {rest st0 : List Value} {G : hG} {hp : HP} {A : Nat → Prop} {a : Nat} {H0 : Heap} {mc ms : Nat}
theorem h_sl0 {x t : Nat} {v : Int32} (hm : sl hp a x v t) (hexec : p.tables.exec = Jvm.exec) (hb : c.code = cc) (hK0 : hK G s) (hV0 : hV G hp H) (hdg : decode cc pc = .ok (.iaload, 1))
    (kk : W p l e R s m args below meth c H locs cells slots Q (F0 m (pc + 1) ls (.int (nI x) :: rest))) : W p l e R s m args below meth c H locs cells slots Q (F0 m pc ls (.int (nI 0) :: .ref a :: rest)) := by
  obtain ⟨⟨F, h1, h2, h3, h4⟩, -⟩ := hm
  exact h_ialdS h2 hexec hb hK0 hV0 h1 (by omega) (by omega) hdg kk
theorem h_sl1 {x t : Nat} {v : Int32} (hm : sl hp a x v t) (hexec : p.tables.exec = Jvm.exec) (hb : c.code = cc) (hK0 : hK G s) (hV0 : hV G hp H) (hdg : decode cc pc = .ok (.iaload, 1))
    (kk : W p l e R s m args below meth c H locs cells slots Q (F0 m (pc + 1) ls (.int v :: rest))) : W p l e R s m args below meth c H locs cells slots Q (F0 m pc ls (.int (nI 1) :: .ref a :: rest)) := by
  obtain ⟨⟨F, h1, h2, h3, h4⟩, -⟩ := hm
  exact h_ialdS h3 hexec hb hK0 hV0 h1 (by omega) (by omega) hdg kk
theorem h_sl2 {x t : Nat} {v : Int32} (hm : sl hp a x v t) (hexec : p.tables.exec = Jvm.exec) (hb : c.code = cc) (hK0 : hK G s) (hV0 : hV G hp H) (hdg : decode cc pc = .ok (.iaload, 1))
    (kk : W p l e R s m args below meth c H locs cells slots Q (F0 m (pc + 1) ls (.int (nI t) :: rest))) : W p l e R s m args below meth c H locs cells slots Q (F0 m pc ls (.int (nI 2) :: .ref a :: rest)) := by
  obtain ⟨⟨F, h1, h2, h3, h4⟩, -⟩ := hm
  exact h_ialdS h4 hexec hb hK0 hV0 h1 (by omega) (by omega) hdg kk
end HSL
/-- a word or a tomb -/
def okw (v : Int32) : Prop := v = -1 ∨ ∃ n : Nat, n < 100 ∧ v = nI n
theorem okR.w {f : Row} (h : okR f) {x : Nat} (hh : hasR f x = true) : okw (f x) := by
  rcases h.2 x with q | q
  · simp [hasR, q] at hh
  · exact q
theorem okw.lt {v : Int32} (h : okw v) : v < 0 ↔ v = -1 := by
  rcases h with h | ⟨n, hn, h⟩
  · rw [h]; decide
  · have h0 : (0 : Int32) ≤ nI n := nI_pos' (by omega)
    rw [h]
    refine ⟨fun z => absurd h0 (Int32.not_le.mpr z), fun z => ?_⟩
    rw [z] at h0
    exact absurd h0 (by decide)
/-! a slip more in a run -/
theorem cntB_add {f F : Row} {x : Nat} (hF : ∀ y, hasR F y = (hasR f y || decide (y = x))) (n : Nat) : cntB (hasR F) n = cntB (hasR f) n + (if x < n ∧ hasR f x = false then 1 else 0) := by
  have hne : ∀ k, k ≠ x → hasR F k = hasR f k := fun k hk => by rw [hF k, decide_eq_false hk]; simp
  have hx : hasR F x = true := by rw [hF x]; simp
  by_cases h : x < n
  · have h1 := cntB_upd (p := hasR F) (q := hasR f) (i := x) hne h
    rw [hx] at h1
    cases hb : hasR f x with
    | true => rw [hb] at h1; simp at h1 ⊢; omega
    | false => rw [hb] at h1; simp at h1 ⊢; simp [h]; omega
  · rw [if_neg (fun z => h z.1), cntB_congr (fun k hk => hne k (by omega))]
    rfl
theorem nth_tri {f : Row} {k x : Nat} (hk : k < szR f) : (nthR f k = x → hasR f x = true ∧ k = cntB (hasR f) x) ∧ (nthR f k < x → k < cntB (hasR f) x) ∧ (x < nthR f k → cntB (hasR f) x ≤ k ∧ (hasR f x = true → cntB (hasR f) x < k)) := by
  obtain ⟨h1, h2, h3⟩ := nth_at hk
  refine ⟨fun e => by rw [← e]; exact ⟨h2, h3.symm⟩, fun e => ?_, fun e => ⟨?_, fun hh => ?_⟩⟩
  · have h4 : cntB (hasR f) (nthR f k + 1) = cntB (hasR f) (nthR f k) + 1 := cntB_y h2
    have h5 := cntB_mono (hasR f) (nthR f k + 1) x (by omega)
    omega
  · have h5 := cntB_mono (hasR f) x (nthR f k) (by omega)
    omega
  · have h4 : cntB (hasR f) (x + 1) = cntB (hasR f) x + 1 := cntB_y hh
    have h5 := cntB_mono (hasR f) (x + 1) (nthR f k) (by omega)
    omega
theorem cnt_le {f : Row} {x : Nat} (hx : x < 64) : cntB (hasR f) x ≤ szR f ∧ (hasR f x = true → cntB (hasR f) x < szR f) := by
  refine ⟨cntB_mono _ x 64 (by omega), fun hh => ?_⟩
  have h4 : cntB (hasR f) (x + 1) = cntB (hasR f) x + 1 := cntB_y hh
  have h5 := cntB_mono (hasR f) (x + 1) 64 (by omega)
  unfold szR
  omega
section WN
variable {f F : Row} {x : Nat}
theorem wn_sz (hF : ∀ y, hasR F y = (hasR f y || decide (y = x))) (hx : x < 64) : szR F = if hasR f x = true then szR f else szR f + 1 := by
  unfold szR
  rw [cntB_add hF 64]
  cases hb : hasR f x <;> simp [hx]
theorem wn_1 (hF : ∀ y, hasR F y = (hasR f y || decide (y = x))) {k : Nat} (hk : k < szR f) (h : k < cntB (hasR f) x) : nthR F k = nthR f k := by
  obtain ⟨h1, h2, h3⟩ := nth_at hk
  have h4 : ¬ x < nthR f k := fun z => by have := (nth_tri (x := x) hk).2.2 z; omega
  refine nthR_of h1 (by rw [hF, h2]; rfl) ?_
  rw [cntB_add hF, if_neg (fun z => h4 z.1), h3]
  rfl
theorem wn_2 (hF : ∀ y, hasR F y = (hasR f y || decide (y = x))) (hx : x < 64) : nthR F (cntB (hasR f) x) = x := by
  refine nthR_of hx (by rw [hF]; simp) ?_
  rw [cntB_add hF, if_neg (fun z => Nat.lt_irrefl x z.1)]
  rfl
theorem wn_3 (hF : ∀ y, hasR F y = (hasR f y || decide (y = x))) {k : Nat} (hk : k < szR f) (h : cntB (hasR f) x < k ∨ (cntB (hasR f) x = k ∧ hasR f x = false)) : nthR F (if hasR f x = true then k else k + 1) = nthR f k := by
  obtain ⟨h1, h2, h3⟩ := nth_at hk
  have h4 : x < nthR f k := by
    rcases Nat.lt_trichotomy (nthR f k) x with q | q | q
    · have := (nth_tri (x := x) hk).2.1 q; omega
    · have h5 := (nth_tri (x := x) hk).1 q
      rcases h with h | h
      · omega
      · rw [h5.1] at h; exact absurd h.2 (by decide)
    · exact q
  refine nthR_of h1 (by rw [hF, h2]; rfl) ?_
  rw [cntB_add hF, h3]
  cases hb : hasR f x <;> simp [h4]
end WN
/-! what 'with' makes -/
def wk (f : Row) (w : TG) (x t : Nat) : Bool := hasR f x && decide (t < (w x).1)
def wF (f : Row) (w : TG) (x : Nat) (v : Int32) (t : Nat) : Row := if wk f w x t = true then f else upd f x v
def wT (f : Row) (w : TG) (x t q : Nat) : TG := if wk f w x t = true then w else fun y => if y = x then (t, q) else w y
theorem wF_has {f : Row} {w : TG} {x : Nat} {v : Int32} {t : Nat} (hv : v ≠ -2) : ∀ y, hasR (wF f w x v t) y = (hasR f y || decide (y = x)) := by
  intro y
  unfold wF
  by_cases hk : wk f w x t = true
  · rw [if_pos hk]
    unfold wk at hk
    rw [Bool.and_eq_true] at hk
    by_cases e : y = x
    · rw [e, hk.1]; rfl
    · rw [decide_eq_false e]; simp
  · rw [if_neg hk]
    by_cases e : y = x
    · subst e; rw [hasR_upd_s f y hv]; simp
    · rw [hasR_upd_n f v e, decide_eq_false e]; simp
theorem wT_n {f : Row} {w : TG} {x t q y : Nat} (h : y ≠ x) : wT f w x t q y = w y := by
  unfold wT
  split
  · rfl
  · exact if_neg h
theorem wT_k {f : Row} {w : TG} {x t q : Nat} (h : hasR f x = true) (h2 : t < (w x).1) : wT f w x t q x = w x := by
  unfold wT
  rw [if_pos (by unfold wk; rw [h, decide_eq_true h2]; rfl)]
theorem wT_y {f : Row} {w : TG} {x t q : Nat} (h : hasR f x = true → (w x).1 ≤ t) : wT f w x t q x = (t, q) := by
  unfold wT
  rw [if_neg (fun z => by
    unfold wk at z
    rw [Bool.and_eq_true, decide_eq_true_iff] at z
    have := h z.1
    omega), if_pos rfl]
theorem w_sl {hp : HP} {a q : Nat} {f : Row} {w : TG} {x t : Nat} {v : Int32} (hr : rn hp a f w) (hs : sl hp q x v t) : ∀ y, y < 64 → hasR (wF f w x v t) y = true → sl hp (wT f w x t q y).2 y (wF f w x v t y) (wT f w x t q y).1 := by
  intro y hy hh
  unfold wF wT at *
  by_cases hk : wk f w x t = true
  · rw [if_pos hk] at *
    rw [if_pos hk]
    exact hr.2 y hy hh
  · rw [if_neg hk] at *
    rw [if_neg hk]
    by_cases e : y = x
    · subst e
      rw [if_pos rfl]
      unfold upd
      rw [if_pos rfl]
      exact hs
    · rw [if_neg e]
      rw [hasR_upd_n f v e] at hh
      unfold upd
      rw [if_neg e]
      exact hr.2 y hy hh
def wN (f : Row) (x i : Nat) : Nat := if i ≤ cntB (hasR f) x then i else if hasR f x = true then i else i + 1
theorem wN_0 (f : Row) (x : Nat) : wN f x 0 = 0 := if_pos (Nat.zero_le _)
theorem wN_le (f : Row) (x i : Nat) : wN f x i ≤ i + 1 := by
  unfold wN
  split
  · omega
  · split <;> omega
theorem wN_lo {f : Row} {x i : Nat} (h : i ≤ cntB (hasR f) x) : wN f x i = i := if_pos h
theorem wN_hy {f : Row} {x i : Nat} (h : ¬ i ≤ cntB (hasR f) x) (hh : hasR f x = true) : wN f x i = i := by unfold wN; rw [if_neg h, if_pos hh]
theorem wN_hn {f : Row} {x i : Nat} (h : ¬ i ≤ cntB (hasR f) x) (hh : hasR f x = false) : wN f x i = i + 1 := by unfold wN; rw [if_neg h, if_neg (by rw [hh]; decide)]
/-- what stands in the row that is made, below the n-th place -/
def wM (M : Nat → Option Nat) (F : Row) (w : TG) (n : Nat) : Prop := ∀ k, k < n → M k = some (w (nthR F k)).2
theorem wM.up {M : Nat → Option Nat} {F : Row} {w : TG} {n y : Nat} (h : wM M F w n) {q : Nat} (hq : q = (w y).2) (hy : nthR F n = y) : wM (va_up M n (some q)) F w (n + 1) := by
  intro k hk
  unfold va_up
  by_cases e : k = n
  · rw [if_pos e, hq, e, hy]
  · rw [if_neg e]
    exact h k (by omega)
