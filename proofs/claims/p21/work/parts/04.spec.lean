/-! ROWS OF 64 WORDS (-2 no slip, -1 a tomb), what is told of them; pure -/
abbrev Row : Type := Nat → Int32
def hasR (f : Row) (n : Nat) : Bool := !decide (f n = -2)
def isT (f : Row) (n : Nat) : Bool := decide (f n = -1)
def cntB (p : Nat → Bool) : Nat → Nat
  | 0 => 0
  | n + 1 => cntB p n + (if p n then 1 else 0)
def szR (f : Row) : Nat := cntB (hasR f) 64
def tbR (f : Row) : Nat := cntB (isT f) 64
def fstB (p : Nat → Bool) : Nat → Nat → Nat
  | 0, i => i
  | k + 1, i => if p i then i else fstB p k (i + 1)
def lsR (f : Row) : Nat := fstB (hasR f) 64 0
def lstB (p : Nat → Bool) : Nat → Int32
  | 0 => -1
  | n + 1 => if p n then nI n else lstB p n
def grR (f : Row) : Int32 := lstB (hasR f) 64
def opR (f : Row) (h : Nat) : Bool := hasR f h || hasR f (h + 8) || hasR f (h + 16) || hasR f (h + 24) || hasR f (h + 32) || hasR f (h + 40) || hasR f (h + 48) || hasR f (h + 56)
def svB (b : Nat → Bool) : Nat → Int32
  | 0 => 0
  | h + 1 => svB b h + (if b h then nI 1 <<< (nI h &&& 31) else nI 0)
def svR (f : Row) : Int32 := svB (opR f) 8
def toldR (f : Row) (n : Nat) : Int32 := if f n = -1 then -1 - nI n else nI 100 * nI n + f n
def nsR (f : Row) : List Nat := (List.range 64).filter (hasR f)
def nthR (f : Row) (k : Nat) : Nat := (nsR f).getD k 64
def opnC (f : Row) (n : Nat) : Bool := decide (lsR f ≤ n) && (decide (nI n ≤ grR f) && opR f (n % 8))
/-- a row is one of words: nothing beyond 64, words, marks -/
def okR (f : Row) : Prop := (∀ j, 64 ≤ j → f j = -2) ∧ ∀ j, f j = -2 ∨ f j = -1 ∨ ∃ v : Nat, v < 100 ∧ f j = nI v
abbrev slO (w : Nat) (f : Row) : List Value := [.ref w, .int (nI (szR f)), .int (nI (tbR f)), .int (nI (lsR f)), .int (grR f), .int (svR f)]
def slAt (hp : HP) (a w : Nat) (f : Row) : Prop := hp a = some (eO 1 (slO w f)) ∧ hp w = some (eI 64 f)
theorem cntB_s (p : Nat → Bool) (n : Nat) : cntB p (n + 1) = cntB p n + (if p n then 1 else 0) := rfl
theorem cntB_le (p : Nat → Bool) : ∀ n, cntB p n ≤ n
  | 0 => Nat.le_refl 0
  | n + 1 => by
    have := cntB_le p n
    unfold cntB
    split <;> omega
theorem cntB_congr {p q : Nat → Bool} : ∀ {n : Nat}, (∀ k, k < n → p k = q k) → cntB p n = cntB q n
  | 0, _ => rfl
  | n + 1, h => by
    unfold cntB
    rw [cntB_congr (fun k hk => h k (by omega)), h n (by omega)]
theorem cntB_upd {p q : Nat → Bool} {i : Nat} (h : ∀ k, k ≠ i → p k = q k) : ∀ {n : Nat}, i < n → cntB p n + (if q i then 1 else 0) = cntB q n + (if p i then 1 else 0)
  | 0, hi => absurd hi (Nat.not_lt_zero i)
  | n + 1, hi => by
    unfold cntB
    by_cases e : i = n
    · subst e
      rw [cntB_congr (p := p) (q := q) (fun k hk => h k (by omega))]
      omega
    · have := cntB_upd h (n := n) (by omega)
      rw [h n (fun q => e q.symm)]
      omega
theorem szR_le (f : Row) : szR f ≤ 64 := cntB_le _ 64
theorem tbR_le (f : Row) : tbR f ≤ 64 := cntB_le _ 64
theorem fstB_le (p : Nat → Bool) : ∀ k i, fstB p k i ≤ i + k
  | 0, i => Nat.le_refl _
  | k + 1, i => by
    unfold fstB
    split
    · omega
    · have := fstB_le p k (i + 1)
      omega
theorem lsR_le (f : Row) : lsR f ≤ 64 := fstB_le _ 64 0
theorem fstB_ge (p : Nat → Bool) : ∀ k i, i ≤ fstB p k i
  | 0, i => Nat.le_refl _
  | k + 1, i => by
    unfold fstB
    split
    · omega
    · have := fstB_ge p k (i + 1)
      omega
theorem fstB_le_of {p : Nat → Bool} {n : Nat} (hp : p n = true) : ∀ k i, i ≤ n → fstB p k i ≤ n
  | 0, i, h => h
  | k + 1, i, h => by
    unfold fstB
    split
    · exact h
    · rename_i h2
      have hne : i ≠ n := fun q => h2 (q ▸ hp)
      exact fstB_le_of hp k (i + 1) (by omega)
theorem fstB_upd {p q : Nat → Bool} {n : Nat} (h : ∀ k, k ≠ n → p k = q k) (hn : p n = true) : ∀ k i, i ≤ n → n < i + k → fstB p k i = if fstB q k i ≤ n then fstB q k i else n
  | 0, i, h1, h2 => absurd h2 (by omega)
  | k + 1, i, h1, h2 => by
    unfold fstB
    by_cases e : i = n
    · subst e
      rw [if_pos hn]
      split
      · simp
      · have := fstB_ge q k (i + 1)
        rw [if_neg (by omega)]
    · rw [h i e]
      by_cases hq : q i = true
      · simp [hq, h1]
      · rw [if_neg hq, if_neg hq]
        exact fstB_upd h hn k (i + 1) (by omega) (by omega)
theorem lstB_lt (p : Nat → Bool) : ∀ n, n < 2 ^ 31 → lstB p n < nI n ∧ -1 ≤ lstB p n
  | 0, _ => by
    unfold lstB
    decide
  | n + 1, hn => by
    have ih := lstB_lt p n (by omega)
    unfold lstB
    have h1 : nI n < nI (n + 1) := nI_lt (by omega) hn
    split
    · refine ⟨h1, ?_⟩
      have : (0 : Int32) ≤ nI n := nI_pos' (by omega)
      exact Int32.le_trans (by decide) this
    · exact ⟨Int32.lt_of_lt_of_le ih.1 (Int32.le_of_lt h1), ih.2⟩
theorem lstB_upd {p q : Nat → Bool} {i : Nat} (h : ∀ k, k ≠ i → p k = q k) (hi : p i = true) : ∀ n, n < 2 ^ 31 → i < n → lstB p n = if lstB q n < nI i then nI i else lstB q n
  | 0, _, h2 => absurd h2 (Nat.not_lt_zero i)
  | n + 1, hn, h2 => by
    unfold lstB
    by_cases e : i = n
    · subst e
      rw [if_pos hi]
      split
      · simp
      · rw [if_pos (lstB_lt q i (by omega)).1]
    · rw [h n (fun z => e z.symm)]
      split
      · rw [if_neg (fun z => absurd z (nI_nlt (by omega) (by omega)))]
      · exact lstB_upd h hi n (by omega) (by omega)
theorem hasR_upd_n (f : Row) {n k : Nat} (v : Int32) (h : k ≠ n) : hasR (upd f n v) k = hasR f k := by simp [hasR, upd, h]
theorem hasR_upd_s (f : Row) (n : Nat) {v : Int32} (h : v ≠ -2) : hasR (upd f n v) n = true := by simp [hasR, upd, h]
theorem isT_upd_n (f : Row) {n k : Nat} (v : Int32) (h : k ≠ n) : isT (upd f n v) k = isT f k := by simp [isT, upd, h]
theorem szR_upd (f : Row) {n : Nat} {v : Int32} (hn : n < 64) (h : v ≠ -2) : szR (upd f n v) = if f n = -2 then szR f + 1 else szR f := by
  have := cntB_upd (p := hasR (upd f n v)) (q := hasR f) (i := n) (fun k hk => hasR_upd_n f v hk) hn
  rw [hasR_upd_s f n h] at this
  unfold szR
  by_cases e : f n = -2
  · have e2 : hasR f n = false := by simp [hasR, e]
    rw [e2] at this
    simp at this
    rw [if_pos e, this]
  · have e2 : hasR f n = true := by simp [hasR, e]
    rw [e2] at this
    simp at this
    rw [if_neg e, this]
theorem tbR_upd (f : Row) {n : Nat} {v : Int32} (hn : n < 64) : tbR (upd f n v) + (if f n = -1 then 1 else 0) = tbR f + (if v = -1 then 1 else 0) := by
  have := cntB_upd (p := isT (upd f n v)) (q := isT f) (i := n) (fun k hk => isT_upd_n f v hk) hn
  have e1 : isT (upd f n v) n = decide (v = -1) := by simp [isT, upd]
  have e2 : isT f n = decide (f n = -1) := rfl
  rw [e1, e2] at this
  unfold tbR
  simpa using this
theorem lsR_upd (f : Row) {n : Nat} {v : Int32} (hn : n < 64) (h : v ≠ -2) : lsR (upd f n v) = if lsR f ≤ n then lsR f else n :=
  fstB_upd (fun k hk => hasR_upd_n f v hk) (hasR_upd_s f n h) 64 0 (Nat.zero_le n) (by omega)
theorem grR_upd (f : Row) {n : Nat} {v : Int32} (hn : n < 64) (h : v ≠ -2) : grR (upd f n v) = if grR f < nI n then nI n else grR f :=
  lstB_upd (fun k hk => hasR_upd_n f v hk) (hasR_upd_s f n h) 64 (by decide) hn
theorem svB_congr {b d : Nat → Bool} : ∀ {n : Nat}, (∀ k, k < n → b k = d k) → svB b n = svB d n
  | 0, _ => rfl
  | n + 1, h => by
    unfold svB
    rw [svB_congr (fun k hk => h k (by omega)), h n (by omega)]
def sv8 (b0 b1 b2 b3 b4 b5 b6 b7 : Bool) : Nat → Bool := fun k => match k with
  | 0 => b0
  | 1 => b1
  | 2 => b2
  | 3 => b3
  | 4 => b4
  | 5 => b5
  | 6 => b6
  | _ => b7
theorem sv8_or : ∀ (b0 b1 b2 b3 b4 b5 b6 b7 : Bool) (j : Fin 8), (svB (sv8 b0 b1 b2 b3 b4 b5 b6 b7) 8 ||| (nI 1 <<< (nI j.val &&& 31))) = svB (fun k => sv8 b0 b1 b2 b3 b4 b5 b6 b7 k || decide (k = j.val)) 8 := by decide +kernel
theorem sv8_bit : ∀ (b0 b1 b2 b3 b4 b5 b6 b7 : Bool) (j : Fin 8), (svB (sv8 b0 b1 b2 b3 b4 b5 b6 b7) 8 >>> (nI j.val &&& 31)) &&& nI 1 = bI (sv8 b0 b1 b2 b3 b4 b5 b6 b7 j.val) := by decide +kernel
theorem sv_all (b : Nat → Bool) : ∀ k, k < 8 → b k = sv8 (b 0) (b 1) (b 2) (b 3) (b 4) (b 5) (b 6) (b 7) k := by
  intro k hk
  match k, hk with
  | 0, _ => rfl
  | 1, _ => rfl
  | 2, _ => rfl
  | 3, _ => rfl
  | 4, _ => rfl
  | 5, _ => rfl
  | 6, _ => rfl
  | 7, _ => rfl
  | k + 8, h => exact absurd h (by omega)
theorem sv_or (b : Nat → Bool) {j : Nat} (hj : j < 8) : (svB b 8 ||| (nI 1 <<< (nI j &&& 31))) = svB (fun k => b k || decide (k = j)) 8 := by
  have h1 := sv8_or (b 0) (b 1) (b 2) (b 3) (b 4) (b 5) (b 6) (b 7) ⟨j, hj⟩
  rw [svB_congr (b := b) (d := sv8 (b 0) (b 1) (b 2) (b 3) (b 4) (b 5) (b 6) (b 7)) (fun k hk => sv_all b k hk)]
  rw [h1]
  exact svB_congr (fun k hk => by rw [← sv_all b k hk])
theorem sv_bit (b : Nat → Bool) {j : Nat} (hj : j < 8) : (svB b 8 >>> (nI j &&& 31)) &&& nI 1 = bI (b j) := by
  have h1 := sv8_bit (b 0) (b 1) (b 2) (b 3) (b 4) (b 5) (b 6) (b 7) ⟨j, hj⟩
  rw [svB_congr (b := b) (d := sv8 (b 0) (b 1) (b 2) (b 3) (b 4) (b 5) (b 6) (b 7)) (fun k hk => sv_all b k hk), h1, ← sv_all b j hj]
theorem opR_upd (f : Row) {n : Nat} {v : Int32} (hn : n < 64) (h : v ≠ -2) (k : Nat) (hk : k < 8) : opR (upd f n v) k = (opR f k || decide (k = n % 8)) := by
  by_cases e : k = n % 8
  · have h2 : n = k ∨ n = k + 8 ∨ n = k + 16 ∨ n = k + 24 ∨ n = k + 32 ∨ n = k + 40 ∨ n = k + 48 ∨ n = k + 56 := by omega
    have h3 := hasR_upd_s f n h
    simp only [decide_eq_true e, Bool.or_true]
    unfold opR
    rcases h2 with q | q | q | q | q | q | q | q <;> rw [← q, h3] <;> simp
  · have h2 : ∀ j, (k + 8 * j) ≠ n := fun j => by omega
    have h3 : ∀ j, hasR (upd f n v) (k + 8 * j) = hasR f (k + 8 * j) := fun j => hasR_upd_n f v (h2 j)
    simp only [decide_eq_false e, Bool.or_false]
    unfold opR
    rw [show hasR (upd f n v) k = hasR f k from h3 0, show hasR (upd f n v) (k + 8) = hasR f (k + 8) from h3 1, show hasR (upd f n v) (k + 16) = hasR f (k + 16) from h3 2, show hasR (upd f n v) (k + 24) = hasR f (k + 24) from h3 3, show hasR (upd f n v) (k + 32) = hasR f (k + 32) from h3 4, show hasR (upd f n v) (k + 40) = hasR f (k + 40) from h3 5, show hasR (upd f n v) (k + 48) = hasR f (k + 48) from h3 6, show hasR (upd f n v) (k + 56) = hasR f (k + 56) from h3 7]
theorem svR_upd (f : Row) {n : Nat} {v : Int32} (hn : n < 64) (h : v ≠ -2) : svR (upd f n v) = (svR f ||| (nI 1 <<< (nI (n % 8) &&& 31))) := by
  unfold svR
  rw [sv_or (opR f) (j := n % 8) (by omega)]
  exact svB_congr (fun k hk => opR_upd f hn h k hk)
/-- the k-th number of a row -/
theorem filt_nth {p : Nat → Bool} {i : Nat} (hp : p i = true) : ∀ {n : Nat}, i < n → ((List.range n).filter p)[cntB p i]? = some i
  | 0, h => absurd h (Nat.not_lt_zero i)
  | n + 1, h => by
    rw [List.range_succ, List.filter_append]
    by_cases e : i = n
    · subst e
      have hl : ∀ m, ((List.range m).filter p).length = cntB p m := by
        intro m
        induction m with
        | zero => rfl
        | succ m ih =>
          rw [List.range_succ, List.filter_append, List.length_append, ih, cntB_s]
          by_cases q : p m = true <;> simp [q]
      rw [List.getElem?_append_right (by rw [hl]; exact Nat.le_refl _), hl, Nat.sub_self]
      simp [hp]
    · have ih := filt_nth hp (n := n) (by omega)
      rw [List.getElem?_append_left (List.getElem?_eq_some_iff.mp ih).1]
      exact ih
theorem filt_len (p : Nat → Bool) : ∀ m, ((List.range m).filter p).length = cntB p m := by
  intro m
  induction m with
  | zero => rfl
  | succ m ih =>
    rw [List.range_succ, List.filter_append, List.length_append, ih, cntB_s]
    by_cases q : p m = true <;> simp [q]
theorem nsR_len (f : Row) : (nsR f).length = szR f := filt_len _ 64
theorem nthR_of {f : Row} {i k : Nat} (hi : i < 64) (hp : hasR f i = true) (hk : cntB (hasR f) i = k) : nthR f k = i := by
  unfold nthR
  rw [List.getD_eq_getElem?_getD, ← hk, show (nsR f)[cntB (hasR f) i]? = some i from filt_nth hp hi]
  rfl
theorem cntB_mono (p : Nat → Bool) (m : Nat) : ∀ n, m ≤ n → cntB p m ≤ cntB p n := by
  intro n
  induction n with
  | zero => intro h; rw [show m = 0 by omega]; exact Nat.le_refl _
  | succ n ih =>
    intro h
    by_cases e : m = n + 1
    · rw [e]; exact Nat.le_refl _
    · have := ih (by omega)
      show cntB p m ≤ cntB p n + _
      omega
