/-! THE CLASS' STATE: 61 cells at addresses ad 0 .. ad 60, what they hold by a state of rows, counts and numbers.
Slips j (j < 27): 0 the desk's, 1 + 13 k + i row i of binder k, 13 + 13 k its 'merged'. -/
abbrev CS : Type := (Nat → Row) × (Nat → Nat → Nat) × (Nat → Int32) × (Nat → Int32) × Int32 × Int32
def sF (S : CS) : Nat → Row := S.1
def sN (S : CS) : Nat → Nat → Nat := S.2.1
def sV (S : CS) : Nat → Int32 := S.2.2.1
def sG (S : CS) : Nat → Int32 := S.2.2.2.1
def sR (S : CS) : Int32 := S.2.2.2.2.1
def sD (S : CS) : Int32 := S.2.2.2.2.2
def uF (S : CS) (j : Nat) (f : Row) : CS := (fun i => if i = j then f else sF S i, sN S, sV S, sG S, sR S, sD S)
def uN (S : CS) (k l v : Nat) : CS := (sF S, fun k2 l2 => if k2 = k ∧ l2 = l then v else sN S k2 l2, sV S, sG S, sR S, sD S)
def uV (S : CS) (k : Nat) (v : Int32) : CS := (sF S, sN S, fun k2 => if k2 = k then v else sV S k2, sG S, sR S, sD S)
def uG (S : CS) (k : Nat) (v : Int32) : CS := (sF S, sN S, sV S, fun k2 => if k2 = k then v else sG S k2, sR S, sD S)
def uR (S : CS) (v : Int32) : CS := (sF S, sN S, sV S, sG S, v, sD S)
def uD (S : CS) (v : Int32) : CS := (sF S, sN S, sV S, sG S, sR S, v)
def aS (ad : Nat → Nat) (j : Nat) : Nat := ad (2 * j)
def aW (ad : Nat → Nat) (j : Nat) : Nat := ad (2 * j + 1)
def aB (ad : Nat → Nat) (k : Nat) : Nat := ad (54 + 3 * k)
def aQ (ad : Nat → Nat) (k : Nat) : Nat := ad (55 + 3 * k)
def aN (ad : Nat → Nat) (k : Nat) : Nat := ad (56 + 3 * k)
def aX (ad : Nat → Nat) : Nat := ad 60
abbrev boO (ad : Nat → Nat) (S : CS) (k : Nat) : List Value := [.ref (aQ ad k), .ref (aN ad k), .ref (aS ad (13 + 13 * k)), .int (sV S k), .int (sG S k)]
abbrev xO (ad : Nat → Nat) (S : CS) : List Value := [.ref (aS ad 0), .ref (aB ad 0), .ref (aB ad 1), .int (sR S), .int (sD S)]
def cE (ad : Nat → Nat) (S : CS) (key : Nat) : hE :=
  if key < 54 then (if key % 2 = 0 then eO 1 (slO (aW ad (key / 2)) (sF S (key / 2))) else eI 64 (sF S (key / 2)))
  else if key = 60 then eO 2 (xO ad S)
  else if (key - 54) % 3 = 0 then eO 0 (boO ad S ((key - 54) / 3))
  else if (key - 54) % 3 = 1 then eQ 2 12 (fun i => some (aS ad (1 + 13 * ((key - 54) / 3) + i)))
  else eI 4 (fun l => nI (sN S ((key - 54) / 3) l))
def cOk (S : CS) : Prop := (∀ j, okR (sF S j)) ∧ (∀ k l, sN S k l ≤ 3) ∧ ∀ k l, 4 ≤ l → sN S k l = 0
def cW (ad : Nat → Nat) (S : CS) (hp : HP) : Prop := (∀ i j, i < 61 → j < 61 → ad i = ad j → i = j) ∧ cOk S ∧ ∀ key, key < 61 → hp (ad key) = some (cE ad S key)
def cFr (ad : Nat → Nat) (hp hp' : HP) : Prop := ∀ q, (∀ key, key < 61 → q ≠ ad key) → hp' q = hp q
theorem cFr.rf {ad : Nat → Nat} {hp : HP} : cFr ad hp hp := fun _ _ => rfl
theorem cFr.tr {ad : Nat → Nat} {h1 h2 h3 : HP} (a : cFr ad h1 h2) (b : cFr ad h2 h3) : cFr ad h1 h3 := fun q hq => (b q hq).trans (a q hq)
theorem cFr.put {ad : Nat → Nat} {h1 h2 : HP} (a : cFr ad h1 h2) {key : Nat} (hk : key < 61) (e : hE) : cFr ad h1 (hput h2 (ad key) e) := fun q hq => (hput_n _ _ (hq key hk)).trans (a q hq)
theorem cW.sl {ad : Nat → Nat} {S : CS} {hp : HP} (h : cW ad S hp) {j : Nat} (hj : j < 27) : slAt hp (aS ad j) (aW ad j) (sF S j) := by
  have h1 := h.2.2 (2 * j) (by omega)
  have h2 := h.2.2 (2 * j + 1) (by omega)
  unfold cE at h1 h2
  rw [if_pos (by omega), if_pos (by omega), show 2 * j / 2 = j by omega] at h1
  rw [if_pos (by omega), if_neg (by omega), show (2 * j + 1) / 2 = j by omega] at h2
  exact ⟨h1, h2⟩
theorem cW.bo {ad : Nat → Nat} {S : CS} {hp : HP} (h : cW ad S hp) {k : Nat} (hk : k < 2) : hp (aB ad k) = some (eO 0 (boO ad S k)) := by
  have h1 := h.2.2 (54 + 3 * k) (by omega)
  unfold cE at h1
  rw [if_neg (by omega), if_neg (by omega), if_pos (by omega), show (54 + 3 * k - 54) / 3 = k by omega] at h1
  exact h1
theorem cW.bq {ad : Nat → Nat} {S : CS} {hp : HP} (h : cW ad S hp) {k : Nat} (hk : k < 2) : hp (aQ ad k) = some (eQ 2 12 (fun i => some (aS ad (1 + 13 * k + i)))) := by
  have h1 := h.2.2 (55 + 3 * k) (by omega)
  unfold cE at h1
  rw [if_neg (by omega), if_neg (by omega), if_neg (by omega), if_pos (by omega), show (55 + 3 * k - 54) / 3 = k by omega] at h1
  exact h1
theorem cW.bn {ad : Nat → Nat} {S : CS} {hp : HP} (h : cW ad S hp) {k : Nat} (hk : k < 2) : hp (aN ad k) = some (eI 4 (fun l => nI (sN S k l))) := by
  have h1 := h.2.2 (56 + 3 * k) (by omega)
  unfold cE at h1
  rw [if_neg (by omega), if_neg (by omega), if_neg (by omega), if_neg (by omega), show (56 + 3 * k - 54) / 3 = k by omega] at h1
  exact h1
theorem cW.xo {ad : Nat → Nat} {S : CS} {hp : HP} (h : cW ad S hp) : hp (aX ad) = some (eO 2 (xO ad S)) := by
  have h1 := h.2.2 60 (by omega)
  unfold cE at h1
  rw [if_neg (by omega), if_pos rfl] at h1
  exact h1
theorem cW.ok {ad : Nat → Nat} {S : CS} {hp : HP} (h : cW ad S hp) : cOk S := h.2.1
/-- one cell more is written: the state behind it -/
theorem cW.put {ad : Nat → Nat} {S S' : CS} {hp : HP} (h : cW ad S hp) {key : Nat} (hk : key < 61) {e : hE} (hok : cOk S') (he : cE ad S' key = e) (ho : ∀ q, q < 61 → q ≠ key → cE ad S' q = cE ad S q) : cW ad S' (hput hp (ad key) e) := by
  refine ⟨h.1, hok, fun q hq => ?_⟩
  by_cases e1 : q = key
  · subst e1
    rw [hput_s, he]
  · rw [hput_n _ _ (fun z => e1 (h.1 q key hq hk z)), ho q hq e1]
    exact h.2.2 q hq
theorem cW.put2 {ad : Nat → Nat} {S S' : CS} {hp : HP} (h : cW ad S hp) {key key2 : Nat} (hk : key < 61) (hk2 : key2 < 61) {e e2 : hE} (hne : key ≠ key2) (hok : cOk S') (he : cE ad S' key = e) (he2 : cE ad S' key2 = e2) (ho : ∀ q, q < 61 → q ≠ key → q ≠ key2 → cE ad S' q = cE ad S q) : cW ad S' (hput (hput hp (ad key) e) (ad key2) e2) := by
  refine ⟨h.1, hok, fun q hq => ?_⟩
  by_cases e2 : q = key2
  · subst e2
    rw [hput_s, he2]
  · rw [hput_n _ _ (fun z => e2 (h.1 q key2 hq hk2 z))]
    by_cases e1 : q = key
    · subst e1
      rw [hput_s, he]
    · rw [hput_n _ _ (fun z => e1 (h.1 q key hq hk z)), ho q hq e1 e2]
      exact h.2.2 q hq
theorem cOk.uF {S : CS} (h : cOk S) (j : Nat) {f : Row} (hf : okR f) : cOk (uF S j f) := by
  refine ⟨fun i => ?_, h.2⟩
  show okR (if i = j then f else sF S i)
  split
  · exact hf
  · exact h.1 i
theorem cOk.uN {S : CS} (h : cOk S) (k : Nat) {l v : Nat} (hl : l < 4) (hv : v ≤ 3) : cOk (uN S k l v) := by
  refine ⟨h.1, fun k2 l2 => ?_, fun k2 l2 h4 => ?_⟩
  · show (if k2 = k ∧ l2 = l then v else sN S k2 l2) ≤ 3
    split
    · exact hv
    · exact h.2.1 k2 l2
  · show (if k2 = k ∧ l2 = l then v else sN S k2 l2) = 0
    rw [if_neg (fun z => by omega)]
    exact h.2.2 k2 l2 h4
theorem cW.setF {ad : Nat → Nat} {S : CS} {hp : HP} (h : cW ad S hp) {j : Nat} (hj : j < 27) {f : Row} (hf : okR f) : cW ad (uF S j f) (hput (hput hp (aW ad j) (eI 64 f)) (aS ad j) (eO 1 (slO (aW ad j) f))) := by
  refine h.put2 (key := 2 * j + 1) (key2 := 2 * j) (by omega) (by omega) (by omega) (h.ok.uF j hf) ?_ ?_ (fun q hq h1 h2 => ?_)
  · unfold cE
    rw [if_pos (by omega), if_neg (by omega), show (2 * j + 1) / 2 = j by omega]
    show eI 64 (if j = j then f else sF S j) = _
    rw [if_pos rfl]
  · unfold cE
    rw [if_pos (by omega), if_pos (by omega), show 2 * j / 2 = j by omega]
    show eO 1 (slO (aW ad j) (if j = j then f else sF S j)) = _
    rw [if_pos rfl]
  · unfold cE
    by_cases h3 : q < 54
    · rw [if_pos h3, if_pos h3]
      have e : sF (uF S j f) (q / 2) = sF S (q / 2) := if_neg (by omega)
      rw [e]
    · rw [if_neg h3, if_neg h3]
      rfl
theorem cFr.setF {ad : Nat → Nat} {h1 h2 : HP} (a : cFr ad h1 h2) {j : Nat} (hj : j < 27) (e e2 : hE) : cFr ad h1 (hput (hput h2 (aW ad j) e) (aS ad j) e2) := (a.put (key := 2 * j + 1) (by omega) e).put (key := 2 * j) (by omega) e2
theorem cW.setN {ad : Nat → Nat} {S : CS} {hp : HP} (h : cW ad S hp) {k : Nat} (hk : k < 2) {l v : Nat} (hl : l < 4) (hv : v ≤ 3) : cW ad (uN S k l v) (hput hp (aN ad k) (eI 4 (upd (fun l => nI (sN S k l)) l (nI v)))) := by
  refine h.put (key := 56 + 3 * k) (by omega) (h.ok.uN k hl hv) ?_ (fun q hq h1 => ?_)
  · unfold cE
    rw [if_neg (by omega), if_neg (by omega), if_neg (by omega), if_neg (by omega), show (56 + 3 * k - 54) / 3 = k by omega]
    congr 3
    funext l2
    show nI (if k = k ∧ l2 = l then v else sN S k l2) = _
    unfold upd
    by_cases e : l2 = l <;> simp [e]
  · unfold cE
    split
    · rfl
    · split
      · rfl
      · split
        · rfl
        · split
          · rfl
          · rename_i h2 h3 h4 h5
            have e : ∀ l2, sN (uN S k l v) ((q - 54) / 3) l2 = sN S ((q - 54) / 3) l2 := fun l2 => if_neg (fun z => by omega)
            simp only [e]
theorem cFr.setN {ad : Nat → Nat} {h1 h2 : HP} (a : cFr ad h1 h2) {k : Nat} (hk : k < 2) (e : hE) : cFr ad h1 (hput h2 (aN ad k) e) := a.put (key := 56 + 3 * k) (by omega) e
theorem cE_bo {ad : Nat → Nat} {S S' : CS} {k : Nat} (hk : k < 2) (h1 : sF S' = sF S) (h2 : sN S' = sN S) (h3 : sR S' = sR S) (h4 : sD S' = sD S) (h5 : ∀ k2, k2 ≠ k → sV S' k2 = sV S k2) (h6 : ∀ k2, k2 ≠ k → sG S' k2 = sG S k2) : ∀ q, q < 61 → q ≠ 54 + 3 * k → cE ad S' q = cE ad S q := by
  intro q hq hne
  unfold cE boO xO
  rw [h1, h2, h3, h4]
  split
  · rfl
  · split
    · rfl
    · split
      · rw [h5 _ (by omega), h6 _ (by omega)]
      · rfl
theorem cW.setV {ad : Nat → Nat} {S : CS} {hp : HP} (h : cW ad S hp) {k : Nat} (hk : k < 2) (v : Int32) : cW ad (uV S k v) (hput hp (aB ad k) (eO 0 [.ref (aQ ad k), .ref (aN ad k), .ref (aS ad (13 + 13 * k)), .int v, .int (sG S k)])) := by
  refine h.put (key := 54 + 3 * k) (by omega) h.ok ?_ (cE_bo hk rfl rfl rfl rfl (fun k2 e => if_neg e) (fun _ _ => rfl))
  unfold cE
  rw [if_neg (by omega), if_neg (by omega), if_pos (by omega), show (54 + 3 * k - 54) / 3 = k by omega]
  show eO 0 [.ref (aQ ad k), .ref (aN ad k), .ref (aS ad (13 + 13 * k)), .int (if k = k then v else sV S k), .int (sG S k)] = _
  rw [if_pos rfl]
theorem cW.setG {ad : Nat → Nat} {S : CS} {hp : HP} (h : cW ad S hp) {k : Nat} (hk : k < 2) (v : Int32) : cW ad (uG S k v) (hput hp (aB ad k) (eO 0 [.ref (aQ ad k), .ref (aN ad k), .ref (aS ad (13 + 13 * k)), .int (sV S k), .int v])) := by
  refine h.put (key := 54 + 3 * k) (by omega) h.ok ?_ (cE_bo hk rfl rfl rfl rfl (fun _ _ => rfl) (fun k2 e => if_neg e))
  unfold cE
  rw [if_neg (by omega), if_neg (by omega), if_pos (by omega), show (54 + 3 * k - 54) / 3 = k by omega]
  show eO 0 [.ref (aQ ad k), .ref (aN ad k), .ref (aS ad (13 + 13 * k)), .int (sV S k), .int (if k = k then v else sG S k)] = _
  rw [if_pos rfl]
theorem cFr.setB {ad : Nat → Nat} {h1 h2 : HP} (a : cFr ad h1 h2) {k : Nat} (hk : k < 2) (e : hE) : cFr ad h1 (hput h2 (aB ad k) e) := a.put (key := 54 + 3 * k) (by omega) e
theorem cE_x {ad : Nat → Nat} {S S' : CS} (h1 : sF S' = sF S) (h2 : sN S' = sN S) (h5 : sV S' = sV S) (h6 : sG S' = sG S) : ∀ q, q < 61 → q ≠ 60 → cE ad S' q = cE ad S q := by
  intro q hq hne
  unfold cE boO
  rw [h1, h2, h5, h6]
  split
  · rfl
  · rfl
theorem cW.setR {ad : Nat → Nat} {S : CS} {hp : HP} (h : cW ad S hp) (v : Int32) : cW ad (uR S v) (hput hp (aX ad) (eO 2 [.ref (aS ad 0), .ref (aB ad 0), .ref (aB ad 1), .int v, .int (sD S)])) := by
  refine h.put (key := 60) (by omega) h.ok ?_ (cE_x rfl rfl rfl rfl)
  unfold cE
  rw [if_neg (by omega), if_pos rfl]
  rfl
theorem cW.setD {ad : Nat → Nat} {S : CS} {hp : HP} (h : cW ad S hp) (v : Int32) : cW ad (uD S v) (hput hp (aX ad) (eO 2 [.ref (aS ad 0), .ref (aB ad 0), .ref (aB ad 1), .int (sR S), .int v])) := by
  refine h.put (key := 60) (by omega) h.ok ?_ (cE_x rfl rfl rfl rfl)
  unfold cE
  rw [if_neg (by omega), if_pos rfl]
  rfl
theorem cFr.setX {ad : Nat → Nat} {h1 h2 : HP} (a : cFr ad h1 h2) (e : hE) : cFr ad h1 (hput h2 (aX ad) e) := a.put (key := 60) (by omega) e
theorem cW.ne {ad : Nat → Nat} {S : CS} {hp : HP} (h : cW ad S hp) {i j : Nat} (hi : i < 27) (hj : j < 27) (hij : i ≠ j) : aS ad i ≠ aS ad j ∧ aW ad i ≠ aW ad j :=
  ⟨fun e => by have := h.1 (2 * i) (2 * j) (by omega) (by omega) e; omega, fun e => by have := h.1 (2 * i + 1) (2 * j + 1) (by omega) (by omega) e; omega⟩
/-- the r-th latest run of level l of binder k -/
def gC (S : CS) (k l r : Nat) : Row := if r < sN S k l then sF S (1 + 13 * k + (3 * l + (sN S k l - 1 - r))) else emR
