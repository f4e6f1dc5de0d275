/-! what is found in levels: levels l hold n l runs g l 0, g l 1 .., the latest first -/
abbrev LV : Type := Nat → Nat → Row
def snA (g : Nat → Nat) : Nat → Nat
  | 0 => 0
  | i + 1 => snA g i + g i
def fsL (g : Nat → Row) (x : Nat) : Nat → Nat → Int32
  | 0, _ => -2
  | m + 1, r => if hasR (g r) x then g r x else fsL g x m (r + 1)
def fsA (n : Nat → Nat) (g : LV) (x : Nat) : Nat → Nat → Int32
  | 0, _ => -2
  | m + 1, l => if fsL (g l) x (n l) 0 = -2 then fsA n g x m (l + 1) else fsL (g l) x (n l) 0
def nxN (g : Nat → Row) (x : Nat) (m : Nat) : Bool := (List.range m).any (fun r => hasR (g r) x)
/-- whether run r of level l holds the first slip of x -/
def frA (n : Nat → Nat) (g : LV) (l r x : Nat) : Bool := decide (∀ l2, l2 < l → fsL (g l2) x (n l2) 0 = -2) && (decide (∀ r2, r2 < r → hasR (g l r2) x = false) && hasR (g l r) x)
def dtL (g : Nat → Row) (x : Nat) (cont : Nat) : Nat → Nat → Nat
  | 0, _ => cont
  | m + 1, r => if opnC (g r) x then (if hasR (g r) x then 1 else 1 + dtL g x cont m (r + 1)) else dtL g x cont m (r + 1)
def dtA (n : Nat → Nat) (g : LV) (x : Nat) : Nat → Nat → Nat
  | 0, _ => 0
  | m + 1, l => dtL (g l) x (dtA n g x m (l + 1)) (n l) 0
theorem fsL_none {g : Nat → Row} {x : Nat} : ∀ {m r : Nat}, (∀ r2, r ≤ r2 → r2 < r + m → hasR (g r2) x = false) → fsL g x m r = -2
  | 0, _, _ => rfl
  | m + 1, r, h => by
    unfold fsL
    rw [h r (Nat.le_refl r) (by omega)]
    exact fsL_none (fun r2 h1 h2 => h r2 (by omega) (by omega))
theorem fsL_some {g : Nat → Row} {x i : Nat} (hi : hasR (g i) x = true) : ∀ {m r : Nat}, r ≤ i → i < r + m → (∀ r2, r ≤ r2 → r2 < i → hasR (g r2) x = false) → fsL g x m r = g i x
  | 0, r, h1, h2, _ => absurd h2 (by omega)
  | m + 1, r, h1, h2, h => by
    unfold fsL
    by_cases e : r = i
    · subst e
      rw [if_pos hi]
    · rw [h r (Nat.le_refl r) (by omega)]
      exact fsL_some hi (by omega) (by omega) (fun r2 h3 h4 => h r2 (by omega) h4)
theorem fsL_iff {g : Nat → Row} {x m : Nat} : fsL g x m 0 = -2 ↔ ∀ r, r < m → hasR (g r) x = false := by
  refine ⟨fun h r hr => ?_, fun h => fsL_none (fun r2 _ h2 => h r2 (by omega))⟩
  cases hq : hasR (g r) x with
  | false => rfl
  | true =>
    obtain ⟨i, hi1, hi2⟩ : ∃ i, hasR (g i) x = true ∧ i ≤ r ∧ ∀ j, j < i → hasR (g j) x = false := by
      obtain ⟨i, h1, h2⟩ := pk_least (fun i => hasR (g i) x = true) ⟨r, hq⟩
      exact ⟨i, h1, by rcases Nat.lt_or_ge r i with q | q; exact absurd hq (h2 r q); exact q, fun j hj => by have := h2 j hj; cases hz : hasR (g j) x with | false => rfl | true => exact absurd hz this⟩
    rw [fsL_some hi1 (m := m) (r := 0) (Nat.zero_le i) (by omega) (fun r2 _ h4 => hi2.2 r2 h4)] at h
    rw [hasR, h] at hi1
    simp at hi1
theorem fsA_none {n : Nat → Nat} {g : LV} {x : Nat} : ∀ {m l : Nat}, (∀ l2, l ≤ l2 → l2 < l + m → fsL (g l2) x (n l2) 0 = -2) → fsA n g x m l = -2
  | 0, _, _ => rfl
  | m + 1, l, h => by
    unfold fsA
    rw [if_pos (h l (Nat.le_refl l) (by omega))]
    exact fsA_none (fun l2 h1 h2 => h l2 (by omega) (by omega))
theorem fsA_some {n : Nat → Nat} {g : LV} {x i : Nat} (hi : ¬ fsL (g i) x (n i) 0 = -2) : ∀ {m l : Nat}, l ≤ i → i < l + m → (∀ l2, l ≤ l2 → l2 < i → fsL (g l2) x (n l2) 0 = -2) → fsA n g x m l = fsL (g i) x (n i) 0
  | 0, l, h1, h2, _ => absurd h2 (by omega)
  | m + 1, l, h1, h2, h => by
    unfold fsA
    by_cases e : l = i
    · subst e
      rw [if_neg hi]
    · rw [if_pos (h l (Nat.le_refl l) (by omega))]
      exact fsA_some hi (by omega) (by omega) (fun l2 h3 h4 => h l2 (by omega) h4)
theorem frA_1 {n : Nat → Nat} {g : LV} {l r x l2 : Nat} (h : l2 < l) (hf : ¬ fsL (g l2) x (n l2) 0 = -2) : frA n g l r x = false := by
  unfold frA
  rw [decide_eq_false (fun z => hf (z l2 h))]
  rfl
theorem frA_2 {n : Nat → Nat} {g : LV} {l r x r2 : Nat} (h : r2 < r) (hf : hasR (g l r2) x = true) : frA n g l r x = false := by
  unfold frA
  rw [decide_eq_false (p := ∀ r2, r2 < r → hasR (g l r2) x = false) (fun z => by rw [z r2 h] at hf; cases hf)]
  simp
theorem frA_3 {n : Nat → Nat} {g : LV} {l r x : Nat} (h1 : ∀ l2, l2 < l → fsL (g l2) x (n l2) 0 = -2) (h2 : ∀ r2, r2 < r → hasR (g l r2) x = false) : frA n g l r x = hasR (g l r) x := by
  unfold frA
  rw [decide_eq_true h1, decide_eq_true h2]
  rfl
def iR (S : CS) (k l r : Nat) : Nat := 1 + 13 * k + (3 * l + (sN S k l - 1 - r))
theorem iR_lt {S : CS} (h : cOk S) {k l r : Nat} (hk : k < 2) (hl : l < 4) (hr : r < sN S k l) : iR S k l r < 27 := by
  have := h.2.1 k l
  unfold iR
  omega
theorem cW.run {ad : Nat → Nat} {S : CS} {hp : HP} (h : cW ad S hp) {k l r : Nat} (hk : k < 2) (hl : l < 4) (hr : r < sN S k l) : slAt hp (aS ad (iR S k l r)) (aW ad (iR S k l r)) (gC S k l r) := by
  have h1 := h.sl (iR_lt h.ok hk hl hr)
  unfold gC
  rw [if_pos hr]
  exact h1
/-- the numbers of runs and the runs of a binder -/
def slB (S : CS) (k l : Nat) : Nat := snA (fun r => szR (gC S k l r)) (sN S k l)
def tbB (S : CS) (k l : Nat) : Nat := snA (fun r => tbR (gC S k l r)) (sN S k l)
def slAll (S : CS) (k : Nat) : Nat := snA (fun l => slB S k l) 4
theorem snA_le {g : Nat → Nat} {c : Nat} : ∀ {m : Nat}, (∀ i, i < m → g i ≤ c) → snA g m ≤ m * c
  | 0, _ => Nat.zero_le _
  | m + 1, h => by
    have := snA_le (g := g) (c := c) (m := m) (fun i hi => h i (by omega))
    have h2 := h m (by omega)
    show snA g m + g m ≤ (m + 1) * c
    rw [Nat.succ_mul]
    omega
def nbR (n : Nat → Nat) : Nat → Nat → Bool
  | 0, _ => true
  | m + 1, l => if n l = 0 then nbR n m (l + 1) else false
def nbA (n : Nat → Nat) (l : Nat) : Bool := nbR n (3 - l) (l + 1)
theorem nbR_t {n : Nat → Nat} : ∀ {m l : Nat}, (∀ l2, l ≤ l2 → l2 < l + m → n l2 = 0) → nbR n m l = true
  | 0, _, _ => rfl
  | m + 1, l, h => by
    unfold nbR
    rw [if_pos (h l (Nat.le_refl l) (by omega))]
    exact nbR_t (fun l2 h1 h2 => h l2 (by omega) (by omega))
theorem nbR_f {n : Nat → Nat} {i : Nat} (hi : ¬ n i = 0) : ∀ {m l : Nat}, l ≤ i → i < l + m → nbR n m l = false
  | 0, l, h1, h2 => absurd h2 (by omega)
  | m + 1, l, h1, h2 => by
    unfold nbR
    split
    · rename_i h3
      have : l ≠ i := fun z => hi (z ▸ h3)
      exact nbR_f hi (by omega) (by omega)
    · rfl
theorem dtL_s (g : Nat → Row) (x cont m r : Nat) : dtL g x cont (m + 1) r = if opnC (g r) x then (if hasR (g r) x then 1 else 1 + dtL g x cont m (r + 1)) else dtL g x cont m (r + 1) := rfl
/-- a counting loop with a number besides -/
theorem h_loopO {W9 : Array Slot → Prop} {nL : Nat} (N : Nat) (L : Nat → Nat → List (Nat × Value)) (I : Nat → Nat → Prop) (hs : ∀ i : Nat, i ≤ N → ∀ o : Nat, I i o → (i < N → ∀ o2 : Nat, I (i + 1) o2 → ∀ ls : Array Slot, lv_has ls nL (L (i + 1) o2) → W9 ls) → ∀ ls : Array Slot, lv_has ls nL (L i o) → W9 ls) :
    ∀ i : Nat, i ≤ N → ∀ o : Nat, I i o → ∀ ls : Array Slot, lv_has ls nL (L i o) → W9 ls := by
  have key : ∀ k i : Nat, i + k = N → ∀ o : Nat, I i o → ∀ ls : Array Slot, lv_has ls nL (L i o) → W9 ls := by
    intro k
    induction k with
    | zero => intro i hk o hI; exact hs i (by omega) o hI (fun h => absurd h (by omega))
    | succ k ih => intro i hk o hI; exact hs i (by omega) o hI (fun _ o2 h => ih (i + 1) (by omega) o2 h)
  intro i hi o hI
  exact key (N - i) i (by omega) o hI

set_option maxHeartbeats 4000000 in
set_option maxRecDepth 100000 in
theorem c_X0_moves (l : Launch) (G : hG) (hp : HP) (ad : Nat → Nat) (S : CS) (hC : cW ad S hp) (k : Nat) (hk : k < 2) : hRd l yX0_moves wsX0_moves 0 0 G hp [.ref (aB ad k)] (some (.int (sV S k))) := by
  refine Met.ofW (cc := cX0_moves) (maxL := 1) (ret := (some .int)) (by decide) rfl ?_
  intro p e s m args below meth c s₁ B hml hv
  obtain ⟨rfl, hV0, hK0⟩ := hv
  have hx := B.exec
  have hb := B.bytes
  have hr := B.returns
  have hts := atoms_spec (ws := wsX0_moves) B.pre
  have hown : s.vm.findClass RX0 = some m.cls := findClass_of_methodNamed B.named
  have hlocks := B.notSynchronized
  have hF : CallFix p m c cX0_moves 1 s [.ref (aB ad k)].toArray wsX0_moves RX0 := ⟨hx, hb, hml, hown, hts⟩
  have hw0 := hts (.fieldLink RX0 26 "SlipLevels$Binder" "moves" "I") (by decide +kernel)
  have hi0 : ∀ w ∈ u_ws RX0 TX0 5, w ∈ wsX0_moves := by
    intro w h
    unfold wsX0_moves
    simp only [List.mem_cons, List.mem_append, h, true_or, or_true]
  have hl := lv_entry ([.ref (aB ad k)]) (n := 1) (Nat.le_of_ble_eq_true rfl)
  rw [lg_entry_eq]
  generalize (lg_sl ([.ref (aB ad k)]) ++ List.replicate (1 - (lg_sl ([.ref (aB ad k)])).length) Slot.unset).toArray = ls at hl ⊢
  replace hl : lv_has ls 1 [(0, .ref (aB ad k))] := hl
  refine lv_aload_n hx hb dX0_moves_0 rfl (lv_at hl 0 rfl) ?_
  refine h_get (v := .int (sV S k)) hx hb hts hi0 hown hK0 hV0 (hC.bo hk) rfl 3 (by decide) hw0 rfl dX0_moves_1 ?_
  exact h_iretR hx hb hr hlocks (by first | rfl | assumption) dX0_moves_4

set_option maxHeartbeats 4000000 in
set_option maxRecDepth 100000 in
theorem c_X0_mergings (l : Launch) (G : hG) (hp : HP) (ad : Nat → Nat) (S : CS) (hC : cW ad S hp) (k : Nat) (hk : k < 2) : hRd l yX0_mergings wsX0_mergings 0 0 G hp [.ref (aB ad k)] (some (.int (sG S k))) := by
  refine Met.ofW (cc := cX0_mergings) (maxL := 1) (ret := (some .int)) (by decide) rfl ?_
  intro p e s m args below meth c s₁ B hml hv
  obtain ⟨rfl, hV0, hK0⟩ := hv
  have hx := B.exec
  have hb := B.bytes
  have hr := B.returns
  have hts := atoms_spec (ws := wsX0_mergings) B.pre
  have hown : s.vm.findClass RX0 = some m.cls := findClass_of_methodNamed B.named
  have hlocks := B.notSynchronized
  have hF : CallFix p m c cX0_mergings 1 s [.ref (aB ad k)].toArray wsX0_mergings RX0 := ⟨hx, hb, hml, hown, hts⟩
  have hw0 := hts (.fieldLink RX0 30 "SlipLevels$Binder" "mergings" "I") (by decide +kernel)
  have hi0 : ∀ w ∈ u_ws RX0 TX0 5, w ∈ wsX0_mergings := by
    intro w h
    unfold wsX0_mergings
    simp only [List.mem_cons, List.mem_append, h, true_or, or_true]
  have hl := lv_entry ([.ref (aB ad k)]) (n := 1) (Nat.le_of_ble_eq_true rfl)
  rw [lg_entry_eq]
  generalize (lg_sl ([.ref (aB ad k)]) ++ List.replicate (1 - (lg_sl ([.ref (aB ad k)])).length) Slot.unset).toArray = ls at hl ⊢
  replace hl : lv_has ls 1 [(0, .ref (aB ad k))] := hl
  refine lv_aload_n hx hb dX0_mergings_0 rfl (lv_at hl 0 rfl) ?_
  refine h_get (v := .int (sG S k)) hx hb hts hi0 hown hK0 hV0 (hC.bo hk) rfl 4 (by decide) hw0 rfl dX0_mergings_1 ?_
  exact h_iretR hx hb hr hlocks (by first | rfl | assumption) dX0_mergings_4

set_option maxHeartbeats 4000000 in
set_option maxRecDepth 100000 in
theorem c_X0_runsOf (l : Launch) (G : hG) (hp : HP) (ad : Nat → Nat) (S : CS) (hC : cW ad S hp) (k : Nat) (hk : k < 2) (lv : Nat) (hl4 : lv < 4) : hRd l yX0_runsOf wsX0_runsOf 0 0 G hp [.ref (aB ad k), .int (nI lv)] (some (.int (nI (sN S k lv)))) := by
  refine Met.ofW (cc := cX0_runsOf) (maxL := 2) (ret := (some .int)) (by decide) rfl ?_
  intro p e s m args below meth c s₁ B hml hv
  obtain ⟨rfl, hV0, hK0⟩ := hv
  have hx := B.exec
  have hb := B.bytes
  have hr := B.returns
  have hts := atoms_spec (ws := wsX0_runsOf) B.pre
  have hown : s.vm.findClass RX0 = some m.cls := findClass_of_methodNamed B.named
  have hlocks := B.notSynchronized
  have hF : CallFix p m c cX0_runsOf 2 s [.ref (aB ad k), .int (nI lv)].toArray wsX0_runsOf RX0 := ⟨hx, hb, hml, hown, hts⟩
  have hw0 := hts (.fieldLink RX0 17 "SlipLevels$Binder" "runs" "[I") (by decide +kernel)
  have hi0 : ∀ w ∈ u_ws RX0 TX0 5, w ∈ wsX0_runsOf := by
    intro w h
    unfold wsX0_runsOf
    simp only [List.mem_cons, List.mem_append, h, true_or, or_true]
  have hl := lv_entry ([.ref (aB ad k), .int (nI lv)]) (n := 2) (Nat.le_of_ble_eq_true rfl)
  rw [lg_entry_eq]
  generalize (lg_sl ([.ref (aB ad k), .int (nI lv)]) ++ List.replicate (2 - (lg_sl ([.ref (aB ad k), .int (nI lv)])).length) Slot.unset).toArray = ls at hl ⊢
  replace hl : lv_has ls 2 [(0, .ref (aB ad k)), (1, .int (nI lv))] := hl
  refine lv_iload_n hx hb dX0_runsOf_0 rfl (lv_at hl 1 rfl) ?_
  refine h_if_lt (a := lv) (tgt := 9) hx hb dX0_runsOf_1 (by decide) (by omega) ?_
  refine lv_iload_n hx hb dX0_runsOf_4 rfl (lv_at hl 1 rfl) ?_
  refine lv_iconst (v := nI 4) hx hb dX0_runsOf_5 (by decide) ?_
  refine h_icmp_lt (a := lv) (b := 4) (tgt := 13) hx hb dX0_runsOf_6 (by decide) (by omega) (by omega) (fun c_6 => ?_) (fun c_6 => absurd hl4 c_6)
  refine lv_aload_n hx hb dX0_runsOf_13 rfl (lv_at hl 0 rfl) ?_
  refine h_get (v := .ref (aN ad k)) hx hb hts hi0 hown hK0 hV0 (hC.bo hk) rfl 1 (by decide) hw0 rfl dX0_runsOf_14 ?_
  refine lv_iload_n hx hb dX0_runsOf_17 rfl (lv_at hl 1 rfl) ?_
  refine h_iald (i := lv) hx hb hK0 hV0 (hC.bn hk) (by omega) (by omega) dX0_runsOf_18 ?_
  exact h_iretR hx hb hr hlocks (by first | rfl | assumption) dX0_runsOf_19

set_option maxHeartbeats 4000000 in
set_option maxRecDepth 100000 in
theorem c_X0_runAt (l : Launch) (G : hG) (hp : HP) (ad : Nat → Nat) (S : CS) (hC : cW ad S hp) (k : Nat) (hk : k < 2) (lv r : Nat) (hl4 : lv < 4) (hr0 : r < sN S k lv) : hRd l yX0_runAt wsX0_runAt 0 0 G hp [.ref (aB ad k), .int (nI lv), .int (nI r)] (some (va_rf (some (aS ad (iR S k lv r))))) := by
  refine Met.ofW (cc := cX0_runAt) (maxL := 4) (ret := (some (.object "SlipLevels$Slips"))) (by decide) rfl ?_
  intro p e s m args below meth c s₁ B hml hv
  obtain ⟨rfl, hV0, hK0⟩ := hv
  have hx := B.exec
  have hb := B.bytes
  have hr := B.returns
  have hts := atoms_spec (ws := wsX0_runAt) B.pre
  have hown : s.vm.findClass RX0 = some m.cls := findClass_of_methodNamed B.named
  have hlocks := B.notSynchronized
  have hF : CallFix p m c cX0_runAt 4 s [.ref (aB ad k), .int (nI lv), .int (nI r)].toArray wsX0_runAt RX0 := ⟨hx, hb, hml, hown, hts⟩
  have hw0 := hts (.fieldLink RX0 17 "SlipLevels$Binder" "runs" "[I") (by decide +kernel)
  have hw1 := hts (.fieldLink RX0 11 "SlipLevels$Binder" "rows" "[LSlipLevels$Slips;") (by decide +kernel)
  have hi0 : ∀ w ∈ u_ws RX0 TX0 5, w ∈ wsX0_runAt := by
    intro w h
    unfold wsX0_runAt
    simp only [List.mem_cons, List.mem_append, h, true_or, or_true]
  have hl := lv_entry ([.ref (aB ad k), .int (nI lv), .int (nI r)]) (n := 4) (Nat.le_of_ble_eq_true rfl)
  rw [lg_entry_eq]
  generalize (lg_sl ([.ref (aB ad k), .int (nI lv), .int (nI r)]) ++ List.replicate (4 - (lg_sl ([.ref (aB ad k), .int (nI lv), .int (nI r)])).length) Slot.unset).toArray = ls at hl ⊢
  replace hl : lv_has ls 4 [(0, .ref (aB ad k)), (1, .int (nI lv)), (2, .int (nI r))] := hl
  have hn := hC.ok.2.1 k lv
  refine lv_iload_n hx hb dX0_runAt_0 rfl (lv_at hl 1 rfl) ?_
  refine h_if_lt (a := lv) (tgt := 23) hx hb dX0_runAt_1 (by decide) (by omega) ?_
  refine lv_iload_n hx hb dX0_runAt_4 rfl (lv_at hl 1 rfl) ?_
  refine lv_iconst (v := nI 4) hx hb dX0_runAt_5 (by decide) ?_
  refine h_icmp_ge (a := lv) (b := 4) (tgt := 23) hx hb dX0_runAt_6 (by decide) (by omega) (by omega) (fun c_6 => absurd c_6 (by omega)) (fun c_6 => ?_)
  refine lv_iload_n hx hb dX0_runAt_9 rfl (lv_at hl 2 rfl) ?_
  refine h_if_lt (a := r) (tgt := 23) hx hb dX0_runAt_10 (by decide) (by omega) ?_
  refine lv_iload_n hx hb dX0_runAt_13 rfl (lv_at hl 2 rfl) ?_
  refine lv_aload_n hx hb dX0_runAt_14 rfl (lv_at hl 0 rfl) ?_
  refine h_get (v := .ref (aN ad k)) hx hb hts hi0 hown hK0 hV0 (hC.bo hk) rfl 1 (by decide) hw0 rfl dX0_runAt_15 ?_
  refine lv_iload_n hx hb dX0_runAt_18 rfl (lv_at hl 1 rfl) ?_
  refine h_iald (i := lv) hx hb hK0 hV0 (hC.bn hk) (by omega) (by omega) dX0_runAt_19 ?_
  refine h_icmp_lt (a := r) (b := sN S k lv) (tgt := 25) hx hb dX0_runAt_20 (by decide) (by omega) (by omega) (fun c_20 => ?_) (fun c_20 => absurd hr0 c_20)
  refine lv_iload_n hx hb dX0_runAt_25 rfl (lv_at hl 1 rfl) ?_
  refine lv_iconst (v := nI 3) hx hb dX0_runAt_26 (by decide) ?_
  refine h_imulN hx hb dX0_runAt_27 ?_
  refine lv_aload_n hx hb dX0_runAt_28 rfl (lv_at hl 0 rfl) ?_
  refine h_get (v := .ref (aN ad k)) hx hb hts hi0 hown hK0 hV0 (hC.bo hk) rfl 1 (by decide) hw0 rfl dX0_runAt_29 ?_
  refine lv_iload_n hx hb dX0_runAt_32 rfl (lv_at hl 1 rfl) ?_
  refine h_iald (i := lv) hx hb hK0 hV0 (hC.bn hk) (by omega) (by omega) dX0_runAt_33 ?_
  refine h_iaddN hx hb dX0_runAt_34 ?_
  refine lv_iconst (v := nI 1) hx hb dX0_runAt_35 (by decide) ?_
  refine h_isubN hx hb (by omega) dX0_runAt_36 ?_
  refine lv_iload_n hx hb dX0_runAt_37 rfl (lv_at hl 2 rfl) ?_
  refine h_isubN hx hb (by omega) dX0_runAt_38 ?_
  refine lv_istore_n (lv' := [(3, .int (nI ((lv) * (3) + sN S k lv - 1 - r))), (0, .ref (aB ad k)), (1, .int (nI lv)), (2, .int (nI r))]) hx hb dX0_runAt_39 rfl hl (by decide) rfl (fun ls hl => ?_)
  refine lv_iload_n hx hb dX0_runAt_40 rfl (lv_at hl 0 rfl) ?_
  refine h_if_lt (a := (lv) * (3) + sN S k lv - 1 - r) (tgt := 53) hx hb dX0_runAt_41 (by decide) (by omega) ?_
  refine lv_iload_n hx hb dX0_runAt_44 rfl (lv_at hl 0 rfl) ?_
  refine lv_aload_n hx hb dX0_runAt_45 rfl (lv_at hl 1 rfl) ?_
  refine h_get (v := .ref (aQ ad k)) hx hb hts hi0 hown hK0 hV0 (hC.bo hk) rfl 0 (by decide) hw1 rfl dX0_runAt_46 ?_
  refine h_alen hx hb hK0 hV0 (hC.bq hk) rfl dX0_runAt_49 ?_
  refine h_icmp_lt (a := (lv) * (3) + sN S k lv - 1 - r) (b := 12) (tgt := 57) hx hb dX0_runAt_50 (by decide) (by omega) (by omega) (fun c_50 => ?_) (fun c_50 => absurd (by omega) c_50)
  refine lv_aload_n hx hb dX0_runAt_57 rfl (lv_at hl 1 rfl) ?_
  refine h_get (v := .ref (aQ ad k)) hx hb hts hi0 hown hK0 hV0 (hC.bo hk) rfl 0 (by decide) hw1 rfl dX0_runAt_58 ?_
  refine lv_iload_n hx hb dX0_runAt_61 rfl (lv_at hl 0 rfl) ?_
  refine h_aald (i := (lv) * (3) + sN S k lv - 1 - r) hx hb hK0 hV0 (hC.bq hk) rfl rfl (by omega) (by omega) dX0_runAt_62 ?_
  exact h_aretR hx hb hr (Or.inl ⟨_, rfl⟩) hlocks (congrArg (fun z => va_rf (some (aS ad z))) (by unfold iR; omega)) dX0_runAt_63

set_option maxHeartbeats 4000000 in
set_option maxRecDepth 100000 in
theorem c_X0_runAtN (l : Launch) (G : hG) (hp : HP) (ad : Nat → Nat) (S : CS) (hC : cW ad S hp) (k : Nat) (hk : k < 2) (lv : Nat) (hl4 : lv < 4) (x : Int32) (hx0 : x < 0 ∨ nI (sN S k lv) ≤ x) : hRd l yX0_runAt wsX0_runAt 0 0 G hp [.ref (aB ad k), .int (nI lv), .int x] (some (va_rf none)) := by
  refine Met.ofW (cc := cX0_runAt) (maxL := 4) (ret := (some (.object "SlipLevels$Slips"))) (by decide) rfl ?_
  intro p e s m args below meth c s₁ B hml hv
  obtain ⟨rfl, hV0, hK0⟩ := hv
  have hx := B.exec
  have hb := B.bytes
  have hr := B.returns
  have hts := atoms_spec (ws := wsX0_runAt) B.pre
  have hown : s.vm.findClass RX0 = some m.cls := findClass_of_methodNamed B.named
  have hlocks := B.notSynchronized
  have hF : CallFix p m c cX0_runAt 4 s [.ref (aB ad k), .int (nI lv), .int x].toArray wsX0_runAt RX0 := ⟨hx, hb, hml, hown, hts⟩
  have hw0 := hts (.fieldLink RX0 17 "SlipLevels$Binder" "runs" "[I") (by decide +kernel)
  have hi0 : ∀ w ∈ u_ws RX0 TX0 5, w ∈ wsX0_runAt := by
    intro w h
    unfold wsX0_runAt
    simp only [List.mem_cons, List.mem_append, h, true_or, or_true]
  have hl := lv_entry ([.ref (aB ad k), .int (nI lv), .int x]) (n := 4) (Nat.le_of_ble_eq_true rfl)
  rw [lg_entry_eq]
  generalize (lg_sl ([.ref (aB ad k), .int (nI lv), .int x]) ++ List.replicate (4 - (lg_sl ([.ref (aB ad k), .int (nI lv), .int x])).length) Slot.unset).toArray = ls at hl ⊢
  replace hl : lv_has ls 4 [(0, .ref (aB ad k)), (1, .int (nI lv)), (2, .int x)] := hl
  have hn := hC.ok.2.1 k lv
  refine lv_iload_n hx hb dX0_runAt_0 rfl (lv_at hl 1 rfl) ?_
  refine h_if_lt (a := lv) (tgt := 23) hx hb dX0_runAt_1 (by decide) (by omega) ?_
  refine lv_iload_n hx hb dX0_runAt_4 rfl (lv_at hl 1 rfl) ?_
  refine lv_iconst (v := nI 4) hx hb dX0_runAt_5 (by decide) ?_
  refine h_icmp_ge (a := lv) (b := 4) (tgt := 23) hx hb dX0_runAt_6 (by decide) (by omega) (by omega) (fun c_6 => absurd c_6 (by omega)) (fun c_6 => ?_)
  refine lv_iload_n hx hb dX0_runAt_9 rfl (lv_at hl 2 rfl) ?_
  refine lv_if_lt (tgt := 23) hx hb dX0_runAt_10 (by decide) (fun c_10 => ?_) (fun c_10 => ?_)
  · refine lv_null hx hb dX0_runAt_23 ?_
    exact h_aretR hx hb hr (Or.inl ⟨_, rfl⟩) hlocks rfl dX0_runAt_24
  · refine lv_iload_n hx hb dX0_runAt_13 rfl (lv_at hl 2 rfl) ?_
    refine lv_aload_n hx hb dX0_runAt_14 rfl (lv_at hl 0 rfl) ?_
    refine h_get (v := .ref (aN ad k)) hx hb hts hi0 hown hK0 hV0 (hC.bo hk) rfl 1 (by decide) hw0 rfl dX0_runAt_15 ?_
    refine lv_iload_n hx hb dX0_runAt_18 rfl (lv_at hl 1 rfl) ?_
    refine h_iald (i := lv) hx hb hK0 hV0 (hC.bn hk) (by omega) (by omega) dX0_runAt_19 ?_
    refine lv_icmp_lt (tgt := 25) hx hb dX0_runAt_20 (by decide) (fun c_20 => absurd c_20 (by rcases hx0 with h | h; exact absurd h c_10; exact Int32.not_lt.mpr h)) (fun c_20 => ?_)
    refine lv_null hx hb dX0_runAt_23 ?_
    exact h_aretR hx hb hr (Or.inl ⟨_, rfl⟩) hlocks rfl dX0_runAt_24

set_option maxHeartbeats 4000000 in
set_option maxRecDepth 100000 in
theorem c_X0_rowAt (l : Launch) (G : hG) (hp : HP) (ad : Nat → Nat) (S : CS) (hC : cW ad S hp) (k : Nat) (hk : k < 2) (lv r : Nat) (hl4 : lv < 4) (hr0 : r < 3) : hRd l yX0_rowAt wsX0_rowAt 0 0 G hp [.ref (aB ad k), .int (nI lv), .int (nI r)] (some (va_rf (some (aS ad (1 + 13 * k + (3 * lv + r)))))) := by
  refine Met.ofW (cc := cX0_rowAt) (maxL := 3) (ret := (some (.object "SlipLevels$Slips"))) (by decide) rfl ?_
  intro p e s m args below meth c s₁ B hml hv
  obtain ⟨rfl, hV0, hK0⟩ := hv
  have hx := B.exec
  have hb := B.bytes
  have hr := B.returns
  have hts := atoms_spec (ws := wsX0_rowAt) B.pre
  have hown : s.vm.findClass RX0 = some m.cls := findClass_of_methodNamed B.named
  have hlocks := B.notSynchronized
  have hF : CallFix p m c cX0_rowAt 3 s [.ref (aB ad k), .int (nI lv), .int (nI r)].toArray wsX0_rowAt RX0 := ⟨hx, hb, hml, hown, hts⟩
  have hw0 := hts (.fieldLink RX0 11 "SlipLevels$Binder" "rows" "[LSlipLevels$Slips;") (by decide +kernel)
  have hi0 : ∀ w ∈ u_ws RX0 TX0 5, w ∈ wsX0_rowAt := by
    intro w h
    unfold wsX0_rowAt
    simp only [List.mem_cons, List.mem_append, h, true_or, or_true]
  have hl := lv_entry ([.ref (aB ad k), .int (nI lv), .int (nI r)]) (n := 3) (Nat.le_of_ble_eq_true rfl)
  rw [lg_entry_eq]
  generalize (lg_sl ([.ref (aB ad k), .int (nI lv), .int (nI r)]) ++ List.replicate (3 - (lg_sl ([.ref (aB ad k), .int (nI lv), .int (nI r)])).length) Slot.unset).toArray = ls at hl ⊢
  replace hl : lv_has ls 3 [(0, .ref (aB ad k)), (1, .int (nI lv)), (2, .int (nI r))] := hl
  refine lv_iload_n hx hb dX0_rowAt_0 rfl (lv_at hl 1 rfl) ?_
  refine h_if_lt (a := lv) (tgt := 18) hx hb dX0_rowAt_1 (by decide) (by omega) ?_
  refine lv_iload_n hx hb dX0_rowAt_4 rfl (lv_at hl 1 rfl) ?_
  refine lv_iconst (v := nI 4) hx hb dX0_rowAt_5 (by decide) ?_
  refine h_icmp_ge (a := lv) (b := 4) (tgt := 18) hx hb dX0_rowAt_6 (by decide) (by omega) (by omega) (fun c_6 => absurd c_6 (by omega)) (fun c_6 => ?_)
  refine lv_iload_n hx hb dX0_rowAt_9 rfl (lv_at hl 2 rfl) ?_
  refine h_if_lt (a := r) (tgt := 18) hx hb dX0_rowAt_10 (by decide) (by omega) ?_
  refine lv_iload_n hx hb dX0_rowAt_13 rfl (lv_at hl 2 rfl) ?_
  refine lv_iconst (v := nI 3) hx hb dX0_rowAt_14 (by decide) ?_
  refine h_icmp_lt (a := r) (b := 3) (tgt := 20) hx hb dX0_rowAt_15 (by decide) (by omega) (by omega) (fun c_15 => ?_) (fun c_15 => absurd hr0 c_15)
  refine lv_aload_n hx hb dX0_rowAt_20 rfl (lv_at hl 0 rfl) ?_
  refine h_get (v := .ref (aQ ad k)) hx hb hts hi0 hown hK0 hV0 (hC.bo hk) rfl 0 (by decide) hw0 rfl dX0_rowAt_21 ?_
  refine lv_iload_n hx hb dX0_rowAt_24 rfl (lv_at hl 1 rfl) ?_
  refine lv_iconst (v := nI 3) hx hb dX0_rowAt_25 (by decide) ?_
  refine h_imulN hx hb dX0_rowAt_26 ?_
  refine lv_iload_n hx hb dX0_rowAt_27 rfl (lv_at hl 2 rfl) ?_
  refine h_iaddN hx hb dX0_rowAt_28 ?_
  refine h_aald (i := (lv) * (3) + r) hx hb hK0 hV0 (hC.bq hk) rfl rfl (by omega) (by omega) dX0_rowAt_29 ?_
  exact h_aretR hx hb hr (Or.inl ⟨_, rfl⟩) hlocks (congrArg (fun z => va_rf (some (aS ad z))) (by omega)) dX0_rowAt_30

set_option maxHeartbeats 4000000 in
set_option maxRecDepth 100000 in
theorem c_X0_slipsOf (l : Launch) (G : hG) (hp : HP) (ad : Nat → Nat) (S : CS) (hC : cW ad S hp) (k : Nat) (hk : k < 2) (lv : Nat) (hl4 : lv < 4) : hRd l yX0_slipsOf wsX0_slipsOf 1 23 G hp [.ref (aB ad k), .int (nI lv)] (some (.int (nI (slB S k lv)))) := by
  refine Met.ofW (cc := cX0_slipsOf) (maxL := 5) (ret := (some .int)) (by decide) rfl ?_
  intro p e s m args below meth c s₁ B hml hv
  obtain ⟨rfl, hV0, hK0⟩ := hv
  have hx := B.exec
  have hb := B.bytes
  have hr := B.returns
  have hts := atoms_spec (ws := wsX0_slipsOf) B.pre
  have hown : s.vm.findClass RX0 = some m.cls := findClass_of_methodNamed B.named
  have hlocks := B.notSynchronized
  have hF : CallFix p m c cX0_slipsOf 5 s [.ref (aB ad k), .int (nI lv)].toArray wsX0_slipsOf RX0 := ⟨hx, hb, hml, hown, hts⟩
  have hl := lv_entry ([.ref (aB ad k), .int (nI lv)]) (n := 5) (Nat.le_of_ble_eq_true rfl)
  rw [lg_entry_eq]
  generalize (lg_sl ([.ref (aB ad k), .int (nI lv)]) ++ List.replicate (5 - (lg_sl ([.ref (aB ad k), .int (nI lv)])).length) Slot.unset).toArray = ls at hl ⊢
  replace hl : lv_has ls 5 [(0, .ref (aB ad k)), (1, .int (nI lv))] := hl
  have hn := hC.ok.2.1 k lv
  refine lv_iconst (v := nI 0) hx hb dX0_slipsOf_0 (by decide) ?_
  refine lv_istore_n (lv' := [(2, .int (nI 0)), (0, .ref (aB ad k)), (1, .int (nI lv))]) hx hb dX0_slipsOf_1 rfl hl (by decide) rfl (fun ls hl => ?_)
  refine lv_iconst (v := nI 0) hx hb dX0_slipsOf_2 (by decide) ?_
  refine lv_istore_n (lv' := [(3, .int (nI 0)), (2, .int (nI 0)), (0, .ref (aB ad k)), (1, .int (nI lv))]) hx hb dX0_slipsOf_3 rfl hl (by decide) rfl (fun ls hl => ?_)
  replace hl : lv_has ls 5 [(3, .int (nI 0)), (2, .int (nI (snA (fun r => szR (gC S k lv r)) 0))), (0, .ref (aB ad k)), (1, .int (nI lv))] := lv_sub hl [0, 1, 2, 3] rfl
  revert ls
  refine h_loop (sN S k lv) (fun i => [(3, .int (nI i)), (2, .int (nI (snA (fun r => szR (gC S k lv r)) i))), (0, .ref (aB ad k)), (1, .int (nI lv))]) (fun i => True) (fun i hi4 hI4 ih4 ls hl => ?_) 0 (Nat.zero_le _) trivial
  refine lv_iload_n hx hb dX0_slipsOf_4 rfl (lv_at hl 0 rfl) ?_
  refine lv_aload_n hx hb dX0_slipsOf_5 rfl (lv_at hl 2 rfl) ?_
  refine lv_iload_n hx hb dX0_slipsOf_6 rfl (lv_at hl 3 rfl) ?_
  refine h_rdV (As := [.int (nI lv)]) (rest := [.int (nI i)]) hF (c_X0_runsOf l G hp ad S hC k hk lv (by omega)) 1 gX0_slipsOf_X0_runsOf rfl (by decide +kernel) ⟨Nat.le_of_ble_eq_true rfl, Nat.le_of_ble_eq_true rfl⟩ hK0 hV0 (hC.bo hk) rfl rfl rfl hl.1 rfl (Nat.le_of_ble_eq_true rfl) (Nat.le_refl _) (Nat.le_refl _) dX0_slipsOf_7 ?_
  refine h_icmp_ge (a := i) (b := sN S k lv) (tgt := 44) hx hb dX0_slipsOf_10 (by decide) (by omega) (by omega) (fun c_10 => ?_) (fun c_10 => ?_)
  · refine lv_iload_n hx hb dX0_slipsOf_44 rfl (lv_at hl 1 rfl) ?_
    exact h_iretR hx hb hr hlocks (by rw [show i = sN S k lv by omega]; rfl) dX0_slipsOf_45
  · refine lv_aload_n hx hb dX0_slipsOf_13 rfl (lv_at hl 2 rfl) ?_
    refine lv_iload_n hx hb dX0_slipsOf_14 rfl (lv_at hl 3 rfl) ?_
    refine lv_iload_n hx hb dX0_slipsOf_15 rfl (lv_at hl 0 rfl) ?_
    refine h_rdV (As := [.int (nI lv), .int (nI i)]) (rest := []) hF (c_X0_runAt l G hp ad S hC k hk lv i (by omega) (by omega)) 2 gX0_slipsOf_X0_runAt rfl (by decide +kernel) ⟨Nat.le_of_ble_eq_true rfl, Nat.le_of_ble_eq_true rfl⟩ hK0 hV0 (hC.bo hk) rfl rfl rfl hl.1 rfl (Nat.le_of_ble_eq_true rfl) (Nat.le_refl _) (Nat.le_refl _) dX0_slipsOf_16 ?_
    refine lv_astore (lv' := [(4, .ref (aS ad (iR S k lv i))), (3, .int (nI i)), (2, .int (nI (snA (fun r => szR (gC S k lv r)) i))), (0, .ref (aB ad k)), (1, .int (nI lv))]) hx hb dX0_slipsOf_19 hl (by decide) rfl (fun ls hl => ?_)
    refine lv_iload_n hx hb dX0_slipsOf_21 rfl (lv_at hl 2 rfl) ?_
    refine lv_aload hx hb dX0_slipsOf_22 (lv_at hl 0 rfl) ?_
    refine lv_ifnonnull (tgt := 31) hx hb dX0_slipsOf_24 (by decide) ?_
    refine lv_aload hx hb dX0_slipsOf_31 (lv_at hl 0 rfl) ?_
    refine h_rdV (As := []) (rest := [.int (nI (snA (fun r => szR (gC S k lv r)) i))]) hF (c_X1_size l G hp (aS ad (iR S k lv i)) (aW ad (iR S k lv i)) (gC S k lv i) (hC.run hk (by omega) (by omega))) 0 gX0_slipsOf_X1_size rfl (by decide +kernel) ⟨Nat.le_of_ble_eq_true rfl, Nat.le_of_ble_eq_true rfl⟩ hK0 hV0 (hC.run hk (by omega) (by omega)).1 rfl rfl rfl hl.1 rfl (Nat.le_of_ble_eq_true rfl) (Nat.le_refl _) (Nat.le_refl _) dX0_slipsOf_33 ?_
    refine h_iaddN hx hb dX0_slipsOf_36 ?_
    refine lv_istore_n (lv' := [(2, .int (nI (snA (fun r => szR (gC S k lv r)) i + szR (gC S k lv i)))), (4, .ref (aS ad (iR S k lv i))), (3, .int (nI i)), (0, .ref (aB ad k)), (1, .int (nI lv))]) hx hb dX0_slipsOf_37 rfl hl (by decide) rfl (fun ls hl => ?_)
    refine lv_iinc (v := nI (i + 1)) (lv' := [(3, .int (nI (i + 1))), (2, .int (nI (snA (fun r => szR (gC S k lv r)) i + szR (gC S k lv i)))), (4, .ref (aS ad (iR S k lv i))), (0, .ref (aB ad k)), (1, .int (nI lv))]) hx hb dX0_slipsOf_38 hl (k := 2) rfl (nI_add (i) 1) (by decide) rfl (fun ls hl => ?_)
    refine lv_goto (tgt := 4) hx hb dX0_slipsOf_41 (by decide) ?_
    exact ih4 (by omega) trivial ls (lv_sub hl [0, 1, 3, 4] rfl)

set_option maxHeartbeats 4000000 in
set_option maxRecDepth 100000 in
theorem c_X0_tombsOf (l : Launch) (G : hG) (hp : HP) (ad : Nat → Nat) (S : CS) (hC : cW ad S hp) (k : Nat) (hk : k < 2) (lv : Nat) (hl4 : lv < 4) : hRd l yX0_tombsOf wsX0_tombsOf 1 23 G hp [.ref (aB ad k), .int (nI lv)] (some (.int (nI (tbB S k lv)))) := by
  refine Met.ofW (cc := cX0_tombsOf) (maxL := 5) (ret := (some .int)) (by decide) rfl ?_
  intro p e s m args below meth c s₁ B hml hv
  obtain ⟨rfl, hV0, hK0⟩ := hv
  have hx := B.exec
  have hb := B.bytes
  have hr := B.returns
  have hts := atoms_spec (ws := wsX0_tombsOf) B.pre
  have hown : s.vm.findClass RX0 = some m.cls := findClass_of_methodNamed B.named
  have hlocks := B.notSynchronized
  have hF : CallFix p m c cX0_tombsOf 5 s [.ref (aB ad k), .int (nI lv)].toArray wsX0_tombsOf RX0 := ⟨hx, hb, hml, hown, hts⟩
  have hl := lv_entry ([.ref (aB ad k), .int (nI lv)]) (n := 5) (Nat.le_of_ble_eq_true rfl)
  rw [lg_entry_eq]
  generalize (lg_sl ([.ref (aB ad k), .int (nI lv)]) ++ List.replicate (5 - (lg_sl ([.ref (aB ad k), .int (nI lv)])).length) Slot.unset).toArray = ls at hl ⊢
  replace hl : lv_has ls 5 [(0, .ref (aB ad k)), (1, .int (nI lv))] := hl
  have hn := hC.ok.2.1 k lv
  refine lv_iconst (v := nI 0) hx hb dX0_tombsOf_0 (by decide) ?_
  refine lv_istore_n (lv' := [(2, .int (nI 0)), (0, .ref (aB ad k)), (1, .int (nI lv))]) hx hb dX0_tombsOf_1 rfl hl (by decide) rfl (fun ls hl => ?_)
  refine lv_iconst (v := nI 0) hx hb dX0_tombsOf_2 (by decide) ?_
  refine lv_istore_n (lv' := [(3, .int (nI 0)), (2, .int (nI 0)), (0, .ref (aB ad k)), (1, .int (nI lv))]) hx hb dX0_tombsOf_3 rfl hl (by decide) rfl (fun ls hl => ?_)
  replace hl : lv_has ls 5 [(3, .int (nI 0)), (2, .int (nI (snA (fun r => tbR (gC S k lv r)) 0))), (0, .ref (aB ad k)), (1, .int (nI lv))] := lv_sub hl [0, 1, 2, 3] rfl
  revert ls
  refine h_loop (sN S k lv) (fun i => [(3, .int (nI i)), (2, .int (nI (snA (fun r => tbR (gC S k lv r)) i))), (0, .ref (aB ad k)), (1, .int (nI lv))]) (fun i => True) (fun i hi4 hI4 ih4 ls hl => ?_) 0 (Nat.zero_le _) trivial
  refine lv_iload_n hx hb dX0_tombsOf_4 rfl (lv_at hl 0 rfl) ?_
  refine lv_aload_n hx hb dX0_tombsOf_5 rfl (lv_at hl 2 rfl) ?_
  refine lv_iload_n hx hb dX0_tombsOf_6 rfl (lv_at hl 3 rfl) ?_
  refine h_rdV (As := [.int (nI lv)]) (rest := [.int (nI i)]) hF (c_X0_runsOf l G hp ad S hC k hk lv (by omega)) 1 gX0_tombsOf_X0_runsOf rfl (by decide +kernel) ⟨Nat.le_of_ble_eq_true rfl, Nat.le_of_ble_eq_true rfl⟩ hK0 hV0 (hC.bo hk) rfl rfl rfl hl.1 rfl (Nat.le_of_ble_eq_true rfl) (Nat.le_refl _) (Nat.le_refl _) dX0_tombsOf_7 ?_
  refine h_icmp_ge (a := i) (b := sN S k lv) (tgt := 44) hx hb dX0_tombsOf_10 (by decide) (by omega) (by omega) (fun c_10 => ?_) (fun c_10 => ?_)
  · refine lv_iload_n hx hb dX0_tombsOf_44 rfl (lv_at hl 1 rfl) ?_
    exact h_iretR hx hb hr hlocks (by rw [show i = sN S k lv by omega]; rfl) dX0_tombsOf_45
  · refine lv_aload_n hx hb dX0_tombsOf_13 rfl (lv_at hl 2 rfl) ?_
    refine lv_iload_n hx hb dX0_tombsOf_14 rfl (lv_at hl 3 rfl) ?_
    refine lv_iload_n hx hb dX0_tombsOf_15 rfl (lv_at hl 0 rfl) ?_
    refine h_rdV (As := [.int (nI lv), .int (nI i)]) (rest := []) hF (c_X0_runAt l G hp ad S hC k hk lv i (by omega) (by omega)) 2 gX0_tombsOf_X0_runAt rfl (by decide +kernel) ⟨Nat.le_of_ble_eq_true rfl, Nat.le_of_ble_eq_true rfl⟩ hK0 hV0 (hC.bo hk) rfl rfl rfl hl.1 rfl (Nat.le_of_ble_eq_true rfl) (Nat.le_refl _) (Nat.le_refl _) dX0_tombsOf_16 ?_
    refine lv_astore (lv' := [(4, .ref (aS ad (iR S k lv i))), (3, .int (nI i)), (2, .int (nI (snA (fun r => tbR (gC S k lv r)) i))), (0, .ref (aB ad k)), (1, .int (nI lv))]) hx hb dX0_tombsOf_19 hl (by decide) rfl (fun ls hl => ?_)
    refine lv_iload_n hx hb dX0_tombsOf_21 rfl (lv_at hl 2 rfl) ?_
    refine lv_aload hx hb dX0_tombsOf_22 (lv_at hl 0 rfl) ?_
    refine lv_ifnonnull (tgt := 31) hx hb dX0_tombsOf_24 (by decide) ?_
    refine lv_aload hx hb dX0_tombsOf_31 (lv_at hl 0 rfl) ?_
    refine h_rdV (As := []) (rest := [.int (nI (snA (fun r => tbR (gC S k lv r)) i))]) hF (c_X1_tombs l G hp (aS ad (iR S k lv i)) (aW ad (iR S k lv i)) (gC S k lv i) (hC.run hk (by omega) (by omega))) 0 gX0_tombsOf_X1_tombs rfl (by decide +kernel) ⟨Nat.le_of_ble_eq_true rfl, Nat.le_of_ble_eq_true rfl⟩ hK0 hV0 (hC.run hk (by omega) (by omega)).1 rfl rfl rfl hl.1 rfl (Nat.le_of_ble_eq_true rfl) (Nat.le_refl _) (Nat.le_refl _) dX0_tombsOf_33 ?_
    refine h_iaddN hx hb dX0_tombsOf_36 ?_
    refine lv_istore_n (lv' := [(2, .int (nI (snA (fun r => tbR (gC S k lv r)) i + tbR (gC S k lv i)))), (4, .ref (aS ad (iR S k lv i))), (3, .int (nI i)), (0, .ref (aB ad k)), (1, .int (nI lv))]) hx hb dX0_tombsOf_37 rfl hl (by decide) rfl (fun ls hl => ?_)
    refine lv_iinc (v := nI (i + 1)) (lv' := [(3, .int (nI (i + 1))), (2, .int (nI (snA (fun r => tbR (gC S k lv r)) i + tbR (gC S k lv i)))), (4, .ref (aS ad (iR S k lv i))), (0, .ref (aB ad k)), (1, .int (nI lv))]) hx hb dX0_tombsOf_38 hl (k := 2) rfl (nI_add (i) 1) (by decide) rfl (fun ls hl => ?_)
    refine lv_goto (tgt := 4) hx hb dX0_tombsOf_41 (by decide) ?_
    exact ih4 (by omega) trivial ls (lv_sub hl [0, 1, 3, 4] rfl)

set_option maxHeartbeats 4000000 in
set_option maxRecDepth 100000 in
theorem c_X0_slips (l : Launch) (G : hG) (hp : HP) (ad : Nat → Nat) (S : CS) (hC : cW ad S hp) (k : Nat) (hk : k < 2) : hRd l yX0_slips wsX0_slips 2 47 G hp [.ref (aB ad k)] (some (.int (nI (slAll S k)))) := by
  refine Met.ofW (cc := cX0_slips) (maxL := 3) (ret := (some .int)) (by decide) rfl ?_
  intro p e s m args below meth c s₁ B hml hv
  obtain ⟨rfl, hV0, hK0⟩ := hv
  have hx := B.exec
  have hb := B.bytes
  have hr := B.returns
  have hts := atoms_spec (ws := wsX0_slips) B.pre
  have hown : s.vm.findClass RX0 = some m.cls := findClass_of_methodNamed B.named
  have hlocks := B.notSynchronized
  have hF : CallFix p m c cX0_slips 3 s [.ref (aB ad k)].toArray wsX0_slips RX0 := ⟨hx, hb, hml, hown, hts⟩
  have hl := lv_entry ([.ref (aB ad k)]) (n := 3) (Nat.le_of_ble_eq_true rfl)
  rw [lg_entry_eq]
  generalize (lg_sl ([.ref (aB ad k)]) ++ List.replicate (3 - (lg_sl ([.ref (aB ad k)])).length) Slot.unset).toArray = ls at hl ⊢
  replace hl : lv_has ls 3 [(0, .ref (aB ad k))] := hl
  refine lv_iconst (v := nI 0) hx hb dX0_slips_0 (by decide) ?_
  refine lv_istore_n (lv' := [(1, .int (nI 0)), (0, .ref (aB ad k))]) hx hb dX0_slips_1 rfl hl (by decide) rfl (fun ls hl => ?_)
  refine lv_iconst (v := nI 0) hx hb dX0_slips_2 (by decide) ?_
  refine lv_istore_n (lv' := [(2, .int (nI 0)), (1, .int (nI 0)), (0, .ref (aB ad k))]) hx hb dX0_slips_3 rfl hl (by decide) rfl (fun ls hl => ?_)
  replace hl : lv_has ls 3 [(2, .int (nI 0)), (1, .int (nI (snA (fun l => slB S k l) 0))), (0, .ref (aB ad k))] := lv_sub hl [0, 1, 2] rfl
  revert ls
  refine h_loop 4 (fun i => [(2, .int (nI i)), (1, .int (nI (snA (fun l => slB S k l) i))), (0, .ref (aB ad k))]) (fun i => True) (fun i hi4 hI4 ih4 ls hl => ?_) 0 (Nat.zero_le _) trivial
  refine lv_iload_n hx hb dX0_slips_4 rfl (lv_at hl 0 rfl) ?_
  refine lv_iconst (v := nI 4) hx hb dX0_slips_5 (by decide) ?_
  refine h_icmp_ge (a := i) (b := 4) (tgt := 23) hx hb dX0_slips_6 (by decide) (by omega) (by omega) (fun c_6 => ?_) (fun c_6 => ?_)
  · refine lv_iload_n hx hb dX0_slips_23 rfl (lv_at hl 1 rfl) ?_
    exact h_iretR hx hb hr hlocks (by rw [show i = 4 by omega]; rfl) dX0_slips_24
  · refine lv_iload_n hx hb dX0_slips_9 rfl (lv_at hl 1 rfl) ?_
    refine lv_aload_n hx hb dX0_slips_10 rfl (lv_at hl 2 rfl) ?_
    refine lv_iload_n hx hb dX0_slips_11 rfl (lv_at hl 0 rfl) ?_
    refine h_rdV (As := [.int (nI i)]) (rest := [.int (nI (snA (fun l => slB S k l) i))]) hF (c_X0_slipsOf l G hp ad S hC k hk i (by omega)) 1 gX0_slips_X0_slipsOf rfl (by decide +kernel) ⟨Nat.le_of_ble_eq_true rfl, Nat.le_of_ble_eq_true rfl⟩ hK0 hV0 (hC.bo hk) rfl rfl rfl hl.1 rfl (Nat.le_of_ble_eq_true rfl) (Nat.le_refl _) (Nat.le_refl _) dX0_slips_12 ?_
    refine h_iaddN hx hb dX0_slips_15 ?_
    refine lv_istore_n (lv' := [(1, .int (nI (snA (fun l => slB S k l) i + slB S k i))), (2, .int (nI i)), (0, .ref (aB ad k))]) hx hb dX0_slips_16 rfl hl (by decide) rfl (fun ls hl => ?_)
    refine lv_iinc (v := nI (i + 1)) (lv' := [(2, .int (nI (i + 1))), (1, .int (nI (snA (fun l => slB S k l) i + slB S k i))), (0, .ref (aB ad k))]) hx hb dX0_slips_17 hl (k := 1) rfl (nI_add (i) 1) (by decide) rfl (fun ls hl => ?_)
    refine lv_goto (tgt := 4) hx hb dX0_slips_20 (by decide) ?_
    exact ih4 (by omega) trivial ls (lv_sub hl [0, 1, 2] rfl)

set_option maxHeartbeats 4000000 in
set_option maxRecDepth 100000 in
theorem c_X0_firstWordIn (l : Launch) (G : hG) (hp : HP) (ad : Nat → Nat) (S : CS) (hC : cW ad S hp) (k : Nat) (hk : k < 2) (lv : Nat) (hl4 : lv < 4) (x : Nat) (hx6 : x < 64) : hRd l yX0_firstWordIn wsX0_firstWordIn 1 23 G hp [.ref (aB ad k), .int (nI lv), .int (nI x)] (some (.int (fsL (gC S k lv) x (sN S k lv) 0))) := by
  refine Met.ofW (cc := cX0_firstWordIn) (maxL := 5) (ret := (some .int)) (by decide) rfl ?_
  intro p e s m args below meth c s₁ B hml hv
  obtain ⟨rfl, hV0, hK0⟩ := hv
  have hx := B.exec
  have hb := B.bytes
  have hr := B.returns
  have hts := atoms_spec (ws := wsX0_firstWordIn) B.pre
  have hown : s.vm.findClass RX0 = some m.cls := findClass_of_methodNamed B.named
  have hlocks := B.notSynchronized
  have hF : CallFix p m c cX0_firstWordIn 5 s [.ref (aB ad k), .int (nI lv), .int (nI x)].toArray wsX0_firstWordIn RX0 := ⟨hx, hb, hml, hown, hts⟩
  have hl := lv_entry ([.ref (aB ad k), .int (nI lv), .int (nI x)]) (n := 5) (Nat.le_of_ble_eq_true rfl)
  rw [lg_entry_eq]
  generalize (lg_sl ([.ref (aB ad k), .int (nI lv), .int (nI x)]) ++ List.replicate (5 - (lg_sl ([.ref (aB ad k), .int (nI lv), .int (nI x)])).length) Slot.unset).toArray = ls at hl ⊢
  replace hl : lv_has ls 5 [(0, .ref (aB ad k)), (1, .int (nI lv)), (2, .int (nI x))] := hl
  have hn := hC.ok.2.1 k lv
  refine lv_iconst (v := nI 0) hx hb dX0_firstWordIn_0 (by decide) ?_
  refine lv_istore_n (lv' := [(3, .int (nI 0)), (0, .ref (aB ad k)), (1, .int (nI lv)), (2, .int (nI x))]) hx hb dX0_firstWordIn_1 rfl hl (by decide) rfl (fun ls hl => ?_)
  replace hl : lv_has ls 5 [(3, .int (nI 0)), (0, .ref (aB ad k)), (1, .int (nI lv)), (2, .int (nI x))] := lv_sub hl [0, 1, 2, 3] rfl
  revert ls
  refine h_loop 3 (fun i => [(3, .int (nI i)), (0, .ref (aB ad k)), (1, .int (nI lv)), (2, .int (nI x))]) (fun i => ∀ r, r < i → r < sN S k lv → hasR (gC S k lv r) x = false) (fun i hi2 hI2 ih2 ls hl => ?_) 0 (Nat.zero_le _) (fun r h => absurd h (Nat.not_lt_zero r))
  refine lv_iload_n hx hb dX0_firstWordIn_2 rfl (lv_at hl 0 rfl) ?_
  refine lv_iconst (v := nI 3) hx hb dX0_firstWordIn_3 (by decide) ?_
  refine h_icmp_ge (a := i) (b := 3) (tgt := 44) hx hb dX0_firstWordIn_4 (by decide) (by omega) (by omega) (fun c_4 => ?_) (fun c_4 => ?_)
  · refine lv_bipush (v := (-2)) hx hb dX0_firstWordIn_44 (by decide) ?_
    exact h_iretR hx hb hr hlocks (fsL_none (fun r2 _ h => hI2 r2 (by omega) (by omega))).symm dX0_firstWordIn_46
  · refine lv_aload_n hx hb dX0_firstWordIn_7 rfl (lv_at hl 1 rfl) ?_
    refine lv_iload_n hx hb dX0_firstWordIn_8 rfl (lv_at hl 2 rfl) ?_
    refine lv_iload_n hx hb dX0_firstWordIn_9 rfl (lv_at hl 0 rfl) ?_
    rcases Nat.lt_or_ge i (sN S k lv) with hrn | hrn
    · refine h_rdV (As := [.int (nI lv), .int (nI i)]) (rest := []) hF (c_X0_runAt l G hp ad S hC k hk lv i (by omega) (by omega)) 2 gX0_firstWordIn_X0_runAt rfl (by decide +kernel) ⟨Nat.le_of_ble_eq_true rfl, Nat.le_of_ble_eq_true rfl⟩ hK0 hV0 (hC.bo hk) rfl rfl rfl hl.1 rfl (Nat.le_of_ble_eq_true rfl) (Nat.le_refl _) (Nat.le_refl _) dX0_firstWordIn_10 ?_
      refine lv_astore (lv' := [(4, .ref (aS ad (iR S k lv i))), (3, .int (nI i)), (0, .ref (aB ad k)), (1, .int (nI lv)), (2, .int (nI x))]) hx hb dX0_firstWordIn_13 hl (by decide) rfl (fun ls hl => ?_)
      refine lv_aload hx hb dX0_firstWordIn_15 (lv_at hl 0 rfl) ?_
      refine lv_ifnull hx hb dX0_firstWordIn_17 ?_
      refine lv_aload hx hb dX0_firstWordIn_20 (lv_at hl 0 rfl) ?_
      refine lv_iload_n hx hb dX0_firstWordIn_22 rfl (lv_at hl 4 rfl) ?_
      refine h_rdV (As := [.int (nI x)]) (rest := []) hF (c_X1_wordAt l G hp (aS ad (iR S k lv i)) (aW ad (iR S k lv i)) (gC S k lv i) (hC.run hk (by omega) (by omega)) x (by omega)) 1 gX0_firstWordIn_X1_wordAt rfl (by decide +kernel) ⟨Nat.le_of_ble_eq_true rfl, Nat.le_of_ble_eq_true rfl⟩ hK0 hV0 (hC.run hk (by omega) (by omega)).1 rfl rfl rfl hl.1 rfl (Nat.le_of_ble_eq_true rfl) (Nat.le_refl _) (Nat.le_refl _) dX0_firstWordIn_23 ?_
      refine lv_bipush (v := (-2)) hx hb dX0_firstWordIn_26 (by decide) ?_
      refine lv_icmp_eq (tgt := 38) hx hb dX0_firstWordIn_28 (by decide) (fun c_28 => ?_) (fun c_28 => ?_)
      · refine lv_iinc (v := nI (i + 1)) (lv' := [(3, .int (nI (i + 1))), (4, .ref (aS ad (iR S k lv i))), (0, .ref (aB ad k)), (1, .int (nI lv)), (2, .int (nI x))]) hx hb dX0_firstWordIn_38 hl (k := 1) rfl (nI_add (i) 1) (by decide) rfl (fun ls hl => ?_)
        refine lv_goto (tgt := 2) hx hb dX0_firstWordIn_41 (by decide) ?_
        exact ih2 (by omega) (fun r h1 h2 => by by_cases e : r = i; subst e; exact hasR_false c_28; exact hI2 r (by omega) h2) ls (lv_sub hl [0, 2, 3, 4] rfl)
      · refine lv_aload hx hb dX0_firstWordIn_31 (lv_at hl 0 rfl) ?_
        refine lv_iload_n hx hb dX0_firstWordIn_33 rfl (lv_at hl 4 rfl) ?_
        refine h_rdV (As := [.int (nI x)]) (rest := []) hF (c_X1_wordAt l G hp (aS ad (iR S k lv i)) (aW ad (iR S k lv i)) (gC S k lv i) (hC.run hk (by omega) (by omega)) x (by omega)) 1 gX0_firstWordIn_X1_wordAt rfl (by decide +kernel) ⟨Nat.le_of_ble_eq_true rfl, Nat.le_of_ble_eq_true rfl⟩ hK0 hV0 (hC.run hk (by omega) (by omega)).1 rfl rfl rfl hl.1 rfl (Nat.le_of_ble_eq_true rfl) (Nat.le_refl _) (Nat.le_refl _) dX0_firstWordIn_34 ?_
        exact h_iretR hx hb hr hlocks (fsL_some (hasR_true c_28) (Nat.zero_le i) (by omega) (fun r2 _ h => hI2 r2 h (by omega))).symm dX0_firstWordIn_37
    · refine h_rdV (As := [.int (nI lv), .int (nI i)]) (rest := []) hF (c_X0_runAtN l G hp ad S hC k hk lv (by omega) (nI i) (Or.inr (nI_le (by omega) (by omega)))) 2 gX0_firstWordIn_X0_runAt rfl (by decide +kernel) ⟨Nat.le_of_ble_eq_true rfl, Nat.le_of_ble_eq_true rfl⟩ hK0 hV0 (hC.bo hk) rfl rfl rfl hl.1 rfl (Nat.le_of_ble_eq_true rfl) (Nat.le_refl _) (Nat.le_refl _) dX0_firstWordIn_10 ?_
      refine lv_astoreN (lv' := [(4, .null), (3, .int (nI i)), (0, .ref (aB ad k)), (1, .int (nI lv)), (2, .int (nI x))]) hx hb dX0_firstWordIn_13 hl (by decide) rfl (fun ls hl => ?_)
      refine lv_aloadN hx hb dX0_firstWordIn_15 (lv_at hl 0 rfl) ?_
      refine lv_ifnullN (tgt := 38) hx hb dX0_firstWordIn_17 (by decide) ?_
      refine lv_iinc (v := nI (i + 1)) (lv' := [(3, .int (nI (i + 1))), (4, .null), (0, .ref (aB ad k)), (1, .int (nI lv)), (2, .int (nI x))]) hx hb dX0_firstWordIn_38 hl (k := 1) rfl (nI_add (i) 1) (by decide) rfl (fun ls hl => ?_)
      refine lv_goto (tgt := 2) hx hb dX0_firstWordIn_41 (by decide) ?_
      exact ih2 (by omega) (fun r h1 h2 => hI2 r (by omega) h2) ls (lv_sub hl [0, 2, 3, 4] rfl)

set_option maxHeartbeats 4000000 in
set_option maxRecDepth 100000 in
theorem c_X0_firstWord (l : Launch) (G : hG) (hp : HP) (ad : Nat → Nat) (S : CS) (hC : cW ad S hp) (k : Nat) (hk : k < 2) (x : Nat) (hx6 : x < 64) : hRd l yX0_firstWord wsX0_firstWord 2 47 G hp [.ref (aB ad k), .int (nI x)] (some (.int (fsA (sN S k) (gC S k) x 4 0))) := by
  refine Met.ofW (cc := cX0_firstWord) (maxL := 4) (ret := (some .int)) (by decide) rfl ?_
  intro p e s m args below meth c s₁ B hml hv
  obtain ⟨rfl, hV0, hK0⟩ := hv
  have hx := B.exec
  have hb := B.bytes
  have hr := B.returns
  have hts := atoms_spec (ws := wsX0_firstWord) B.pre
  have hown : s.vm.findClass RX0 = some m.cls := findClass_of_methodNamed B.named
  have hlocks := B.notSynchronized
  have hF : CallFix p m c cX0_firstWord 4 s [.ref (aB ad k), .int (nI x)].toArray wsX0_firstWord RX0 := ⟨hx, hb, hml, hown, hts⟩
  have hl := lv_entry ([.ref (aB ad k), .int (nI x)]) (n := 4) (Nat.le_of_ble_eq_true rfl)
  rw [lg_entry_eq]
  generalize (lg_sl ([.ref (aB ad k), .int (nI x)]) ++ List.replicate (4 - (lg_sl ([.ref (aB ad k), .int (nI x)])).length) Slot.unset).toArray = ls at hl ⊢
  replace hl : lv_has ls 4 [(0, .ref (aB ad k)), (1, .int (nI x))] := hl
  refine lv_iconst (v := nI 0) hx hb dX0_firstWord_0 (by decide) ?_
  refine lv_istore_n (lv' := [(2, .int (nI 0)), (0, .ref (aB ad k)), (1, .int (nI x))]) hx hb dX0_firstWord_1 rfl hl (by decide) rfl (fun ls hl => ?_)
  replace hl : lv_has ls 4 [(2, .int (nI 0)), (0, .ref (aB ad k)), (1, .int (nI x))] := lv_sub hl [0, 1, 2] rfl
  revert ls
  refine h_loop 4 (fun i => [(2, .int (nI i)), (0, .ref (aB ad k)), (1, .int (nI x))]) (fun i => ∀ l2, l2 < i → fsL (gC S k l2) x (sN S k l2) 0 = -2) (fun i hi2 hI2 ih2 ls hl => ?_) 0 (Nat.zero_le _) (fun r h => absurd h (Nat.not_lt_zero r))
  refine lv_iload_n hx hb dX0_firstWord_2 rfl (lv_at hl 0 rfl) ?_
  refine lv_iconst (v := nI 4) hx hb dX0_firstWord_3 (by decide) ?_
  refine h_icmp_ge (a := i) (b := 4) (tgt := 28) hx hb dX0_firstWord_4 (by decide) (by omega) (by omega) (fun c_4 => ?_) (fun c_4 => ?_)
  · refine lv_bipush (v := (-2)) hx hb dX0_firstWord_28 (by decide) ?_
    exact h_iretR hx hb hr hlocks (fsA_none (fun l2 _ h => hI2 l2 (by omega))).symm dX0_firstWord_30
  · refine lv_aload_n hx hb dX0_firstWord_7 rfl (lv_at hl 1 rfl) ?_
    refine lv_iload_n hx hb dX0_firstWord_8 rfl (lv_at hl 0 rfl) ?_
    refine lv_iload_n hx hb dX0_firstWord_9 rfl (lv_at hl 2 rfl) ?_
    refine h_rdV (As := [.int (nI i), .int (nI x)]) (rest := []) hF (c_X0_firstWordIn l G hp ad S hC k hk i (by omega) x (by omega)) 2 gX0_firstWord_X0_firstWordIn rfl (by decide +kernel) ⟨Nat.le_of_ble_eq_true rfl, Nat.le_of_ble_eq_true rfl⟩ hK0 hV0 (hC.bo hk) rfl rfl rfl hl.1 rfl (Nat.le_of_ble_eq_true rfl) (Nat.le_refl _) (Nat.le_refl _) dX0_firstWord_10 ?_
    refine lv_istore_n (lv' := [(3, .int (fsL (gC S k i) x (sN S k i) 0)), (2, .int (nI i)), (0, .ref (aB ad k)), (1, .int (nI x))]) hx hb dX0_firstWord_13 rfl hl (by decide) rfl (fun ls hl => ?_)
    refine lv_iload_n hx hb dX0_firstWord_14 rfl (lv_at hl 0 rfl) ?_
    refine lv_bipush (v := (-2)) hx hb dX0_firstWord_15 (by decide) ?_
    refine lv_icmp_eq (tgt := 22) hx hb dX0_firstWord_17 (by decide) (fun c_17 => ?_) (fun c_17 => ?_)
    · refine lv_iinc (v := nI (i + 1)) (lv' := [(2, .int (nI (i + 1))), (3, .int (fsL (gC S k i) x (sN S k i) 0)), (0, .ref (aB ad k)), (1, .int (nI x))]) hx hb dX0_firstWord_22 hl (k := 1) rfl (nI_add (i) 1) (by decide) rfl (fun ls hl => ?_)
      refine lv_goto (tgt := 2) hx hb dX0_firstWord_25 (by decide) ?_
      exact ih2 (by omega) (fun l2 h => by by_cases e : l2 = i; subst e; exact c_17; exact hI2 l2 (by omega)) ls (lv_sub hl [0, 2, 3] rfl)
    · refine lv_iload_n hx hb dX0_firstWord_20 rfl (lv_at hl 0 rfl) ?_
      exact h_iretR hx hb hr hlocks (fsA_some c_17 (Nat.zero_le i) (by omega) (fun l2 _ h => hI2 l2 h)).symm dX0_firstWord_21

set_option maxHeartbeats 4000000 in
set_option maxRecDepth 100000 in
theorem c_X0_isFirst (l : Launch) (G : hG) (hp : HP) (ad : Nat → Nat) (S : CS) (hC : cW ad S hp) (k : Nat) (hk : k < 2) (lv r : Nat) (hl4 : lv < 4) (hr0 : r < sN S k lv) (x : Nat) (hx6 : x < 64) : hRd l yX0_isFirst wsX0_isFirst 2 47 G hp [.ref (aB ad k), .int (nI lv), .int (nI r), .int (nI x)] (some (.int (bI (frA (sN S k) (gC S k) lv r x)))) := by
  refine Met.ofW (cc := cX0_isFirst) (maxL := 6) (ret := (some .boolean)) (by decide) rfl ?_
  intro p e s m args below meth c s₁ B hml hv
  obtain ⟨rfl, hV0, hK0⟩ := hv
  have hx := B.exec
  have hb := B.bytes
  have hr := B.returns
  have hts := atoms_spec (ws := wsX0_isFirst) B.pre
  have hown : s.vm.findClass RX0 = some m.cls := findClass_of_methodNamed B.named
  have hlocks := B.notSynchronized
  have hF : CallFix p m c cX0_isFirst 6 s [.ref (aB ad k), .int (nI lv), .int (nI r), .int (nI x)].toArray wsX0_isFirst RX0 := ⟨hx, hb, hml, hown, hts⟩
  have hl := lv_entry ([.ref (aB ad k), .int (nI lv), .int (nI r), .int (nI x)]) (n := 6) (Nat.le_of_ble_eq_true rfl)
  rw [lg_entry_eq]
  generalize (lg_sl ([.ref (aB ad k), .int (nI lv), .int (nI r), .int (nI x)]) ++ List.replicate (6 - (lg_sl ([.ref (aB ad k), .int (nI lv), .int (nI r), .int (nI x)])).length) Slot.unset).toArray = ls at hl ⊢
  replace hl : lv_has ls 6 [(0, .ref (aB ad k)), (1, .int (nI lv)), (2, .int (nI r)), (3, .int (nI x))] := hl
  have hn := hC.ok.2.1 k lv
  refine lv_iconst (v := nI 0) hx hb dX0_isFirst_0 (by decide) ?_
  refine lv_istore (lv' := [(4, .int (nI 0)), (0, .ref (aB ad k)), (1, .int (nI lv)), (2, .int (nI r)), (3, .int (nI x))]) hx hb dX0_isFirst_1 hl (by decide) rfl (fun ls hl => ?_)
  replace hl : lv_has ls 6 [(4, .int (nI 0)), (0, .ref (aB ad k)), (1, .int (nI lv)), (2, .int (nI r)), (3, .int (nI x))] := lv_sub hl [0, 1, 2, 3, 4] rfl
  revert ls
  refine h_loop lv (fun i => [(4, .int (nI i)), (0, .ref (aB ad k)), (1, .int (nI lv)), (2, .int (nI r)), (3, .int (nI x))]) (fun i => ∀ l2, l2 < i → fsL (gC S k l2) x (sN S k l2) 0 = -2) (fun i hi3 hI3 ih3 ls hl => ?_) 0 (Nat.zero_le _) (fun r h => absurd h (Nat.not_lt_zero r))
  refine lv_iload hx hb dX0_isFirst_3 (lv_at hl 0 rfl) ?_
  refine lv_iload_n hx hb dX0_isFirst_5 rfl (lv_at hl 2 rfl) ?_
  refine h_icmp_ge (a := i) (b := lv) (tgt := 29) hx hb dX0_isFirst_6 (by decide) (by omega) (by omega) (fun c_6 => ?_) (fun c_6 => ?_)
  · refine lv_iconst (v := nI 0) hx hb dX0_isFirst_29 (by decide) ?_
    refine lv_istore (lv' := [(4, .int (nI 0)), (0, .ref (aB ad k)), (1, .int (nI lv)), (2, .int (nI r)), (3, .int (nI x))]) hx hb dX0_isFirst_30 hl (by decide) rfl (fun ls hl => ?_)
    replace hl : lv_has ls 6 [(4, .int (nI 0)), (0, .ref (aB ad k)), (1, .int (nI lv)), (2, .int (nI r)), (3, .int (nI x))] := lv_sub hl [0, 1, 2, 3, 4] rfl
    revert ls
    refine h_loop r (fun j => [(4, .int (nI j)), (0, .ref (aB ad k)), (1, .int (nI lv)), (2, .int (nI r)), (3, .int (nI x))]) (fun j => ∀ r2, r2 < j → hasR (gC S k lv r2) x = false) (fun j hi32 hI32 ih32 ls hl => ?_) 0 (Nat.zero_le _) (fun r h => absurd h (Nat.not_lt_zero r))
    refine lv_iload hx hb dX0_isFirst_32 (lv_at hl 0 rfl) ?_
    refine lv_iload_n hx hb dX0_isFirst_34 rfl (lv_at hl 3 rfl) ?_
    refine h_icmp_ge (a := j) (b := r) (tgt := 69) hx hb dX0_isFirst_35 (by decide) (by omega) (by omega) (fun c_35 => ?_) (fun c_35 => ?_)
    · refine lv_aload_n hx hb dX0_isFirst_69 rfl (lv_at hl 1 rfl) ?_
      refine lv_iload_n hx hb dX0_isFirst_70 rfl (lv_at hl 2 rfl) ?_
      refine lv_iload_n hx hb dX0_isFirst_71 rfl (lv_at hl 3 rfl) ?_
      refine h_rdV (As := [.int (nI lv), .int (nI r)]) (rest := []) hF (c_X0_runAt l G hp ad S hC k hk lv r (by omega) (by omega)) 2 gX0_isFirst_X0_runAt rfl (by decide +kernel) ⟨Nat.le_of_ble_eq_true rfl, Nat.le_of_ble_eq_true rfl⟩ hK0 hV0 (hC.bo hk) rfl rfl rfl hl.1 rfl (Nat.le_of_ble_eq_true rfl) (Nat.le_refl _) (Nat.le_refl _) dX0_isFirst_72 ?_
      refine lv_astore (lv' := [(4, .ref (aS ad (iR S k lv r))), (0, .ref (aB ad k)), (1, .int (nI lv)), (2, .int (nI r)), (3, .int (nI x))]) hx hb dX0_isFirst_75 hl (by decide) rfl (fun ls hl => ?_)
      refine lv_aload hx hb dX0_isFirst_77 (lv_at hl 0 rfl) ?_
      refine lv_ifnull hx hb dX0_isFirst_79 ?_
      refine lv_aload hx hb dX0_isFirst_82 (lv_at hl 0 rfl) ?_
      refine lv_iload_n hx hb dX0_isFirst_84 rfl (lv_at hl 4 rfl) ?_
      refine h_rdV (As := [.int (nI x)]) (rest := []) hF (c_X1_has l G hp (aS ad (iR S k lv r)) (aW ad (iR S k lv r)) (gC S k lv r) (hC.run hk (by omega) (by omega)) x (by omega)) 1 gX0_isFirst_X1_has rfl (by decide +kernel) ⟨Nat.le_of_ble_eq_true rfl, Nat.le_of_ble_eq_true rfl⟩ hK0 hV0 (hC.run hk (by omega) (by omega)).1 rfl rfl rfl hl.1 rfl (Nat.le_of_ble_eq_true rfl) (Nat.le_refl _) (Nat.le_refl _) dX0_isFirst_85 ?_
      refine h_if_eqB (tgt := 95) hx hb dX0_isFirst_88 (by decide) (fun c_88 => ?_) (fun c_88 => ?_)
      · refine lv_iconst (v := nI 0) hx hb dX0_isFirst_95 (by decide) ?_
        exact h_zretR hx hb hr hlocks (by rw [frA_3 (fun l2 h => hI3 l2 (by omega)) (fun r2 h => hI32 r2 (by omega)), c_88]; rfl) dX0_isFirst_96
      · refine lv_iconst (v := nI 1) hx hb dX0_isFirst_91 (by decide) ?_
        refine lv_goto (tgt := 96) hx hb dX0_isFirst_92 (by decide) ?_
        exact h_zretR hx hb hr hlocks (by rw [frA_3 (fun l2 h => hI3 l2 (by omega)) (fun r2 h => hI32 r2 (by omega)), c_88]; rfl) dX0_isFirst_96
    · refine lv_aload_n hx hb dX0_isFirst_38 rfl (lv_at hl 1 rfl) ?_
      refine lv_iload_n hx hb dX0_isFirst_39 rfl (lv_at hl 2 rfl) ?_
      refine lv_iload hx hb dX0_isFirst_40 (lv_at hl 0 rfl) ?_
      refine h_rdV (As := [.int (nI lv), .int (nI j)]) (rest := []) hF (c_X0_runAt l G hp ad S hC k hk lv j (by omega) (by omega)) 2 gX0_isFirst_X0_runAt rfl (by decide +kernel) ⟨Nat.le_of_ble_eq_true rfl, Nat.le_of_ble_eq_true rfl⟩ hK0 hV0 (hC.bo hk) rfl rfl rfl hl.1 rfl (Nat.le_of_ble_eq_true rfl) (Nat.le_refl _) (Nat.le_refl _) dX0_isFirst_42 ?_
      refine lv_astore (lv' := [(5, .ref (aS ad (iR S k lv j))), (4, .int (nI j)), (0, .ref (aB ad k)), (1, .int (nI lv)), (2, .int (nI r)), (3, .int (nI x))]) hx hb dX0_isFirst_45 hl (by decide) rfl (fun ls hl => ?_)
      refine lv_aload hx hb dX0_isFirst_47 (lv_at hl 0 rfl) ?_
      refine lv_ifnull hx hb dX0_isFirst_49 ?_
      refine lv_aload hx hb dX0_isFirst_52 (lv_at hl 0 rfl) ?_
      refine lv_iload_n hx hb dX0_isFirst_54 rfl (lv_at hl 5 rfl) ?_
      refine h_rdV (As := [.int (nI x)]) (rest := []) hF (c_X1_has l G hp (aS ad (iR S k lv j)) (aW ad (iR S k lv j)) (gC S k lv j) (hC.run hk (by omega) (by omega)) x (by omega)) 1 gX0_isFirst_X1_has rfl (by decide +kernel) ⟨Nat.le_of_ble_eq_true rfl, Nat.le_of_ble_eq_true rfl⟩ hK0 hV0 (hC.run hk (by omega) (by omega)).1 rfl rfl rfl hl.1 rfl (Nat.le_of_ble_eq_true rfl) (Nat.le_refl _) (Nat.le_refl _) dX0_isFirst_55 ?_
      refine h_if_eqB (tgt := 63) hx hb dX0_isFirst_58 (by decide) (fun c_58 => ?_) (fun c_58 => ?_)
      · refine lv_iinc (v := nI (j + 1)) (lv' := [(4, .int (nI (j + 1))), (5, .ref (aS ad (iR S k lv j))), (0, .ref (aB ad k)), (1, .int (nI lv)), (2, .int (nI r)), (3, .int (nI x))]) hx hb dX0_isFirst_63 hl (k := 1) rfl (nI_add (j) 1) (by decide) rfl (fun ls hl => ?_)
        refine lv_goto (tgt := 32) hx hb dX0_isFirst_66 (by decide) ?_
        exact ih32 (by omega) (fun l2 h => by by_cases e : l2 = j; subst e; exact c_58; exact hI32 l2 (by omega)) ls (lv_sub hl [0, 2, 3, 4, 5] rfl)
      · refine lv_iconst (v := nI 0) hx hb dX0_isFirst_61 (by decide) ?_
        exact h_zretR hx hb hr hlocks (by rw [frA_2 (by omega) c_58]; rfl) dX0_isFirst_62
  · refine lv_aload_n hx hb dX0_isFirst_9 rfl (lv_at hl 1 rfl) ?_
    refine lv_iload hx hb dX0_isFirst_10 (lv_at hl 0 rfl) ?_
    refine lv_iload_n hx hb dX0_isFirst_12 rfl (lv_at hl 4 rfl) ?_
    refine h_rdV (As := [.int (nI i), .int (nI x)]) (rest := []) hF (c_X0_firstWordIn l G hp ad S hC k hk i (by omega) x (by omega)) 2 gX0_isFirst_X0_firstWordIn rfl (by decide +kernel) ⟨Nat.le_of_ble_eq_true rfl, Nat.le_of_ble_eq_true rfl⟩ hK0 hV0 (hC.bo hk) rfl rfl rfl hl.1 rfl (Nat.le_of_ble_eq_true rfl) (Nat.le_refl _) (Nat.le_refl _) dX0_isFirst_13 ?_
    refine lv_bipush (v := (-2)) hx hb dX0_isFirst_16 (by decide) ?_
    refine lv_icmp_eq (tgt := 23) hx hb dX0_isFirst_18 (by decide) (fun c_18 => ?_) (fun c_18 => ?_)
    · refine lv_iinc (v := nI (i + 1)) (lv' := [(4, .int (nI (i + 1))), (0, .ref (aB ad k)), (1, .int (nI lv)), (2, .int (nI r)), (3, .int (nI x))]) hx hb dX0_isFirst_23 hl (k := 0) rfl (nI_add (i) 1) (by decide) rfl (fun ls hl => ?_)
      refine lv_goto (tgt := 3) hx hb dX0_isFirst_26 (by decide) ?_
      exact ih3 (by omega) (fun l2 h => by by_cases e : l2 = i; subst e; exact c_18; exact hI3 l2 (by omega)) ls (lv_sub hl [0, 1, 2, 3, 4] rfl)
    · refine lv_iconst (v := nI 0) hx hb dX0_isFirst_21 (by decide) ?_
      exact h_zretR hx hb hr hlocks (by rw [frA_1 (by omega) c_18]; rfl) dX0_isFirst_22

set_option maxHeartbeats 4000000 in
set_option maxRecDepth 100000 in
theorem c_X0_nothingBehind (l : Launch) (G : hG) (hp : HP) (ad : Nat → Nat) (S : CS) (hC : cW ad S hp) (k : Nat) (hk : k < 2) (lv : Nat) (hl4 : lv < 4) : hRd l yX0_nothingBehind wsX0_nothingBehind 1 21 G hp [.ref (aB ad k), .int (nI lv)] (some (.int (bI (nbA (sN S k) lv)))) := by
  refine Met.ofW (cc := cX0_nothingBehind) (maxL := 3) (ret := (some .boolean)) (by decide) rfl ?_
  intro p e s m args below meth c s₁ B hml hv
  obtain ⟨rfl, hV0, hK0⟩ := hv
  have hx := B.exec
  have hb := B.bytes
  have hr := B.returns
  have hts := atoms_spec (ws := wsX0_nothingBehind) B.pre
  have hown : s.vm.findClass RX0 = some m.cls := findClass_of_methodNamed B.named
  have hlocks := B.notSynchronized
  have hF : CallFix p m c cX0_nothingBehind 3 s [.ref (aB ad k), .int (nI lv)].toArray wsX0_nothingBehind RX0 := ⟨hx, hb, hml, hown, hts⟩
  have hl := lv_entry ([.ref (aB ad k), .int (nI lv)]) (n := 3) (Nat.le_of_ble_eq_true rfl)
  rw [lg_entry_eq]
  generalize (lg_sl ([.ref (aB ad k), .int (nI lv)]) ++ List.replicate (3 - (lg_sl ([.ref (aB ad k), .int (nI lv)])).length) Slot.unset).toArray = ls at hl ⊢
  replace hl : lv_has ls 3 [(0, .ref (aB ad k)), (1, .int (nI lv))] := hl
  refine lv_iload_n hx hb dX0_nothingBehind_0 rfl (lv_at hl 1 rfl) ?_
  refine lv_iconst (v := nI 1) hx hb dX0_nothingBehind_1 (by decide) ?_
  refine h_iaddN hx hb dX0_nothingBehind_2 ?_
  refine lv_istore_n (lv' := [(2, .int (nI (lv + 1))), (0, .ref (aB ad k)), (1, .int (nI lv))]) hx hb dX0_nothingBehind_3 rfl hl (by decide) rfl (fun ls hl => ?_)
  replace hl : lv_has ls 3 [(2, .int (nI (lv + 1))), (0, .ref (aB ad k)), (1, .int (nI lv))] := lv_sub hl [0, 1, 2] rfl
  revert ls
  refine h_loop 4 (fun i => [(2, .int (nI i)), (0, .ref (aB ad k)), (1, .int (nI lv))]) (fun i => lv < i ∧ ∀ l2, lv < l2 → l2 < i → sN S k l2 = 0) (fun i hi4 hI4 ih4 ls hl => ?_) (lv + 1) (by omega) ⟨Nat.lt_succ_self _, fun l2 h1 h2 => absurd h2 (by omega)⟩
  refine lv_iload_n hx hb dX0_nothingBehind_4 rfl (lv_at hl 0 rfl) ?_
  refine lv_iconst (v := nI 4) hx hb dX0_nothingBehind_5 (by decide) ?_
  refine h_icmp_ge (a := i) (b := 4) (tgt := 25) hx hb dX0_nothingBehind_6 (by decide) (by omega) (by omega) (fun c_6 => ?_) (fun c_6 => ?_)
  · refine lv_iconst (v := nI 1) hx hb dX0_nothingBehind_25 (by decide) ?_
    exact h_zretR hx hb hr hlocks (by rw [nbA, nbR_t (fun l2 h1 h2 => hI4.2 l2 (by omega) (by omega))]; rfl) dX0_nothingBehind_26
  · refine lv_aload_n hx hb dX0_nothingBehind_9 rfl (lv_at hl 1 rfl) ?_
    refine lv_iload_n hx hb dX0_nothingBehind_10 rfl (lv_at hl 0 rfl) ?_
    refine h_rdV (As := [.int (nI i)]) (rest := []) hF (c_X0_runsOf l G hp ad S hC k hk i (by omega)) 1 gX0_nothingBehind_X0_runsOf rfl (by decide +kernel) ⟨Nat.le_of_ble_eq_true rfl, Nat.le_of_ble_eq_true rfl⟩ hK0 hV0 (hC.bo hk) rfl rfl rfl hl.1 rfl (Nat.le_of_ble_eq_true rfl) (Nat.le_refl _) (Nat.le_refl _) dX0_nothingBehind_11 ?_
    have hni := hC.ok.2.1 k i
    refine h_if_le (a := sN S k i) (tgt := 19) hx hb dX0_nothingBehind_14 (by decide) (by omega) (fun c_14 => ?_) (fun c_14 => ?_)
    · refine lv_iinc (v := nI (i + 1)) (lv' := [(2, .int (nI (i + 1))), (0, .ref (aB ad k)), (1, .int (nI lv))]) hx hb dX0_nothingBehind_19 hl (k := 0) rfl (nI_add (i) 1) (by decide) rfl (fun ls hl => ?_)
      refine lv_goto (tgt := 4) hx hb dX0_nothingBehind_22 (by decide) ?_
      exact ih4 (by omega) ⟨by omega, fun l2 h1 h2 => by by_cases e : l2 = i; subst e; exact c_14; exact hI4.2 l2 h1 (by omega)⟩ ls (lv_sub hl [0, 1, 2] rfl)
    · refine lv_iconst (v := nI 0) hx hb dX0_nothingBehind_17 (by decide) ?_
      exact h_zretR hx hb hr hlocks (by rw [nbA, nbR_f c_14 (by omega) (by omega)]; rfl) dX0_nothingBehind_18

set_option maxHeartbeats 4000000 in
set_option maxRecDepth 100000 in
theorem c_X0_detoursTo (l : Launch) (G : hG) (hp : HP) (ad : Nat → Nat) (S : CS) (hC : cW ad S hp) (k : Nat) (hk : k < 2) (x : Nat) (hx6 : x < 64) : hRd l yX0_detoursTo wsX0_detoursTo 2 42 G hp [.ref (aB ad k), .int (nI x)] (some (.int (nI (dtA (sN S k) (gC S k) x 4 0)))) := by
  refine Met.ofW (cc := cX0_detoursTo) (maxL := 6) (ret := (some .int)) (by decide) rfl ?_
  intro p e s m args below meth c s₁ B hml hv
  obtain ⟨rfl, hV0, hK0⟩ := hv
  have hx := B.exec
  have hb := B.bytes
  have hr := B.returns
  have hts := atoms_spec (ws := wsX0_detoursTo) B.pre
  have hown : s.vm.findClass RX0 = some m.cls := findClass_of_methodNamed B.named
  have hlocks := B.notSynchronized
  have hF : CallFix p m c cX0_detoursTo 6 s [.ref (aB ad k), .int (nI x)].toArray wsX0_detoursTo RX0 := ⟨hx, hb, hml, hown, hts⟩
  have hl := lv_entry ([.ref (aB ad k), .int (nI x)]) (n := 6) (Nat.le_of_ble_eq_true rfl)
  rw [lg_entry_eq]
  generalize (lg_sl ([.ref (aB ad k), .int (nI x)]) ++ List.replicate (6 - (lg_sl ([.ref (aB ad k), .int (nI x)])).length) Slot.unset).toArray = ls at hl ⊢
  replace hl : lv_has ls 6 [(0, .ref (aB ad k)), (1, .int (nI x))] := hl
  refine lv_iconst (v := nI 0) hx hb dX0_detoursTo_0 (by decide) ?_
  refine lv_istore_n (lv' := [(2, .int (nI 0)), (0, .ref (aB ad k)), (1, .int (nI x))]) hx hb dX0_detoursTo_1 rfl hl (by decide) rfl (fun ls hl => ?_)
  refine lv_iconst (v := nI 0) hx hb dX0_detoursTo_2 (by decide) ?_
  refine lv_istore_n (lv' := [(3, .int (nI 0)), (2, .int (nI 0)), (0, .ref (aB ad k)), (1, .int (nI x))]) hx hb dX0_detoursTo_3 rfl hl (by decide) rfl (fun ls hl => ?_)
  replace hl : lv_has ls 6 [(3, .int (nI 0)), (2, .int (nI 0)), (0, .ref (aB ad k)), (1, .int (nI x))] := lv_sub hl [0, 1, 2, 3] rfl
  revert ls
  refine h_loopO 4 (fun i o => [(3, .int (nI i)), (2, .int (nI o)), (0, .ref (aB ad k)), (1, .int (nI x))]) (fun i o => o + dtA (sN S k) (gC S k) x (4 - i) i = dtA (sN S k) (gC S k) x 4 0) (fun i hi4 o hO4 ih4 ls hl => ?_) 0 (Nat.zero_le _) 0 (Nat.zero_add _)
  refine lv_iload_n hx hb dX0_detoursTo_4 rfl (lv_at hl 0 rfl) ?_
  refine lv_iconst (v := nI 4) hx hb dX0_detoursTo_5 (by decide) ?_
  refine h_icmp_ge (a := i) (b := 4) (tgt := 74) hx hb dX0_detoursTo_6 (by decide) (by omega) (by omega) (fun c_6 => ?_) (fun c_6 => ?_)
  · refine lv_iload_n hx hb dX0_detoursTo_74 rfl (lv_at hl 1 rfl) ?_
    exact h_iretR hx hb hr hlocks (by rw [← hO4, show 4 - i = 0 by omega]; rfl) dX0_detoursTo_75
  · refine lv_iconst (v := nI 0) hx hb dX0_detoursTo_9 (by decide) ?_
    refine lv_istore (lv' := [(4, .int (nI 0)), (3, .int (nI i)), (2, .int (nI o)), (0, .ref (aB ad k)), (1, .int (nI x))]) hx hb dX0_detoursTo_10 hl (by decide) rfl (fun ls hl => ?_)
    have hO4b : o + dtL (gC S k i) x (dtA (sN S k) (gC S k) x (4 - (i + 1)) (i + 1)) (sN S k i) 0 = dtA (sN S k) (gC S k) x 4 0 := by rw [← hO4, show 4 - i = (4 - (i + 1)) + 1 by omega]; rfl
    replace hl : lv_has ls 6 [(4, .int (nI 0)), (2, .int (nI o)), (3, .int (nI i)), (0, .ref (aB ad k)), (1, .int (nI x))] := lv_sub hl [0, 2, 1, 3, 4] rfl
    revert ls
    refine h_loopO (sN S k i) (fun j o => [(4, .int (nI j)), (2, .int (nI o)), (3, .int (nI i)), (0, .ref (aB ad k)), (1, .int (nI x))]) (fun j o => o + dtL (gC S k i) x (dtA (sN S k) (gC S k) x (4 - (i + 1)) (i + 1)) (sN S k i - j) j = dtA (sN S k) (gC S k) x 4 0) (fun j hi12 o hO12 ih12 ls hl => ?_) 0 (Nat.zero_le _) o (by rw [← hO4b]; rfl)
    refine lv_iload hx hb dX0_detoursTo_12 (lv_at hl 0 rfl) ?_
    refine lv_aload_n hx hb dX0_detoursTo_14 rfl (lv_at hl 3 rfl) ?_
    refine lv_iload_n hx hb dX0_detoursTo_15 rfl (lv_at hl 2 rfl) ?_
    refine h_rdV (As := [.int (nI i)]) (rest := [.int (nI j)]) hF (c_X0_runsOf l G hp ad S hC k hk i (by omega)) 1 gX0_detoursTo_X0_runsOf rfl (by decide +kernel) ⟨Nat.le_of_ble_eq_true rfl, Nat.le_of_ble_eq_true rfl⟩ hK0 hV0 (hC.bo hk) rfl rfl rfl hl.1 rfl (Nat.le_of_ble_eq_true rfl) (Nat.le_refl _) (Nat.le_refl _) dX0_detoursTo_16 ?_
    have hni := hC.ok.2.1 k i
    refine h_icmp_ge (a := j) (b := sN S k i) (tgt := 68) hx hb dX0_detoursTo_19 (by decide) (by omega) (by omega) (fun c_19 => ?_) (fun c_19 => ?_)
    · have hO4 : o + dtA (sN S k) (gC S k) x (4 - (i + 1)) (i + 1) = dtA (sN S k) (gC S k) x 4 0 := by rw [← hO12, show sN S k i - j = 0 by omega]; rfl
      refine lv_iinc (v := nI (i + 1)) (lv' := [(3, .int (nI (i + 1))), (4, .int (nI j)), (2, .int (nI o)), (0, .ref (aB ad k)), (1, .int (nI x))]) hx hb dX0_detoursTo_68 hl (k := 2) rfl (nI_add (i) 1) (by decide) rfl (fun ls hl => ?_)
      refine lv_goto (tgt := 4) hx hb dX0_detoursTo_71 (by decide) ?_
      exact ih4 (by omega) (o) hO4 ls (lv_sub hl [0, 2, 3, 4] rfl)
    · refine lv_aload_n hx hb dX0_detoursTo_22 rfl (lv_at hl 3 rfl) ?_
      refine lv_iload_n hx hb dX0_detoursTo_23 rfl (lv_at hl 2 rfl) ?_
      refine lv_iload hx hb dX0_detoursTo_24 (lv_at hl 0 rfl) ?_
      refine h_rdV (As := [.int (nI i), .int (nI j)]) (rest := []) hF (c_X0_runAt l G hp ad S hC k hk i j (by omega) (by omega)) 2 gX0_detoursTo_X0_runAt rfl (by decide +kernel) ⟨Nat.le_of_ble_eq_true rfl, Nat.le_of_ble_eq_true rfl⟩ hK0 hV0 (hC.bo hk) rfl rfl rfl hl.1 rfl (Nat.le_of_ble_eq_true rfl) (Nat.le_refl _) (Nat.le_refl _) dX0_detoursTo_26 ?_
      refine lv_astore (lv' := [(5, .ref (aS ad (iR S k i j))), (4, .int (nI j)), (2, .int (nI o)), (3, .int (nI i)), (0, .ref (aB ad k)), (1, .int (nI x))]) hx hb dX0_detoursTo_29 hl (by decide) rfl (fun ls hl => ?_)
      refine lv_aload hx hb dX0_detoursTo_31 (lv_at hl 0 rfl) ?_
      refine lv_ifnull hx hb dX0_detoursTo_33 ?_
      refine lv_aload hx hb dX0_detoursTo_36 (lv_at hl 0 rfl) ?_
      refine lv_iload_n hx hb dX0_detoursTo_38 rfl (lv_at hl 5 rfl) ?_
      refine h_rdV (As := [.int (nI x)]) (rest := []) hF (c_X1_opensFor l G hp (aS ad (iR S k i j)) (aW ad (iR S k i j)) (gC S k i j) (hC.run hk (by omega) (by omega)) x (by omega)) 1 gX0_detoursTo_X1_opensFor rfl (by decide +kernel) ⟨Nat.le_of_ble_eq_true rfl, Nat.le_of_ble_eq_true rfl⟩ hK0 hV0 (hC.run hk (by omega) (by omega)).1 rfl rfl rfl hl.1 rfl (Nat.le_of_ble_eq_true rfl) (Nat.le_refl _) (Nat.le_refl _) dX0_detoursTo_39 ?_
      refine h_if_neB (tgt := 48) hx hb dX0_detoursTo_42 (by decide) (fun c_42 => ?_) (fun c_42 => ?_)
      · refine lv_iinc (v := nI (o + 1)) (lv' := [(2, .int (nI (o + 1))), (5, .ref (aS ad (iR S k i j))), (4, .int (nI j)), (3, .int (nI i)), (0, .ref (aB ad k)), (1, .int (nI x))]) hx hb dX0_detoursTo_48 hl (k := 2) rfl (nI_add (o) 1) (by decide) rfl (fun ls hl => ?_)
        refine lv_aload hx hb dX0_detoursTo_51 (lv_at hl 1 rfl) ?_
        refine lv_iload_n hx hb dX0_detoursTo_53 rfl (lv_at hl 5 rfl) ?_
        refine h_rdV (As := [.int (nI x)]) (rest := []) hF (c_X1_has l G hp (aS ad (iR S k i j)) (aW ad (iR S k i j)) (gC S k i j) (hC.run hk (by omega) (by omega)) x (by omega)) 1 gX0_detoursTo_X1_has rfl (by decide +kernel) ⟨Nat.le_of_ble_eq_true rfl, Nat.le_of_ble_eq_true rfl⟩ hK0 hV0 (hC.run hk (by omega) (by omega)).1 rfl rfl rfl hl.1 rfl (Nat.le_of_ble_eq_true rfl) (Nat.le_refl _) (Nat.le_refl _) dX0_detoursTo_54 ?_
        refine h_if_eqB (tgt := 62) hx hb dX0_detoursTo_57 (by decide) (fun c_57 => ?_) (fun c_57 => ?_)
        · refine lv_iinc (v := nI (j + 1)) (lv' := [(4, .int (nI (j + 1))), (2, .int (nI (o + 1))), (5, .ref (aS ad (iR S k i j))), (3, .int (nI i)), (0, .ref (aB ad k)), (1, .int (nI x))]) hx hb dX0_detoursTo_62 hl (k := 2) rfl (nI_add (j) 1) (by decide) rfl (fun ls hl => ?_)
          refine lv_goto (tgt := 12) hx hb dX0_detoursTo_65 (by decide) ?_
          exact ih12 (by omega) (o + 1) (by first | (rw [← hO12, show sN S k i - j = (sN S k i - (j + 1)) + 1 by omega, dtL_s, c_42]; simp; done) | (rw [← hO12, show sN S k i - j = (sN S k i - (j + 1)) + 1 by omega, dtL_s, c_42, c_57]; simp; omega)) ls (lv_sub hl [0, 1, 3, 4, 5] rfl)
        · refine lv_iload_n hx hb dX0_detoursTo_60 rfl (lv_at hl 0 rfl) ?_
          exact h_iretR hx hb hr hlocks (by rw [← hO12, show sN S k i - j = (sN S k i - (j + 1)) + 1 by omega, dtL_s, c_42, c_57]; rfl) dX0_detoursTo_61
      · refine lv_goto (tgt := 62) hx hb dX0_detoursTo_45 (by decide) ?_
        refine lv_iinc (v := nI (j + 1)) (lv' := [(4, .int (nI (j + 1))), (5, .ref (aS ad (iR S k i j))), (2, .int (nI o)), (3, .int (nI i)), (0, .ref (aB ad k)), (1, .int (nI x))]) hx hb dX0_detoursTo_62 hl (k := 1) rfl (nI_add (j) 1) (by decide) rfl (fun ls hl => ?_)
        refine lv_goto (tgt := 12) hx hb dX0_detoursTo_65 (by decide) ?_
        exact ih12 (by omega) (o) (by first | (rw [← hO12, show sN S k i - j = (sN S k i - (j + 1)) + 1 by omega, dtL_s, c_42]; simp; done) | (rw [← hO12, show sN S k i - j = (sN S k i - (j + 1)) + 1 by omega, dtL_s, c_42, c_57]; simp; omega)) ls (lv_sub hl [0, 2, 3, 4, 5] rfl)
