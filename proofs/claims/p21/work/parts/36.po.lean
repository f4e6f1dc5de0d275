/-! what may be made: a store that falls with every merging -/
def wQ (l : Nat) : Nat := if l = 0 then 26 else if l = 1 then 18 else if l = 2 then 10 else 2
def pV (V : BV) : Nat := wQ 0 * qL V 0 + wQ 1 * qL V 1 + wQ 2 * qL V 2 + wQ 3 * qL V 3
theorem snA_e {f g : Nat → Nat} {n : Nat} (h : ∀ i, i < n → f i = g i) : snA f n = snA g n := by
  induction n with
  | zero => rfl
  | succ n ih =>
    show snA f n + f n = snA g n + g n
    rw [ih (fun i hi => h i (by omega)), h n (Nat.lt_succ_self n)]
theorem snA_sh (f : Nat → Nat) : ∀ n, snA f (n + 1) = f 0 + snA (fun r => f (r + 1)) n
  | 0 => by show 0 + f 0 = f 0 + 0; omega
  | n + 1 => by
    show snA f (n + 1) + f (n + 1) = f 0 + (snA (fun r => f (r + 1)) n + f (n + 1))
    rw [snA_sh f n]
    omega
theorem qL_cl (V : BV) (l l2 : Nat) : qL (clB V l) l2 = if l2 = l then 0 else qL V l2 := by
  show snA (fun r => szR ((if l2 = l then (fun _ => emR) else bG V l2) r)) (if l2 = l then 0 else bN V l2) = _
  by_cases e : l2 = l
  · rw [if_pos e, if_pos e, if_pos e]
    rfl
  · rw [if_neg e, if_neg e, if_neg e]
    rfl
theorem qL_cm (V : BV) (L : Nat) (f : Row) (l2 : Nat) : qL (cmB V L f) l2 = if l2 = L then szR f + qL V l2 else qL V l2 := by
  show snA (fun r => szR ((if l2 = L then (fun r => if r = 0 then f else bG V L (r - 1)) else bG V l2) r)) (if l2 = L then bN V L + 1 else bN V l2) = _
  by_cases e : l2 = L
  · rw [if_pos e, if_pos e, if_pos e, snA_sh]
    subst e
    show szR (if 0 = 0 then f else bG V l2 (0 - 1)) + _ = _
    rw [if_pos rfl]
    congr 1
  · rw [if_neg e, if_neg e, if_neg e]
    rfl
theorem ac_le (g : Nat → Row) : ∀ n, szR (acF g n) ≤ snA (fun r => szR (g r)) n
  | 0 => by
    show szR emR ≤ 0
    rw [emR_sz]
    exact Nat.le_refl _
  | n + 1 => by
    have ih := ac_le g n
    have key : ∀ m, cntB (hasR (acF g (n + 1))) m ≤ cntB (hasR (acF g n)) m + cntB (hasR (g n)) m := by
      intro m
      induction m with
      | zero => exact Nat.le_refl _
      | succ m ihm =>
        show cntB _ m + (if hasR (acF g (n + 1)) m = true then 1 else 0) ≤ cntB _ m + (if hasR (acF g n) m = true then 1 else 0) + (cntB _ m + (if hasR (g n) m = true then 1 else 0))
        by_cases e : hasR (acF g n) m = true
        · rw [if_pos e]
          split <;> omega
        · have e1 : hasR (acF g (n + 1)) m = hasR (g n) m := by
            have e2 : acF g (n + 1) m = g n m := if_neg e
            rw [hasR, e2]
            rfl
          rw [e1]
          split <;> omega
    have := key 64
    show szR (acF g (n + 1)) ≤ snA (fun r => szR (g r)) n + szR (g n)
    unfold szR at *
    omega
theorem mk_le {V : BV} {l : Nat} (hok : ∀ r, r < bN V l → okR (bG V l r)) : szR (mkB V l) ≤ szR (acF (bG V l) (bN V l)) := by
  have key : ∀ m, cntB (hasR (mkB V l)) m ≤ cntB (hasR (acF (bG V l) (bN V l))) m := by
    intro m
    induction m with
    | zero => exact Nat.le_refl _
    | succ m ih =>
      show cntB _ m + (if hasR (mkB V l) m = true then 1 else 0) ≤ cntB _ m + (if hasR (acF (bG V l) (bN V l)) m = true then 1 else 0)
      by_cases e : hasR (mkB V l) m = true
      · rw [if_pos e, if_pos (mk_acc (fun _ _ _ => (0, 0)) hok e).1]
        omega
      · rw [if_neg e]
        split <;> omega
  exact key 64
theorem q_pos {V : BV} (h : vOk V) {l : Nat} (hl : l < 4) (hn : ¬ bN V l = 0) : 1 ≤ qL V l := by
  have h1 := (h.2 l 0 hl (by omega)).1
  have h2 : snA (fun r => szR (bG V l r)) 1 ≤ snA (fun r => szR (bG V l r)) (bN V l) := snA_mono (by omega)
  have h3 : snA (fun r => szR (bG V l r)) 1 = 0 + szR (bG V l 0) := rfl
  unfold qL
  omega
theorem pV_mg {V : BV} (h : vOk V) {l : Nat} (hl : l < 4) (hn : ¬ bN V l = 0) : mgC V l + pV (mgB V l) ≤ pV V + (if l = 3 then 260 else 0) := by
  have hok : ∀ r, r < bN V l → okR (bG V l r) := fun r hr => (h.2 l r hl hr).2
  have h1 := ac_le (bG V l) (bN V l)
  have h1b : snA (fun r => szR (bG V l r)) (bN V l) = qL V l := rfl
  have h2 := mk_le hok
  have h3 := q_pos h hl hn
  have h4 := szR_le (acF (bG V l) (bN V l))
  have hq : ∀ l2, qL (mgB V l) l2 = if l2 = min (l + 1) 3 then szR (mkB V l) + (if l2 = l then 0 else qL V l2) else if l2 = l then 0 else qL V l2 := by
    intro l2
    by_cases hz : szR (mkB V l) = 0
    · rw [mgB_0 hz, qL_cl, hz]
      by_cases e : l2 = min (l + 1) 3
      · rw [if_pos e, Nat.zero_add]
      · rw [if_neg e]
    · rw [mgB_1 hz, qL_cm, qL_cl]
  unfold pV mgC
  rw [hq 0, hq 1, hq 2, hq 3]
  generalize szR (mkB V l) = a at *
  generalize szR (acF (bG V l) (bN V l)) = b at *
  rcases (show l = 0 ∨ l = 1 ∨ l = 2 ∨ l = 3 by omega) with q | q | q | q <;> subst q <;> simp [wQ] <;> omega
theorem pV_st {V : BV} {L : Nat} (h : vOk V) (h1 : oneB (bN V) L) : ∀ m, m ≤ 4 → stC V m + pV (stB V m) ≤ pV V + (if m = 4 then 260 else 0)
  | 0, _ => by show 0 + pV V ≤ _; omega
  | m + 1, hm => by
    have ih := pV_st h h1 m (by omega)
    rw [if_neg (by omega)] at ih
    by_cases h3 : bN (stB V m) m < 3
    · rw [stB_n h3, stC_n h3]
      omega
    · rw [stB_y h3, stC_y h3]
      have h4 := pV_mg (h.st h1 m (by omega)) (l := m) (by omega) (by omega)
      by_cases e : m = 3
      · rw [if_pos e] at h4
        rw [if_pos (by omega)]
        omega
      · rw [if_neg e] at h4
        omega
theorem pV_cm (V : BV) (f : Row) : pV (cmB V 0 f) = pV V + 26 * szR f := by
  unfold pV
  rw [qL_cm, qL_cm, qL_cm, qL_cm]
  simp [wQ]
  omega
/-- the store of the whole -/
def pS (d : Row) (V : BV) : Nat := 26 * szR d + pV V
theorem pS_bind {d : Row} {V : BV} (h : vOk V) (hI : ∀ l, l < 4 → bN V l ≤ 2) (hz : 0 < szR d) (hok : okR d) : 2 + stC (cmB V 0 d) 4 + pS emR (stB (cmB V 0 d) 4) ≤ pS d V + 262 := by
  have h1 := pV_st (h.cm (L := 0) (f := d) (hI 0 (by omega)) hz hok) (cm_one hI) 4 (Nat.le_refl _)
  rw [if_pos rfl, pV_cm] at h1
  unfold pS
  rw [emR_sz]
  omega
theorem pS_merge {d : Row} {V : BV} (h : vOk V) (hI : ∀ l, l < 4 → bN V l ≤ 2) {l : Nat} (hl : l < 4) (hn : ¬ bN V l = 0) : mgC V l + stC (mgB V l) 4 + pS d (stB (mgB V l) 4) ≤ pS d V + 520 := by
  have h0 := pV_mg h hl hn
  have h1 := pV_st (h.mg hl (oneB_all hI l)) (mgB_one hl (oneB_all hI l)) 4 (Nat.le_refl _)
  rw [if_pos rfl] at h1
  unfold pS
  split at h0 <;> omega
theorem sz_put {d : Row} {x : Nat} {v : Int32} (hx : x < 64) (hv : v ≠ -2) : szR (upd d x v) ≤ szR d + 1 := by
  rw [szR_upd d hx hv]
  split <;> omega
/-! numbers that have a slip: those on the desk and those that stand -/
def anyB (d : Row) (V : BV) (x : Nat) : Bool := !decide (wd0 d (bN V) (bG V) x = -2)
theorem snA_0 {f : Nat → Nat} : ∀ {n : Nat}, (∀ i, i < n → f i = 0) → snA f n = 0
  | 0, _ => rfl
  | n + 1, h => by
    show snA f n + f n = 0
    rw [snA_0 (fun i hi => h i (by omega)), h n (Nat.lt_succ_self n)]
theorem snA_1 {f : Nat → Nat} {i : Nat} (hi1 : f i = 1) : ∀ {n : Nat}, i < n → (∀ j, j < n → j ≠ i → f j = 0) → snA f n = 1
  | 0, h, _ => absurd h (Nat.not_lt_zero i)
  | n + 1, h, h2 => by
    show snA f n + f n = 1
    by_cases e : i = n
    · rw [snA_0 (fun j hj => h2 j (by omega) (by omega)), ← e, hi1]
    · rw [snA_1 hi1 (by omega) (fun j hj hne => h2 j (by omega) hne), h2 n (Nat.lt_succ_self n) (fun z => e z.symm)]
theorem snA_add (f g : Nat → Nat) : ∀ n, snA (fun i => f i + g i) n = snA f n + snA g n
  | 0 => rfl
  | n + 1 => by
    show snA (fun i => f i + g i) n + (f n + g n) = snA f n + f n + (snA g n + g n)
    rw [snA_add f g n]
    omega
def stI (d : Row) (V : BV) (l r x : Nat) : Nat := if stP d V l r x = true then 1 else 0
theorem fr_uq {n : Nat → Nat} {g : LV} {l r l2 r2 x : Nat} (hr : r < n l) (hr2 : r2 < n l2) (h : frA n g l r x = true) (h2 : frA n g l2 r2 x = true) : l = l2 ∧ r = r2 := by
  unfold frA at h h2
  rw [Bool.and_eq_true, Bool.and_eq_true, decide_eq_true_iff, decide_eq_true_iff] at h h2
  have a : ∀ l r l2 r2, r < n l → (∀ l3, l3 < l2 → fsL (g l3) x (n l3) 0 = -2) → (∀ r3, r3 < r2 → hasR (g l2 r3) x = false) → hasR (g l r) x = true → ¬ (l < l2 ∨ (l = l2 ∧ r < r2)) := by
    intro l r l2 r2 q a b c z
    rcases z with z | z
    · have := fsL_iff.mp (a l z) r q
      rw [c] at this
      cases this
    · have := b r z.2
      rw [← z.1, c] at this
      cases this
  have b1 := a l r l2 r2 hr h2.1 h2.2.1 h.2.2
  have b2 := a l2 r2 l r hr2 h.1 h.2.1 h2.2.2
  omega
theorem stI_0 {d : Row} {V : BV} {l r x : Nat} (h : ¬ stP d V l r x = true) : stI d V l r x = 0 := if_neg h
theorem stI_1 {d : Row} {V : BV} {l r x : Nat} (h : stP d V l r x = true) : stI d V l r x = 1 := if_pos h
theorem cnt_x (d : Row) (V : BV) (x : Nat) : snA (fun l => snA (fun r => stI d V l r x) (bN V l)) 4 + (if hasR d x = true then 1 else 0) = if anyB d V x = true then 1 else 0 := by
  unfold anyB
  by_cases hd : hasR d x = true
  · have z0 : snA (fun l => snA (fun r => stI d V l r x) (bN V l)) 4 = 0 := snA_0 (fun l _ => snA_0 (fun r _ => stI_0 (by unfold stP; rw [hd]; simp)))
    rw [z0, if_pos hd, wd0_n (ne_has hd), if_pos (by rw [decide_eq_false (ne_has hd)]; rfl)]
  · have hd2 : hasR d x = false := by
      cases hq : hasR d x with
      | false => rfl
      | true => exact absurd hq hd
    have e : ∀ l r, stP d V l r x = frA (bN V) (bG V) l r x := fun l r => by unfold stP; rw [hd2]; rfl
    rw [if_neg hd]
    rcases la_wd (d := d) (δ := fun _ => (0, 0)) (V := V) (ω := fun _ _ _ => (0, 0)) (x := x) with ⟨h1, h2⟩ | ⟨h1, h2, h3⟩ | ⟨l, r, h1, h2, h3, h4, h5, h6, h7⟩
    · have z0 : snA (fun l => snA (fun r => stI d V l r x) (bN V l)) 4 = 0 := snA_0 (fun l hl => snA_0 (fun r hr => stI_0 (fun z => la_has (δ := fun _ => (0, 0)) (ω := fun _ _ _ => (0, 0)) hl hr (st_has z) h1)))
      rw [z0, h2, if_neg (by decide)]
    · exact absurd h1 hd
    · have hu : ∀ l2 r2, r2 < bN V l2 → (l2 ≠ l ∨ r2 ≠ r) → stI d V l2 r2 x = 0 := fun l2 r2 hr2 hne => stI_0 (fun z => by
        rw [e] at z
        have := fr_uq h3 hr2 h7 z
        omega)
      have z9 : stI d V l r x = 1 := stI_1 (by rw [e]; exact h7)
      have z1 : snA (fun r => stI d V l r x) (bN V l) = 1 := snA_1 (f := fun r => stI d V l r x) (i := r) z9 h3 (fun j hj hne => hu l j hj (Or.inr hne))
      have z0 : snA (fun l => snA (fun r => stI d V l r x) (bN V l)) 4 = 1 := snA_1 (f := fun l => snA (fun r => stI d V l r x) (bN V l)) (i := l) z1 h2 (fun j hj hne => snA_0 (fun r2 hr2 => hu j r2 hr2 (Or.inl hne)))
      rw [z0, h6, if_pos (by rw [decide_eq_false (ne_has h5)]; rfl)]
theorem cntB_sn (p : Nat → Bool) : ∀ m, cntB p m = snA (fun x => if p x = true then 1 else 0) m
  | 0 => rfl
  | m + 1 => by
    show cntB p m + _ = snA _ m + _
    rw [cntB_sn p m]
theorem snA_sw (f : Nat → Nat → Nat) (m : Nat) : ∀ n, snA (fun i => snA (fun x => f i x) m) n = snA (fun x => snA (fun i => f i x) n) m
  | 0 => (snA_0 (fun _ _ => rfl)).symm
  | n + 1 => by
    show snA (fun i => snA (fun x => f i x) m) n + snA (fun x => f n x) m = snA (fun x => snA (fun i => f i x) n + f n x) m
    rw [snA_sw f m n, snA_add]
theorem stand_all (d : Row) (V : BV) : snA (fun l => snA (fun r => sdS d (bN V) (bG V) l r) (bN V l)) 4 + szR d = cntB (anyB d V) 64 := by
  have e1 : ∀ l r, sdS d (bN V) (bG V) l r = snA (fun x => stI d V l r x) 64 := fun l r => cntB_sn (stP d V l r) 64
  have e2 : (fun l => snA (fun r => sdS d (bN V) (bG V) l r) (bN V l)) = fun l => snA (fun x => snA (fun r => stI d V l r x) (bN V l)) 64 := by
    funext l
    rw [← snA_sw]
    exact snA_e (fun r _ => e1 l r)
  rw [e2, snA_sw (fun l x => snA (fun r => stI d V l r x) (bN V l)) 64 4]
  unfold szR
  rw [cntB_sn (hasR d), cntB_sn (anyB d V), ← snA_add]
  exact snA_e (fun x _ => cnt_x d V x)
/-! what a run tells of itself -/
theorem cntB_im {p q : Nat → Bool} (h : ∀ x, p x = true → q x = true) : ∀ m, cntB p m ≤ cntB q m
  | 0 => Nat.le_refl _
  | m + 1 => by
    have ih := cntB_im h m
    show cntB p m + _ ≤ cntB q m + _
    by_cases e : p m = true
    · rw [if_pos e, if_pos (h m e)]
      omega
    · rw [if_neg e]
      split <;> omega
theorem sd_le (d : Row) (V : BV) (l r : Nat) : sdS d (bN V) (bG V) l r ≤ szR (bG V l r) := cntB_im (p := stP d V l r) (q := hasR (bG V l r)) (fun _ h => st_has h) 64
theorem tb_le (f : Row) : tbR f ≤ szR f := cntB_im (p := isT f) (q := hasR f) (fun x h => has_ne (by
  have : f x = -1 := of_decide_eq_true h
  rw [this]; decide)) 64
theorem ls_gr {f : Row} (h : 0 < szR f) : ∃ y, y < 64 ∧ grR f = nI y ∧ lsR f ≤ y := by
  obtain ⟨y, h1, h2, h3, h4⟩ := gr_at h
  refine ⟨y, h1, h2, ?_⟩
  rcases Nat.lt_or_ge y (lsR f) with q | q
  · have := (ls_at h).2.2 y (Nat.zero_le _) q
    rw [h3] at this
    cases this
  · exact q
