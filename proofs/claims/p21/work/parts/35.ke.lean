/-! what binding and merging keep -/
def tgs (V : BV) (ω : TS) (b : Nat) : Prop := ∀ l r y, l < 4 → r < bN V l → hasR (bG V l r) y = true → (ω l r y).1 ≤ b
theorem tgs.cl {V : BV} {ω : TS} {b : Nat} (h : tgs V ω b) (l : Nat) : tgs (clB V l) ω b := fun l2 r y hl hr hh => by
  obtain ⟨-, a2, a3⟩ := cl_r hr
  rw [a3] at hh
  exact h l2 r y hl a2 hh
theorem tgs.cm {V : BV} {ω : TS} {b L : Nat} {f : Row} {w : TG} (h : tgs V ω b) (hw : ∀ y, hasR f y = true → (w y).1 ≤ b) : tgs (cmB V L f) (cmT ω L w) b := by
  intro l r y hl hr hh
  rcases cm_r hr hh with ⟨a1, a2, a3⟩ | ⟨a1, a2, a3, a4⟩ | ⟨a1, a2, a3⟩
  · subst a1
    subst a2
    rw [cmT_0]
    exact hw y a3
  · subst a1
    rw [cmT_p _ _ a2]
    exact h l (r - 1) y hl a3 a4
  · rw [cmT_n _ _ a1]
    exact h l r y hl a2 a3
theorem tgs.mg {V : BV} {ω : TS} {b l : Nat} (h : tgs V ω b) (hl : l < 4) (hok : ∀ r, r < bN V l → okR (bG V l r)) : tgs (mgB V l) (mgT V ω l) b := by
  by_cases hz : szR (mkB V l) = 0
  · rw [mgB_0 hz, mgT_0 hz]
    exact h.cl l
  · rw [mgB_1 hz, mgT_1 hz]
    refine (h.cl l).cm (fun y hy => ?_)
    obtain ⟨-, r, a1, a2, a3, -, -⟩ := mk_acc ω hok hy
    rw [a3]
    exact h l r y hl a1 a2
theorem tgs.st {V : BV} {ω : TS} {b L : Nat} (h : tgs V ω b) (hv : vOk V) (h1 : oneB (bN V) L) : ∀ m, m ≤ 4 → tgs (stB V m) (stT V ω m) b
  | 0, _ => h
  | m + 1, hm => by
    have ih := h.st hv h1 m (by omega)
    by_cases h3 : bN (stB V m) m < 3
    · rw [stB_n h3, stT_n h3]
      exact ih
    · rw [stB_y h3, stT_y h3]
      exact ih.mg (by omega) (fun r hr => ((hv.st h1 m (by omega)).2 m r (by omega) hr).2)
theorem bK_mg (V : BV) (l : Nat) : bK (mgB V l) = bK V + nI 1 := by
  unfold mgB
  split <;> rfl
theorem i0 (v : Int32) : v = v + nI 0 := by rw [nI_0]; simp
theorem bM_mg (V : BV) (l : Nat) : ∃ c, c ≤ 64 ∧ bM (mgB V l) = bM V + nI c := by
  by_cases hz : szR (mkB V l) = 0
  · rw [mgB_0 hz]
    exact ⟨0, by omega, i0 _⟩
  · rw [mgB_1 hz]
    exact ⟨_, szR_le _, rfl⟩
theorem bK_st (V : BV) : ∀ m, ∃ c, c ≤ m ∧ bK (stB V m) = bK V + nI c
  | 0 => ⟨0, by omega, i0 _⟩
  | m + 1 => by
    obtain ⟨c, h1, h2⟩ := bK_st V m
    by_cases h3 : bN (stB V m) m < 3
    · rw [stB_n h3]
      exact ⟨c, by omega, h2⟩
    · rw [stB_y h3, bK_mg, h2, Int32.add_assoc, nI_add]
      exact ⟨c + 1, by omega, rfl⟩
theorem bM_st (V : BV) : ∀ m, ∃ c, c ≤ 64 * m ∧ bM (stB V m) = bM V + nI c
  | 0 => ⟨0, by omega, i0 _⟩
  | m + 1 => by
    obtain ⟨c, h1, h2⟩ := bM_st V m
    by_cases h3 : bN (stB V m) m < 3
    · rw [stB_n h3]
      exact ⟨c, by omega, h2⟩
    · obtain ⟨c2, h4, h5⟩ := bM_mg (stB V m) m
      rw [stB_y h3, h5, h2, Int32.add_assoc, nI_add]
      exact ⟨c + c2, by omega, rfl⟩
/-! words stay -/
def nz (v : Int32) : Int32 := if 0 ≤ v then v else -1
def FL (V : BV) (l x : Nat) : Int32 := fsL (bG V l) x (bN V l) 0
def fa4 (a0 a1 a2 a3 : Int32) : Int32 := if a0 = -2 then (if a1 = -2 then (if a2 = -2 then (if a3 = -2 then -2 else a3) else a2) else a1) else a0
def fA (V : BV) (x : Nat) : Int32 := fsA (bN V) (bG V) x 4 0
theorem fA_4 (V : BV) (x : Nat) : fA V x = fa4 (FL V 0 x) (FL V 1 x) (FL V 2 x) (FL V 3 x) := rfl
theorem fsL_sh (f : Row) (g : Nat → Row) (x : Nat) : ∀ m r, fsL (fun r => if r = 0 then f else g (r - 1)) x m (r + 1) = fsL g x m r
  | 0, _ => rfl
  | m + 1, r => by
    unfold fsL
    rw [fsL_sh f g x m (r + 1)]
    have e : (if r + 1 = 0 then f else g (r + 1 - 1)) = g r := by
      rw [if_neg (by omega), show r + 1 - 1 = r by omega]
    rw [e]
theorem FL_cl (V : BV) (l l2 x : Nat) : FL (clB V l) l2 x = if l2 = l then -2 else FL V l2 x := by
  show fsL (if l2 = l then (fun _ => emR) else bG V l2) x (if l2 = l then 0 else bN V l2) 0 = _
  by_cases e : l2 = l
  · rw [if_pos e, if_pos e, if_pos e]
    rfl
  · rw [if_neg e, if_neg e, if_neg e]
    rfl
theorem FL_cm (V : BV) (L : Nat) (f : Row) (l2 x : Nat) : FL (cmB V L f) l2 x = if l2 = L ∧ hasR f x = true then f x else FL V l2 x := by
  show fsL (if l2 = L then (fun r => if r = 0 then f else bG V L (r - 1)) else bG V l2) x (if l2 = L then bN V L + 1 else bN V l2) 0 = _
  by_cases e : l2 = L
  · rw [if_pos e, if_pos e]
    subst e
    show (if hasR f x then f x else fsL (fun r => if r = 0 then f else bG V l2 (r - 1)) x (bN V l2) (0 + 1)) = _
    rw [fsL_sh]
    by_cases h : hasR f x = true
    · rw [if_pos h, if_pos ⟨rfl, h⟩]
    · rw [if_neg h, if_neg (fun z => h z.2)]
      rfl
  · rw [if_neg e, if_neg e, if_neg (fun z => e z.1)]
    rfl
theorem has_0 {f : Row} (h : szR f = 0) {x : Nat} (hx : x < 64) : hasR f x = false := by
  cases hh : hasR f x with
  | false => rfl
  | true =>
    have := (cnt_le hx).2 hh
    omega
theorem FL_mg (V : BV) (l l2 : Nat) {x : Nat} (hx : x < 64) : FL (mgB V l) l2 x = if l2 = min (l + 1) 3 ∧ hasR (mkB V l) x = true then mkB V l x else if l2 = l then -2 else FL V l2 x := by
  by_cases hz : szR (mkB V l) = 0
  · rw [mgB_0 hz, FL_cl, if_neg (c := l2 = min (l + 1) 3 ∧ hasR (mkB V l) x = true) (fun z => by
      have := has_0 hz hx
      rw [this] at z
      exact absurd z.2 (by decide))]
  · rw [mgB_1 hz, FL_cm, FL_cl]
theorem mk_at (V : BV) (l : Nat) {x : Nat} (hx : x < 64) : mkB V l x = if nbA (bN V) l = true ∧ FL V l x = -1 then -2 else FL V l x := by
  unfold mkB gaP
  rw [if_pos hx]
  rfl
theorem nbR_z {n : Nat → Nat} : ∀ {m l : Nat}, nbR n m l = true → ∀ l2, l ≤ l2 → l2 < l + m → n l2 = 0
  | 0, l, _, l2, h1, h2 => by omega
  | m + 1, l, h, l2, h1, h2 => by
    unfold nbR at h
    by_cases e : n l = 0
    · rw [if_pos e] at h
      by_cases e2 : l2 = l
      · rw [e2]; exact e
      · exact nbR_z h l2 (by omega) (by omega)
    · rw [if_neg e] at h
      cases h
theorem nb_FL {V : BV} {l l2 x : Nat} (h : nbA (bN V) l = true) (h1 : l < l2) (h2 : l2 < 4) : FL V l2 x = -2 := by
  have h3 := nbR_z (n := bN V) (m := 3 - l) (l := l + 1) h l2 (by omega) (by omega)
  unfold FL
  rw [h3]
  rfl
theorem nz_1 : nz (-1) = nz (-2) := by decide
theorem fA_mg {V : BV} {l x : Nat} (hl : l < 4) (hx : x < 64) : nz (fA (mgB V l) x) = nz (fA V x) := by
  have hm := mk_at V l hx
  by_cases hb : nbA (bN V) l = true ∧ FL V l x = -1
  · rw [if_pos hb] at hm
    have hh : ¬ hasR (mkB V l) x = true := fun z => ne_has z hm
    have hF : ∀ l2, FL (mgB V l) l2 x = if l2 = l then -2 else FL V l2 x := fun l2 => by rw [FL_mg V l l2 hx, if_neg (fun z => hh z.2)]
    have hn : ∀ l2, l < l2 → l2 < 4 → FL V l2 x = -2 := fun l2 a b => nb_FL hb.1 a b
    rw [fA_4, fA_4, hF, hF, hF, hF]
    rcases (show l = 0 ∨ l = 1 ∨ l = 2 ∨ l = 3 by omega) with q | q | q | q <;> subst q
    · rw [hn 1 (by omega) (by omega), hn 2 (by omega) (by omega), hn 3 (by omega) (by omega), hb.2]
      decide
    · rw [hn 2 (by omega) (by omega), hn 3 (by omega) (by omega), hb.2]
      generalize FL V 0 x = a0
      by_cases e0 : a0 = -2
      · subst e0; decide
      · simp [fa4, e0]
    · rw [hn 3 (by omega) (by omega), hb.2]
      generalize FL V 0 x = a0
      generalize FL V 1 x = a1
      by_cases e0 : a0 = -2
      · subst e0
        by_cases e1 : a1 = -2
        · subst e1; decide
        · simp [fa4, e1]
      · simp [fa4, e0]
    · rw [hb.2]
      generalize FL V 0 x = a0
      generalize FL V 1 x = a1
      generalize FL V 2 x = a2
      by_cases e0 : a0 = -2
      · subst e0
        by_cases e1 : a1 = -2
        · subst e1
          by_cases e2 : a2 = -2
          · subst e2; decide
          · simp [fa4, e2]
        · simp [fa4, e1]
      · simp [fa4, e0]
  · rw [if_neg hb] at hm
    rw [fA_4, fA_4, FL_mg V l 0 hx, FL_mg V l 1 hx, FL_mg V l 2 hx, FL_mg V l 3 hx]
    congr 1
    have hh : hasR (mkB V l) x = true ↔ ¬ FL V l x = -2 := by
      rw [← hm]
      exact ⟨fun z => ne_has z, fun z => has_ne z⟩
    rw [hm]
    unfold fa4
    rcases (show l = 0 ∨ l = 1 ∨ l = 2 ∨ l = 3 by omega) with q | q | q | q <;> subst q
    · by_cases e0 : FL V 0 x = -2 <;> simp [hh, e0]
    · by_cases e0 : FL V 0 x = -2 <;> by_cases e1 : FL V 1 x = -2 <;> simp [hh, e0, e1]
    · by_cases e0 : FL V 0 x = -2 <;> by_cases e1 : FL V 1 x = -2 <;> by_cases e2 : FL V 2 x = -2 <;> simp [hh, e0, e1, e2]
    · by_cases e0 : FL V 0 x = -2 <;> by_cases e1 : FL V 1 x = -2 <;> by_cases e2 : FL V 2 x = -2 <;> by_cases e3 : FL V 3 x = -2 <;> simp [hh, e0, e1, e2, e3]
theorem fA_st {V : BV} {x : Nat} (hx : x < 64) : ∀ m, m ≤ 4 → nz (fA (stB V m) x) = nz (fA V x)
  | 0, _ => rfl
  | m + 1, hm => by
    by_cases h3 : bN (stB V m) m < 3
    · rw [stB_n h3]
      exact fA_st hx m (by omega)
    · rw [stB_y h3, fA_mg (by omega) hx]
      exact fA_st hx m (by omega)
theorem fA_cm0 (V : BV) (d : Row) (x : Nat) : fA (cmB V 0 d) x = if hasR d x = true then d x else fA V x := by
  rw [fA_4, fA_4, FL_cm, FL_cm, FL_cm, FL_cm]
  by_cases h : hasR d x = true
  · rw [if_pos h, if_pos ⟨rfl, h⟩]
    exact if_neg (ne_has h)
  · rw [if_neg h, if_neg (fun z => h z.2), if_neg (fun z => h z.2), if_neg (fun z => h z.2), if_neg (fun z => h z.2)]
theorem wd_nz (d : Row) (V : BV) (x : Nat) : wdS d (bN V) (bG V) x = nz (wd0 d (bN V) (bG V) x) := rfl
theorem wd_bind {d : Row} {V : BV} {x : Nat} (hx : x < 64) : wdS emR (bN (stB (cmB V 0 d) 4)) (bG (stB (cmB V 0 d) 4)) x = wdS d (bN V) (bG V) x := by
  rw [wd_nz, wd_nz, wd0_y (show emR x = -2 from rfl)]
  show nz (fA (stB (cmB V 0 d) 4) x) = _
  rw [fA_st hx 4 (Nat.le_refl _), fA_cm0]
  congr 1
  by_cases h : hasR d x = true
  · rw [if_pos h, wd0_n (ne_has h)]
  · rw [if_neg h, wd0_y (hasR_f2 h)]
    rfl
theorem wd_merge {d : Row} {V : BV} {l x : Nat} (hl : l < 4) (hx : x < 64) : wdS d (bN (stB (mgB V l) 4)) (bG (stB (mgB V l) 4)) x = wdS d (bN V) (bG V) x := by
  rw [wd_nz, wd_nz]
  by_cases h : d x = -2
  · rw [wd0_y h, wd0_y h]
    show nz (fA (stB (mgB V l) 4) x) = nz (fA V x)
    rw [fA_st hx 4 (Nat.le_refl _), fA_mg hl hx]
  · rw [wd0_n h, wd0_n h]
theorem wd_put {d : Row} {V : BV} {x : Nat} {v : Int32} (hv : v ≠ -2) (y : Nat) : wdS (upd d x v) (bN V) (bG V) y = if y = x then nz v else wdS d (bN V) (bG V) y := by
  by_cases e : y = x
  · rw [if_pos e, wd_nz, wd0_n (by unfold upd; rw [if_pos e]; exact hv)]
    unfold upd
    rw [if_pos e]
  · rw [if_neg e, wd_nz, wd_nz]
    have e2 : upd d x v y = d y := if_neg e
    congr 1
    unfold wd0
    rw [e2]
/-! detours are no more than runs -/
theorem dtL_le (g : Nat → Row) (x c : Nat) : ∀ m r, dtL g x c m r ≤ c + m
  | 0, _ => Nat.le_refl _
  | m + 1, r => by
    have := dtL_le g x c m (r + 1)
    rw [dtL_s]
    split
    · split <;> omega
    · omega
theorem dt_runs (d : Row) (n : Nat → Nat) (g : LV) (x : Nat) : dtS d n g x ≤ snA n 4 := by
  unfold dtS
  split
  · exact Nat.zero_le _
  · have h3 := dtL_le (g 3) x 0 (n 3) 0
    have h2 := dtL_le (g 2) x (dtA n g x 1 3) (n 2) 0
    have h1 := dtL_le (g 1) x (dtA n g x 2 2) (n 1) 0
    have h0 := dtL_le (g 0) x (dtA n g x 3 1) (n 0) 0
    have e3 : dtA n g x 1 3 = dtL (g 3) x 0 (n 3) 0 := rfl
    have e2 : dtA n g x 2 2 = dtL (g 2) x (dtA n g x 1 3) (n 2) 0 := rfl
    have e1 : dtA n g x 3 1 = dtL (g 1) x (dtA n g x 2 2) (n 1) 0 := rfl
    have e0 : dtA n g x 4 0 = dtL (g 0) x (dtA n g x 3 1) (n 0) 0 := rfl
    have e4 : snA n 4 = 0 + n 0 + n 1 + n 2 + n 3 := rfl
    omega
/-! what next and sum tell -/
theorem nx_at {w : Nat → Int32} {n : Nat} (h : 0 ≤ w n) : ∀ k i, i ≤ n → n < i + k → (∀ m, i ≤ m → m < n → w m < 0) → nxW w k i = nI n
  | 0, i, h1, h2, _ => by omega
  | k + 1, i, h1, h2, h3 => by
    by_cases e : i = n
    · subst e
      exact if_pos h
    · have h4 := h3 i (Nat.le_refl _) (by omega)
      show (if 0 ≤ w i then nI i else nxW w k (i + 1)) = nI n
      rw [if_neg (Int32.not_le.mpr h4)]
      exact nx_at h k (i + 1) (by omega) (by omega) (fun m a b => h3 m (by omega) b)
theorem nx_ne {w : Nat → Int32} {n : Nat} : ∀ k i, n < i → i + k ≤ 64 → ¬ nxW w k i = nI n
  | 0, i, h, h2 => fun z => by
    have h1 : nxW w 0 i = -1 := rfl
    rw [h1] at z
    have h0 : (0 : Int32) ≤ nI n := nI_pos' (by omega)
    rw [← z] at h0
    exact absurd h0 (by decide)
  | k + 1, i, h, h2 => fun z => by
    have h1 : nxW w (k + 1) i = if 0 ≤ w i then nI i else nxW w k (i + 1) := rfl
    rw [h1] at z
    split at z
    · have := nI_lt h (show i < 2 ^ 31 by omega)
      rw [z] at this
      exact Int32.lt_irrefl this
    · exact nx_ne k (i + 1) (by omega) (by omega) z
theorem nx_self {w : Nat → Int32} {n : Nat} (hn : n < 64) (h : ¬ 0 ≤ w n) : ¬ nxS w n = nI n := by
  unfold nxS
  rw [show 64 - n = (63 - n) + 1 by omega]
  show ¬ (if 0 ≤ w n then nI n else nxW w (63 - n) (n + 1)) = nI n
  rw [if_neg h]
  exact nx_ne _ _ (by omega) (by omega)
theorem sm_self {w : Nat → Int32} {n : Nat} (h : 0 ≤ w n) : smW w n (n + 1 - n) = w n := by
  rw [show n + 1 - n = 1 by omega]
  show nI 0 + (if w (n + 0) < nI 0 then nI 0 else w (n + 0)) = w n
  rw [Nat.add_zero, nI_0, if_neg (Int32.not_lt.mpr h)]
  simp
theorem wd_m1 {d : Row} {V : BV} {x : Nat} (h : ¬ 0 ≤ wdS d (bN V) (bG V) x) : wdS d (bN V) (bG V) x = -1 := by
  rw [wd_nz] at h ⊢
  unfold nz at h ⊢
  split
  · rename_i h2
    rw [if_pos h2] at h
    exact absurd h2 h
  · rfl
