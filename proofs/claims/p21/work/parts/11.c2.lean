/-! what SlipLevels tells: d the desk's row, n and g the runs -/
def wd0 (d : Row) (n : Nat → Nat) (g : LV) (x : Nat) : Int32 := if d x = -2 then fsA n g x 4 0 else d x
def wdS (d : Row) (n : Nat → Nat) (g : LV) (x : Nat) : Int32 := if 0 ≤ wd0 d n g x then wd0 d n g x else -1
def dtS (d : Row) (n : Nat → Nat) (g : LV) (x : Nat) : Nat := if hasR d x then 0 else dtA n g x 4 0
def allD (d : Row) (n : Nat → Nat) (g : LV) : Nat := snA (dtS d n g) 64
def sdS (d : Row) (n : Nat → Nat) (g : LV) (l r : Nat) : Nat := cntB (fun x => !hasR d x && frA n g l r x) 64
def wnS (d : Row) (n : Nat → Nat) (g : LV) : Nat := cntB (fun x => decide (0 ≤ wdS d n g x)) 64
def dgF (f : Row) (d : Int64) : Nat → Int64
  | 0 => d
  | x + 1 => if hasR f x then dgF f d x * 31 + (toldR f x).toInt64 else dgF f d x
def dgW (fact : Nat → Int32) (d : Int64) : Nat → Int64
  | 0 => d
  | w + 1 => dgW fact d w * 31 + (fact w).toInt64
def fcS (f : Row) (s : Nat) (w : Nat) : Int32 := if w = 5 then nI s else factR f w
def dgR (g : Nat → Row) (s : Nat → Nat) (d : Int64) : Nat → Int64
  | 0 => d
  | r + 1 => dgF (g r) (dgW (fcS (g r) (s r)) (dgR g s d r) 6) 64
def dgL (d : Row) (n : Nat → Nat) (g : LV) (s : Int64) : Nat → Int64
  | 0 => s
  | l + 1 => dgR (g l) (sdS d n g l) (dgL d n g s l * 31 + (nI (n l)).toInt64) (n l)
def tlS (d : Row) (n : Nat → Nat) (g : LV) (rm mv dt mg : Int32) (w : Nat) : Int32 := match w with
  | 0 => nI (szR d)
  | 1 => rm
  | 2 => nI (snA (fun l => snA (fun r => szR (g l r)) (n l)) 4)
  | 3 => nI (wnS d n g)
  | 4 => mv
  | 5 => dt
  | _ => mg
def dgS (d : Row) (n : Nat → Nat) (g : LV) (rm mv dt mg : Int32) : Int64 := dgW (wdS d n g) (dgL d n g (dgF d (dgW (tlS d n g rm mv dt mg) 1493 7) 64) 4) 64
theorem wdS_y {d : Row} {n : Nat → Nat} {g : LV} {x : Nat} (h : 0 ≤ wd0 d n g x) : wd0 d n g x = wdS d n g x := (if_pos h).symm
theorem wdS_n {d : Row} {n : Nat → Nat} {g : LV} {x : Nat} (h : ¬ 0 ≤ wd0 d n g x) : -1 = wdS d n g x := (if_neg h).symm
theorem wd0_y {d : Row} {n : Nat → Nat} {g : LV} {x : Nat} (h : d x = -2) : wd0 d n g x = fsA n g x 4 0 := if_pos h
theorem wd0_n {d : Row} {n : Nat → Nat} {g : LV} {x : Nat} (h : ¬ d x = -2) : wd0 d n g x = d x := if_neg h
theorem dgF_y {f : Row} {d : Int64} {x : Nat} (h : hasR f x = true) : dgF f d (x + 1) = dgF f d x * 31 + (toldR f x).toInt64 := if_pos h
theorem dgF_n {f : Row} {d : Int64} {x : Nat} (h : hasR f x = false) : dgF f d (x + 1) = dgF f d x := if_neg (by rw [h]; decide)
theorem cntB_y {p : Nat → Bool} {n : Nat} (h : p n = true) : cntB p (n + 1) = cntB p n + 1 := by rw [cntB_s, h]; rfl
theorem cntB_n {p : Nat → Bool} {n : Nat} (h : p n = false) : cntB p (n + 1) = cntB p n := by rw [cntB_s, h]; rfl
theorem fcS_5 {f : Row} {s w : Nat} (h : w = 5) : nI s = fcS f s w := (if_pos h).symm
theorem fcS_n {f : Row} {s w : Nat} (h : ¬ w = 5) : factR f w = fcS f s w := (if_neg h).symm
theorem dtA_le {n : Nat → Nat} {g : LV} {x : Nat} (hn : ∀ l, n l ≤ 3) : ∀ m l, dtA n g x m l ≤ 3 * m
  | 0, _ => Nat.zero_le _
  | m + 1, l => by
    have h1 := dtA_le (g := g) (x := x) hn m (l + 1)
    have h2 : ∀ c k r, dtL (g l) x c k r ≤ c + k + 1 := by
      intro c k
      induction k with
      | zero => intro r; show c ≤ _; omega
      | succ k ih =>
        intro r
        have := ih (r + 1)
        rw [dtL_s]
        split
        · split <;> omega
        · omega
    have h3 : ∀ c k r, dtL (g l) x c k r ≤ c + k ∨ dtL (g l) x c k r ≤ k := by
      intro c k
      induction k with
      | zero => intro r; exact Or.inl (Nat.le_refl _)
      | succ k ih =>
        intro r
        have := ih (r + 1)
        rw [dtL_s]
        split
        · split
          · right; omega
          · omega
        · omega
    have h4 := h3 (dtA n g x m (l + 1)) (n l) 0
    have h5 := hn l
    show dtL (g l) x (dtA n g x m (l + 1)) (n l) 0 ≤ _
    omega
theorem allD_le {d : Row} {n : Nat → Nat} {g : LV} (hn : ∀ l, n l ≤ 3) : allD d n g ≤ 64 * 12 :=
  snA_le (fun i _ => by
    unfold dtS
    split
    · omega
    · exact dtA_le hn 4 0)

set_option maxHeartbeats 1000000 in
set_option maxRecDepth 100000 in
theorem c_X2_needNumber (l : Launch) (G : hG) (hp : HP) (x : Nat) (hx6 : x < 64) : hRd l yX2_needNumber wsX2_needNumber 0 0 G hp [.int (nI x)] none := by
  refine Met.ofW (cc := cX2_needNumber) (maxL := 1) (ret := none) (by decide) rfl ?_
  intro p e s m args below meth c s₁ B hml hv
  obtain ⟨rfl, hV0, hK0⟩ := hv
  have hx := B.exec
  have hb := B.bytes
  have hr := B.returns
  have hts := atoms_spec (ws := wsX2_needNumber) B.pre
  have hown : s.vm.findClass RX2 = some m.cls := findClass_of_methodNamed B.named
  have hlocks := B.notSynchronized
  have hF : CallFix p m c cX2_needNumber 1 s [.int (nI x)].toArray wsX2_needNumber RX2 := ⟨hx, hb, hml, hown, hts⟩
  have hl := lv_entry ([.int (nI x)]) (n := 1) (Nat.le_of_ble_eq_true rfl)
  rw [lg_entry_eq]
  generalize (lg_sl ([.int (nI x)]) ++ List.replicate (1 - (lg_sl ([.int (nI x)])).length) Slot.unset).toArray = ls at hl ⊢
  replace hl : lv_has ls 1 [(0, .int (nI x))] := hl
  refine lv_iload_n hx hb dX2_needNumber_0 rfl (lv_at hl 0 rfl) ?_
  refine h_if_lt (a := x) (tgt := 10) hx hb dX2_needNumber_1 (by decide) (by omega) ?_
  refine lv_iload_n hx hb dX2_needNumber_4 rfl (lv_at hl 0 rfl) ?_
  refine lv_bipush (v := nI 64) hx hb dX2_needNumber_5 (by decide) ?_
  refine h_icmp_lt (a := x) (b := 64) (tgt := 20) hx hb dX2_needNumber_7 (by decide) (by omega) (by omega) (fun c_7 => ?_) (fun c_7 => absurd hx6 c_7)
  exact h_vretR hx hb hr hlocks dX2_needNumber_20

set_option maxHeartbeats 1000000 in
set_option maxRecDepth 100000 in
theorem c_X2_needLevel (l : Launch) (G : hG) (hp : HP) (lv : Nat) (hl4 : lv < 4) : hRd l yX2_needLevel wsX2_needLevel 0 0 G hp [.int (nI lv)] none := by
  refine Met.ofW (cc := cX2_needLevel) (maxL := 1) (ret := none) (by decide) rfl ?_
  intro p e s m args below meth c s₁ B hml hv
  obtain ⟨rfl, hV0, hK0⟩ := hv
  have hx := B.exec
  have hb := B.bytes
  have hr := B.returns
  have hts := atoms_spec (ws := wsX2_needLevel) B.pre
  have hown : s.vm.findClass RX2 = some m.cls := findClass_of_methodNamed B.named
  have hlocks := B.notSynchronized
  have hF : CallFix p m c cX2_needLevel 1 s [.int (nI lv)].toArray wsX2_needLevel RX2 := ⟨hx, hb, hml, hown, hts⟩
  have hl := lv_entry ([.int (nI lv)]) (n := 1) (Nat.le_of_ble_eq_true rfl)
  rw [lg_entry_eq]
  generalize (lg_sl ([.int (nI lv)]) ++ List.replicate (1 - (lg_sl ([.int (nI lv)])).length) Slot.unset).toArray = ls at hl ⊢
  replace hl : lv_has ls 1 [(0, .int (nI lv))] := hl
  refine lv_iload_n hx hb dX2_needLevel_0 rfl (lv_at hl 0 rfl) ?_
  refine h_if_lt (a := lv) (tgt := 9) hx hb dX2_needLevel_1 (by decide) (by omega) ?_
  refine lv_iload_n hx hb dX2_needLevel_4 rfl (lv_at hl 0 rfl) ?_
  refine lv_iconst (v := nI 4) hx hb dX2_needLevel_5 (by decide) ?_
  refine h_icmp_lt (a := lv) (b := 4) (tgt := 19) hx hb dX2_needLevel_6 (by decide) (by omega) (by omega) (fun c_6 => ?_) (fun c_6 => absurd hl4 c_6)
  exact h_vretR hx hb hr hlocks dX2_needLevel_19

set_option maxHeartbeats 1000000 in
set_option maxRecDepth 100000 in
theorem c_X2_wordOf (l : Launch) (G : hG) (hp : HP) (ad : Nat → Nat) (S : CS) (hC : cW ad S hp) (x : Nat) (hx6 : x < 64) : hRd l yX2_wordOf wsX2_wordOf 3 70 G hp [.ref (aX ad), .int (nI x)] (some (.int (wdS (sF S 0) (sN S 0) (gC S 0) x))) := by
  refine Met.ofW (cc := cX2_wordOf) (maxL := 3) (ret := (some .int)) (by decide) rfl ?_
  intro p e s m args below meth c s₁ B hml hv
  obtain ⟨rfl, hV0, hK0⟩ := hv
  have hx := B.exec
  have hb := B.bytes
  have hr := B.returns
  have hts := atoms_spec (ws := wsX2_wordOf) B.pre
  have hown : s.vm.findClass RX2 = some m.cls := findClass_of_methodNamed B.named
  have hlocks := B.notSynchronized
  have hF : CallFix p m c cX2_wordOf 3 s [.ref (aX ad), .int (nI x)].toArray wsX2_wordOf RX2 := ⟨hx, hb, hml, hown, hts⟩
  have hw0 := hts (.fieldLink RX2 10 "SlipLevels" "deskSlips" "LSlipLevels$Slips;") (by decide +kernel)
  have hw1 := hts (.fieldLink RX2 19 "SlipLevels" "binder" "LSlipLevels$Binder;") (by decide +kernel)
  have hi2 : ∀ w ∈ u_ws RX2 TX2 5, w ∈ wsX2_wordOf := by
    intro w h
    unfold wsX2_wordOf
    simp only [List.mem_cons, List.mem_append, h, true_or, or_true]
  have hl := lv_entry ([.ref (aX ad), .int (nI x)]) (n := 3) (Nat.le_of_ble_eq_true rfl)
  rw [lg_entry_eq]
  generalize (lg_sl ([.ref (aX ad), .int (nI x)]) ++ List.replicate (3 - (lg_sl ([.ref (aX ad), .int (nI x)])).length) Slot.unset).toArray = ls at hl ⊢
  replace hl : lv_has ls 3 [(0, .ref (aX ad)), (1, .int (nI x))] := hl
  refine lv_aload_n hx hb dX2_wordOf_0 rfl (lv_at hl 0 rfl) ?_
  refine h_get (v := .ref (aS ad 0)) hx hb hts hi2 hown hK0 hV0 hC.xo rfl 0 (by decide) hw0 rfl dX2_wordOf_1 ?_
  refine lv_iload_n hx hb dX2_wordOf_4 rfl (lv_at hl 1 rfl) ?_
  refine h_rdV (As := [.int (nI x)]) (rest := []) hF (c_X1_wordAt l G hp (aS ad 0) (aW ad 0) (sF S 0) (hC.sl (by omega)) x (by omega)) 1 gX2_wordOf_X1_wordAt rfl (by decide +kernel) ⟨Nat.le_of_ble_eq_true rfl, Nat.le_of_ble_eq_true rfl⟩ hK0 hV0 (hC.sl (by omega)).1 rfl rfl rfl hl.1 rfl (Nat.le_of_ble_eq_true rfl) (Nat.le_refl _) (Nat.le_refl _) dX2_wordOf_5 ?_
  refine lv_istore_n (lv' := [(2, .int ((sF S 0) x)), (0, .ref (aX ad)), (1, .int (nI x))]) hx hb dX2_wordOf_8 rfl hl (by decide) rfl (fun ls hl => ?_)
  refine lv_iload_n hx hb dX2_wordOf_9 rfl (lv_at hl 0 rfl) ?_
  refine lv_bipush (v := (-2)) hx hb dX2_wordOf_10 (by decide) ?_
  refine lv_icmp_ne (tgt := 24) hx hb dX2_wordOf_12 (by decide) (fun c_12 => ?_) (fun c_12 => ?_)
  · refine lv_iload_n hx hb dX2_wordOf_24 rfl (lv_at hl 0 rfl) ?_
    refine lv_if_ge (tgt := 32) hx hb dX2_wordOf_25 (by decide) (fun c_25 => ?_) (fun c_25 => ?_)
    · refine lv_iload_n hx hb dX2_wordOf_32 rfl (lv_at hl 0 rfl) ?_
      exact h_iretR hx hb hr hlocks (by rw [← wd0_n (d := sF S 0) (n := sN S 0) (g := gC S 0) c_12] at c_25; rw [← wd0_n (d := sF S 0) (n := sN S 0) (g := gC S 0) c_12]; exact wdS_y c_25) dX2_wordOf_33
    · refine lv_iconst (v := (-1)) hx hb dX2_wordOf_28 (by decide) ?_
      refine lv_goto (tgt := 33) hx hb dX2_wordOf_29 (by decide) ?_
      exact h_iretR hx hb hr hlocks (by rw [← wd0_n (d := sF S 0) (n := sN S 0) (g := gC S 0) c_12] at c_25; exact wdS_n c_25) dX2_wordOf_33
  · refine lv_aload_n hx hb dX2_wordOf_15 rfl (lv_at hl 1 rfl) ?_
    refine h_get (v := .ref (aB ad 0)) hx hb hts hi2 hown hK0 hV0 hC.xo rfl 1 (by decide) hw1 rfl dX2_wordOf_16 ?_
    refine lv_iload_n hx hb dX2_wordOf_19 rfl (lv_at hl 2 rfl) ?_
    refine h_rdV (As := [.int (nI x)]) (rest := []) hF (c_X0_firstWord l G hp ad S hC 0 (by decide) x (by omega)) 1 gX2_wordOf_X0_firstWord rfl (by decide +kernel) ⟨Nat.le_of_ble_eq_true rfl, Nat.le_of_ble_eq_true rfl⟩ hK0 hV0 (hC.bo (by decide)) rfl rfl rfl hl.1 rfl (Nat.le_of_ble_eq_true rfl) (Nat.le_refl _) (Nat.le_refl _) dX2_wordOf_20 ?_
    refine lv_istore_n (lv' := [(2, .int (fsA (sN S 0) (gC S 0) x 4 0)), (0, .ref (aX ad)), (1, .int (nI x))]) hx hb dX2_wordOf_23 rfl hl (by decide) rfl (fun ls hl => ?_)
    refine lv_iload_n hx hb dX2_wordOf_24 rfl (lv_at hl 0 rfl) ?_
    refine lv_if_ge (tgt := 32) hx hb dX2_wordOf_25 (by decide) (fun c_25 => ?_) (fun c_25 => ?_)
    · refine lv_iload_n hx hb dX2_wordOf_32 rfl (lv_at hl 0 rfl) ?_
      exact h_iretR hx hb hr hlocks (by rw [← wd0_y (d := sF S 0) (n := sN S 0) (g := gC S 0) c_12] at c_25; rw [← wd0_y (d := sF S 0) (n := sN S 0) (g := gC S 0) c_12]; exact wdS_y c_25) dX2_wordOf_33
    · refine lv_iconst (v := (-1)) hx hb dX2_wordOf_28 (by decide) ?_
      refine lv_goto (tgt := 33) hx hb dX2_wordOf_29 (by decide) ?_
      exact h_iretR hx hb hr hlocks (by rw [← wd0_y (d := sF S 0) (n := sN S 0) (g := gC S 0) c_12] at c_25; exact wdS_n c_25) dX2_wordOf_33

set_option maxHeartbeats 1000000 in
set_option maxRecDepth 100000 in
theorem c_X2_detoursIn (l : Launch) (G : hG) (hp : HP) (ad : Nat → Nat) (S : CS) (hC : cW ad S hp) (k : Nat) (hk : k < 2) (x : Nat) (hx6 : x < 64) : hRd l yX2_detoursIn wsX2_detoursIn 3 67 G hp [.ref (aX ad), .ref (aB ad k), .int (nI x)] (some (.int (nI (dtS (sF S 0) (sN S k) (gC S k) x)))) := by
  refine Met.ofW (cc := cX2_detoursIn) (maxL := 3) (ret := (some .int)) (by decide) rfl ?_
  intro p e s m args below meth c s₁ B hml hv
  obtain ⟨rfl, hV0, hK0⟩ := hv
  have hx := B.exec
  have hb := B.bytes
  have hr := B.returns
  have hts := atoms_spec (ws := wsX2_detoursIn) B.pre
  have hown : s.vm.findClass RX2 = some m.cls := findClass_of_methodNamed B.named
  have hlocks := B.notSynchronized
  have hF : CallFix p m c cX2_detoursIn 3 s [.ref (aX ad), .ref (aB ad k), .int (nI x)].toArray wsX2_detoursIn RX2 := ⟨hx, hb, hml, hown, hts⟩
  have hw0 := hts (.fieldLink RX2 10 "SlipLevels" "deskSlips" "LSlipLevels$Slips;") (by decide +kernel)
  have hi2 : ∀ w ∈ u_ws RX2 TX2 5, w ∈ wsX2_detoursIn := by
    intro w h
    unfold wsX2_detoursIn
    simp only [List.mem_cons, List.mem_append, h, true_or, or_true]
  have hl := lv_entry ([.ref (aX ad), .ref (aB ad k), .int (nI x)]) (n := 3) (Nat.le_of_ble_eq_true rfl)
  rw [lg_entry_eq]
  generalize (lg_sl ([.ref (aX ad), .ref (aB ad k), .int (nI x)]) ++ List.replicate (3 - (lg_sl ([.ref (aX ad), .ref (aB ad k), .int (nI x)])).length) Slot.unset).toArray = ls at hl ⊢
  replace hl : lv_has ls 3 [(0, .ref (aX ad)), (1, .ref (aB ad k)), (2, .int (nI x))] := hl
  refine lv_aload_n hx hb dX2_detoursIn_0 rfl (lv_at hl 0 rfl) ?_
  refine h_get (v := .ref (aS ad 0)) hx hb hts hi2 hown hK0 hV0 hC.xo rfl 0 (by decide) hw0 rfl dX2_detoursIn_1 ?_
  refine lv_iload_n hx hb dX2_detoursIn_4 rfl (lv_at hl 2 rfl) ?_
  refine h_rdV (As := [.int (nI x)]) (rest := []) hF (c_X1_has l G hp (aS ad 0) (aW ad 0) (sF S 0) (hC.sl (by omega)) x (by omega)) 1 gX2_detoursIn_X1_has rfl (by decide +kernel) ⟨Nat.le_of_ble_eq_true rfl, Nat.le_of_ble_eq_true rfl⟩ hK0 hV0 (hC.sl (by omega)).1 rfl rfl rfl hl.1 rfl (Nat.le_of_ble_eq_true rfl) (Nat.le_refl _) (Nat.le_refl _) dX2_detoursIn_5 ?_
  refine h_if_eqB (tgt := 15) hx hb dX2_detoursIn_8 (by decide) (fun c_8 => ?_) (fun c_8 => ?_)
  · refine lv_aload_n hx hb dX2_detoursIn_15 rfl (lv_at hl 1 rfl) ?_
    refine lv_iload_n hx hb dX2_detoursIn_16 rfl (lv_at hl 2 rfl) ?_
    refine h_rdV (As := [.int (nI x)]) (rest := []) hF (c_X0_detoursTo l G hp ad S hC k hk x (by omega)) 1 gX2_detoursIn_X0_detoursTo rfl (by decide +kernel) ⟨Nat.le_of_ble_eq_true rfl, Nat.le_of_ble_eq_true rfl⟩ hK0 hV0 (hC.bo hk) rfl rfl rfl hl.1 rfl (Nat.le_of_ble_eq_true rfl) (Nat.le_refl _) (Nat.le_refl _) dX2_detoursIn_17 ?_
    exact h_iretR hx hb hr hlocks (by unfold dtS; first | (rw [if_pos c_8]; done) | (rw [if_neg (by rw [c_8]; decide)]; done)) dX2_detoursIn_20
  · refine lv_iconst (v := nI 0) hx hb dX2_detoursIn_11 (by decide) ?_
    refine lv_goto (tgt := 20) hx hb dX2_detoursIn_12 (by decide) ?_
    exact h_iretR hx hb hr hlocks (by unfold dtS; first | (rw [if_pos c_8]; done) | (rw [if_neg (by rw [c_8]; decide)]; done)) dX2_detoursIn_20

set_option maxHeartbeats 1000000 in
set_option maxRecDepth 100000 in
theorem c_X2_allDetoursIn (l : Launch) (G : hG) (hp : HP) (ad : Nat → Nat) (S : CS) (hC : cW ad S hp) (k : Nat) (hk : k < 2) : hRd l yX2_allDetoursIn wsX2_allDetoursIn 4 89 G hp [.ref (aX ad), .ref (aB ad k)] (some (.int (nI (allD (sF S 0) (sN S k) (gC S k))))) := by
  refine Met.ofW (cc := cX2_allDetoursIn) (maxL := 4) (ret := (some .int)) (by decide) rfl ?_
  intro p e s m args below meth c s₁ B hml hv
  obtain ⟨rfl, hV0, hK0⟩ := hv
  have hx := B.exec
  have hb := B.bytes
  have hr := B.returns
  have hts := atoms_spec (ws := wsX2_allDetoursIn) B.pre
  have hown : s.vm.findClass RX2 = some m.cls := findClass_of_methodNamed B.named
  have hlocks := B.notSynchronized
  have hF : CallFix p m c cX2_allDetoursIn 4 s [.ref (aX ad), .ref (aB ad k)].toArray wsX2_allDetoursIn RX2 := ⟨hx, hb, hml, hown, hts⟩
  have hl := lv_entry ([.ref (aX ad), .ref (aB ad k)]) (n := 4) (Nat.le_of_ble_eq_true rfl)
  rw [lg_entry_eq]
  generalize (lg_sl ([.ref (aX ad), .ref (aB ad k)]) ++ List.replicate (4 - (lg_sl ([.ref (aX ad), .ref (aB ad k)])).length) Slot.unset).toArray = ls at hl ⊢
  replace hl : lv_has ls 4 [(0, .ref (aX ad)), (1, .ref (aB ad k))] := hl
  refine lv_iconst (v := nI 0) hx hb dX2_allDetoursIn_0 (by decide) ?_
  refine lv_istore_n (lv' := [(2, .int (nI 0)), (0, .ref (aX ad)), (1, .ref (aB ad k))]) hx hb dX2_allDetoursIn_1 rfl hl (by decide) rfl (fun ls hl => ?_)
  refine lv_iconst (v := nI 0) hx hb dX2_allDetoursIn_2 (by decide) ?_
  refine lv_istore_n (lv' := [(3, .int (nI 0)), (2, .int (nI 0)), (0, .ref (aX ad)), (1, .ref (aB ad k))]) hx hb dX2_allDetoursIn_3 rfl hl (by decide) rfl (fun ls hl => ?_)
  replace hl : lv_has ls 4 [(3, .int (nI 0)), (2, .int (nI (snA (dtS (sF S 0) (sN S k) (gC S k)) 0))), (0, .ref (aX ad)), (1, .ref (aB ad k))] := lv_sub hl [0, 1, 2, 3] rfl
  revert ls
  refine h_loop 64 (fun i => [(3, .int (nI i)), (2, .int (nI (snA (dtS (sF S 0) (sN S k) (gC S k)) i))), (0, .ref (aX ad)), (1, .ref (aB ad k))]) (fun i => True) (fun i hi4 hI4 ih4 ls hl => ?_) 0 (Nat.zero_le _) trivial
  refine lv_iload_n hx hb dX2_allDetoursIn_4 rfl (lv_at hl 0 rfl) ?_
  refine lv_bipush (v := nI 64) hx hb dX2_allDetoursIn_5 (by decide) ?_
  refine h_icmp_ge (a := i) (b := 64) (tgt := 25) hx hb dX2_allDetoursIn_7 (by decide) (by omega) (by omega) (fun c_7 => ?_) (fun c_7 => ?_)
  · refine lv_iload_n hx hb dX2_allDetoursIn_25 rfl (lv_at hl 1 rfl) ?_
    exact h_iretR hx hb hr hlocks (by rw [show i = 64 by omega]; rfl) dX2_allDetoursIn_26
  · refine lv_iload_n hx hb dX2_allDetoursIn_10 rfl (lv_at hl 1 rfl) ?_
    refine lv_aload_n hx hb dX2_allDetoursIn_11 rfl (lv_at hl 2 rfl) ?_
    refine lv_aload_n hx hb dX2_allDetoursIn_12 rfl (lv_at hl 3 rfl) ?_
    refine lv_iload_n hx hb dX2_allDetoursIn_13 rfl (lv_at hl 0 rfl) ?_
    refine h_rdV (As := [.ref (aB ad k), .int (nI i)]) (rest := [.int (nI (snA (dtS (sF S 0) (sN S k) (gC S k)) i))]) hF (c_X2_detoursIn l G hp ad S hC k hk i (by omega)) 2 gX2_allDetoursIn_X2_detoursIn rfl (by decide +kernel) ⟨Nat.le_of_ble_eq_true rfl, Nat.le_of_ble_eq_true rfl⟩ hK0 hV0 hC.xo rfl rfl rfl hl.1 rfl (Nat.le_of_ble_eq_true rfl) (Nat.le_refl _) (Nat.le_refl _) dX2_allDetoursIn_14 ?_
    refine h_iaddN hx hb dX2_allDetoursIn_17 ?_
    refine lv_istore_n (lv' := [(2, .int (nI (snA (dtS (sF S 0) (sN S k) (gC S k)) i + dtS (sF S 0) (sN S k) (gC S k) i))), (3, .int (nI i)), (0, .ref (aX ad)), (1, .ref (aB ad k))]) hx hb dX2_allDetoursIn_18 rfl hl (by decide) rfl (fun ls hl => ?_)
    refine lv_iinc (v := nI (i + 1)) (lv' := [(3, .int (nI (i + 1))), (2, .int (nI (snA (dtS (sF S 0) (sN S k) (gC S k)) i + dtS (sF S 0) (sN S k) (gC S k) i))), (0, .ref (aX ad)), (1, .ref (aB ad k))]) hx hb dX2_allDetoursIn_19 hl (k := 1) rfl (nI_add (i) 1) (by decide) rfl (fun ls hl => ?_)
    refine lv_goto (tgt := 4) hx hb dX2_allDetoursIn_22 (by decide) ?_
    exact ih4 (by omega) trivial ls (lv_sub hl [0, 1, 2, 3] rfl)

set_option maxHeartbeats 1000000 in
set_option maxRecDepth 100000 in
theorem c_X2_standingIn (l : Launch) (G : hG) (hp : HP) (ad : Nat → Nat) (S : CS) (hC : cW ad S hp) (lv r : Nat) (hl4 : lv < 4) (hr0 : r < sN S 0 lv) : hRd l yX2_standingIn wsX2_standingIn 3 72 G hp [.ref (aX ad), .int (nI lv), .int (nI r)] (some (.int (nI (sdS (sF S 0) (sN S 0) (gC S 0) lv r)))) := by
  refine Met.ofW (cc := cX2_standingIn) (maxL := 5) (ret := (some .int)) (by decide) rfl ?_
  intro p e s m args below meth c s₁ B hml hv
  obtain ⟨rfl, hV0, hK0⟩ := hv
  have hx := B.exec
  have hb := B.bytes
  have hr := B.returns
  have hts := atoms_spec (ws := wsX2_standingIn) B.pre
  have hown : s.vm.findClass RX2 = some m.cls := findClass_of_methodNamed B.named
  have hlocks := B.notSynchronized
  have hF : CallFix p m c cX2_standingIn 5 s [.ref (aX ad), .int (nI lv), .int (nI r)].toArray wsX2_standingIn RX2 := ⟨hx, hb, hml, hown, hts⟩
  have hw0 := hts (.fieldLink RX2 10 "SlipLevels" "deskSlips" "LSlipLevels$Slips;") (by decide +kernel)
  have hw1 := hts (.fieldLink RX2 19 "SlipLevels" "binder" "LSlipLevels$Binder;") (by decide +kernel)
  have hi2 : ∀ w ∈ u_ws RX2 TX2 5, w ∈ wsX2_standingIn := by
    intro w h
    unfold wsX2_standingIn
    simp only [List.mem_cons, List.mem_append, h, true_or, or_true]
  have hl := lv_entry ([.ref (aX ad), .int (nI lv), .int (nI r)]) (n := 5) (Nat.le_of_ble_eq_true rfl)
  rw [lg_entry_eq]
  generalize (lg_sl ([.ref (aX ad), .int (nI lv), .int (nI r)]) ++ List.replicate (5 - (lg_sl ([.ref (aX ad), .int (nI lv), .int (nI r)])).length) Slot.unset).toArray = ls at hl ⊢
  replace hl : lv_has ls 5 [(0, .ref (aX ad)), (1, .int (nI lv)), (2, .int (nI r))] := hl
  have hn := hC.ok.2.1 0 lv
  refine lv_iconst (v := nI 0) hx hb dX2_standingIn_0 (by decide) ?_
  refine lv_istore_n (lv' := [(3, .int (nI 0)), (0, .ref (aX ad)), (1, .int (nI lv)), (2, .int (nI r))]) hx hb dX2_standingIn_1 rfl hl (by decide) rfl (fun ls hl => ?_)
  refine lv_iconst (v := nI 0) hx hb dX2_standingIn_2 (by decide) ?_
  refine lv_istore (lv' := [(4, .int (nI 0)), (3, .int (nI 0)), (0, .ref (aX ad)), (1, .int (nI lv)), (2, .int (nI r))]) hx hb dX2_standingIn_3 hl (by decide) rfl (fun ls hl => ?_)
  replace hl : lv_has ls 5 [(4, .int (nI 0)), (3, .int (nI (cntB (fun x => !hasR (sF S 0) x && frA (sN S 0) (gC S 0) lv r x) 0))), (0, .ref (aX ad)), (1, .int (nI lv)), (2, .int (nI r))] := lv_sub hl [0, 1, 2, 3, 4] rfl
  revert ls
  refine h_loop 64 (fun i => [(4, .int (nI i)), (3, .int (nI (cntB (fun x => !hasR (sF S 0) x && frA (sN S 0) (gC S 0) lv r x) i))), (0, .ref (aX ad)), (1, .int (nI lv)), (2, .int (nI r))]) (fun i => True) (fun i hi5 hI5 ih5 ls hl => ?_) 0 (Nat.zero_le _) trivial
  refine lv_iload hx hb dX2_standingIn_5 (lv_at hl 0 rfl) ?_
  refine lv_bipush (v := nI 64) hx hb dX2_standingIn_7 (by decide) ?_
  refine h_icmp_ge (a := i) (b := 64) (tgt := 47) hx hb dX2_standingIn_9 (by decide) (by omega) (by omega) (fun c_9 => ?_) (fun c_9 => ?_)
  · refine lv_iload_n hx hb dX2_standingIn_47 rfl (lv_at hl 1 rfl) ?_
    exact h_iretR hx hb hr hlocks (by rw [show i = 64 by omega]; rfl) dX2_standingIn_48
  · refine lv_aload_n hx hb dX2_standingIn_12 rfl (lv_at hl 2 rfl) ?_
    refine h_get (v := .ref (aS ad 0)) hx hb hts hi2 hown hK0 hV0 hC.xo rfl 0 (by decide) hw0 rfl dX2_standingIn_13 ?_
    refine lv_iload hx hb dX2_standingIn_16 (lv_at hl 0 rfl) ?_
    refine h_rdV (As := [.int (nI i)]) (rest := []) hF (c_X1_has l G hp (aS ad 0) (aW ad 0) (sF S 0) (hC.sl (by omega)) i (by omega)) 1 gX2_standingIn_X1_has rfl (by decide +kernel) ⟨Nat.le_of_ble_eq_true rfl, Nat.le_of_ble_eq_true rfl⟩ hK0 hV0 (hC.sl (by omega)).1 rfl rfl rfl hl.1 rfl (Nat.le_of_ble_eq_true rfl) (Nat.le_refl _) (Nat.le_refl _) dX2_standingIn_18 ?_
    refine h_if_neB (tgt := 41) hx hb dX2_standingIn_21 (by decide) (fun c_21 => ?_) (fun c_21 => ?_)
    · refine lv_iinc (v := nI (i + 1)) (lv' := [(4, .int (nI (i + 1))), (3, .int (nI (cntB (fun x => !hasR (sF S 0) x && frA (sN S 0) (gC S 0) lv r x) i))), (0, .ref (aX ad)), (1, .int (nI lv)), (2, .int (nI r))]) hx hb dX2_standingIn_41 hl (k := 0) rfl (nI_add (i) 1) (by decide) rfl (fun ls hl => ?_)
      refine lv_goto (tgt := 5) hx hb dX2_standingIn_44 (by decide) ?_
      exact ih5 (by omega) trivial ls (by show lv_has ls 5 [(4, .int (nI (i + 1))), (3, .int (nI (cntB (fun x => !hasR (sF S 0) x && frA (sN S 0) (gC S 0) lv r x) (i + 1)))), (0, .ref (aX ad)), (1, .int (nI lv)), (2, .int (nI r))]; rw [cntB_n (p := fun x => !hasR (sF S 0) x && frA (sN S 0) (gC S 0) lv r x) (by show (!hasR (sF S 0) i && frA (sN S 0) (gC S 0) lv r i) = false; rw [c_21]; rfl)]; exact lv_sub hl [0, 1, 2, 3, 4] rfl)
    · refine lv_aload_n hx hb dX2_standingIn_24 rfl (lv_at hl 2 rfl) ?_
      refine h_get (v := .ref (aB ad 0)) hx hb hts hi2 hown hK0 hV0 hC.xo rfl 1 (by decide) hw1 rfl dX2_standingIn_25 ?_
      refine lv_iload_n hx hb dX2_standingIn_28 rfl (lv_at hl 3 rfl) ?_
      refine lv_iload_n hx hb dX2_standingIn_29 rfl (lv_at hl 4 rfl) ?_
      refine lv_iload hx hb dX2_standingIn_30 (lv_at hl 0 rfl) ?_
      refine h_rdV (As := [.int (nI lv), .int (nI r), .int (nI i)]) (rest := []) hF (c_X0_isFirst l G hp ad S hC 0 (by decide) lv r (by omega) (by omega) i (by omega)) 3 gX2_standingIn_X0_isFirst rfl (by decide +kernel) ⟨Nat.le_of_ble_eq_true rfl, Nat.le_of_ble_eq_true rfl⟩ hK0 hV0 (hC.bo (by decide)) rfl rfl rfl hl.1 rfl (Nat.le_of_ble_eq_true rfl) (Nat.le_refl _) (Nat.le_refl _) dX2_standingIn_32 ?_
      refine h_if_eqB (tgt := 41) hx hb dX2_standingIn_35 (by decide) (fun c_35 => ?_) (fun c_35 => ?_)
      · refine lv_iinc (v := nI (i + 1)) (lv' := [(4, .int (nI (i + 1))), (3, .int (nI (cntB (fun x => !hasR (sF S 0) x && frA (sN S 0) (gC S 0) lv r x) i))), (0, .ref (aX ad)), (1, .int (nI lv)), (2, .int (nI r))]) hx hb dX2_standingIn_41 hl (k := 0) rfl (nI_add (i) 1) (by decide) rfl (fun ls hl => ?_)
        refine lv_goto (tgt := 5) hx hb dX2_standingIn_44 (by decide) ?_
        exact ih5 (by omega) trivial ls (by show lv_has ls 5 [(4, .int (nI (i + 1))), (3, .int (nI (cntB (fun x => !hasR (sF S 0) x && frA (sN S 0) (gC S 0) lv r x) (i + 1)))), (0, .ref (aX ad)), (1, .int (nI lv)), (2, .int (nI r))]; rw [cntB_n (p := fun x => !hasR (sF S 0) x && frA (sN S 0) (gC S 0) lv r x) (by show (!hasR (sF S 0) i && frA (sN S 0) (gC S 0) lv r i) = false; rw [c_21, c_35]; rfl)]; exact lv_sub hl [0, 1, 2, 3, 4] rfl)
      · refine lv_iinc (v := nI (cntB (fun x => !hasR (sF S 0) x && frA (sN S 0) (gC S 0) lv r x) i + 1)) (lv' := [(3, .int (nI (cntB (fun x => !hasR (sF S 0) x && frA (sN S 0) (gC S 0) lv r x) i + 1))), (4, .int (nI i)), (0, .ref (aX ad)), (1, .int (nI lv)), (2, .int (nI r))]) hx hb dX2_standingIn_38 hl (k := 1) rfl (nI_add (cntB (fun x => !hasR (sF S 0) x && frA (sN S 0) (gC S 0) lv r x) i) 1) (by decide) rfl (fun ls hl => ?_)
        refine lv_iinc (v := nI (i + 1)) (lv' := [(4, .int (nI (i + 1))), (3, .int (nI (cntB (fun x => !hasR (sF S 0) x && frA (sN S 0) (gC S 0) lv r x) i + 1))), (0, .ref (aX ad)), (1, .int (nI lv)), (2, .int (nI r))]) hx hb dX2_standingIn_41 hl (k := 1) rfl (nI_add (i) 1) (by decide) rfl (fun ls hl => ?_)
        refine lv_goto (tgt := 5) hx hb dX2_standingIn_44 (by decide) ?_
        exact ih5 (by omega) trivial ls (by show lv_has ls 5 [(4, .int (nI (i + 1))), (3, .int (nI (cntB (fun x => !hasR (sF S 0) x && frA (sN S 0) (gC S 0) lv r x) (i + 1)))), (0, .ref (aX ad)), (1, .int (nI lv)), (2, .int (nI r))]; rw [cntB_y (p := fun x => !hasR (sF S 0) x && frA (sN S 0) (gC S 0) lv r x) (by show (!hasR (sF S 0) i && frA (sN S 0) (gC S 0) lv r i) = true; rw [c_21, c_35]; rfl)]; exact lv_sub hl [0, 1, 2, 3, 4] rfl)

set_option maxHeartbeats 1000000 in
set_option maxRecDepth 100000 in
theorem c_X2_wordsStanding (l : Launch) (G : hG) (hp : HP) (ad : Nat → Nat) (S : CS) (hC : cW ad S hp) : hRd l yX2_wordsStanding wsX2_wordsStanding 4 92 G hp [.ref (aX ad)] (some (.int (nI (wnS (sF S 0) (sN S 0) (gC S 0))))) := by
  refine Met.ofW (cc := cX2_wordsStanding) (maxL := 3) (ret := (some .int)) (by decide) rfl ?_
  intro p e s m args below meth c s₁ B hml hv
  obtain ⟨rfl, hV0, hK0⟩ := hv
  have hx := B.exec
  have hb := B.bytes
  have hr := B.returns
  have hts := atoms_spec (ws := wsX2_wordsStanding) B.pre
  have hown : s.vm.findClass RX2 = some m.cls := findClass_of_methodNamed B.named
  have hlocks := B.notSynchronized
  have hF : CallFix p m c cX2_wordsStanding 3 s [.ref (aX ad)].toArray wsX2_wordsStanding RX2 := ⟨hx, hb, hml, hown, hts⟩
  have hl := lv_entry ([.ref (aX ad)]) (n := 3) (Nat.le_of_ble_eq_true rfl)
  rw [lg_entry_eq]
  generalize (lg_sl ([.ref (aX ad)]) ++ List.replicate (3 - (lg_sl ([.ref (aX ad)])).length) Slot.unset).toArray = ls at hl ⊢
  replace hl : lv_has ls 3 [(0, .ref (aX ad))] := hl
  refine lv_iconst (v := nI 0) hx hb dX2_wordsStanding_0 (by decide) ?_
  refine lv_istore_n (lv' := [(1, .int (nI 0)), (0, .ref (aX ad))]) hx hb dX2_wordsStanding_1 rfl hl (by decide) rfl (fun ls hl => ?_)
  refine lv_iconst (v := nI 0) hx hb dX2_wordsStanding_2 (by decide) ?_
  refine lv_istore_n (lv' := [(2, .int (nI 0)), (1, .int (nI 0)), (0, .ref (aX ad))]) hx hb dX2_wordsStanding_3 rfl hl (by decide) rfl (fun ls hl => ?_)
  replace hl : lv_has ls 3 [(2, .int (nI 0)), (1, .int (nI (cntB (fun x => decide (0 ≤ wdS (sF S 0) (sN S 0) (gC S 0) x)) 0))), (0, .ref (aX ad))] := lv_sub hl [0, 1, 2] rfl
  revert ls
  refine h_loop 64 (fun i => [(2, .int (nI i)), (1, .int (nI (cntB (fun x => decide (0 ≤ wdS (sF S 0) (sN S 0) (gC S 0) x)) i))), (0, .ref (aX ad))]) (fun i => True) (fun i hi4 hI4 ih4 ls hl => ?_) 0 (Nat.zero_le _) trivial
  refine lv_iload_n hx hb dX2_wordsStanding_4 rfl (lv_at hl 0 rfl) ?_
  refine lv_bipush (v := nI 64) hx hb dX2_wordsStanding_5 (by decide) ?_
  refine h_icmp_ge (a := i) (b := 64) (tgt := 27) hx hb dX2_wordsStanding_7 (by decide) (by omega) (by omega) (fun c_7 => ?_) (fun c_7 => ?_)
  · refine lv_iload_n hx hb dX2_wordsStanding_27 rfl (lv_at hl 1 rfl) ?_
    exact h_iretR hx hb hr hlocks (by rw [show i = 64 by omega]; rfl) dX2_wordsStanding_28
  · refine lv_aload_n hx hb dX2_wordsStanding_10 rfl (lv_at hl 2 rfl) ?_
    refine lv_iload_n hx hb dX2_wordsStanding_11 rfl (lv_at hl 0 rfl) ?_
    refine h_rdV (As := [.int (nI i)]) (rest := []) hF (c_X2_wordOf l G hp ad S hC i (by omega)) 1 gX2_wordsStanding_X2_wordOf rfl (by decide +kernel) ⟨Nat.le_of_ble_eq_true rfl, Nat.le_of_ble_eq_true rfl⟩ hK0 hV0 hC.xo rfl rfl rfl hl.1 rfl (Nat.le_of_ble_eq_true rfl) (Nat.le_refl _) (Nat.le_refl _) dX2_wordsStanding_12 ?_
    refine lv_if_lt (tgt := 21) hx hb dX2_wordsStanding_15 (by decide) (fun c_15 => ?_) (fun c_15 => ?_)
    · refine lv_iinc (v := nI (i + 1)) (lv' := [(2, .int (nI (i + 1))), (1, .int (nI (cntB (fun x => decide (0 ≤ wdS (sF S 0) (sN S 0) (gC S 0) x)) i))), (0, .ref (aX ad))]) hx hb dX2_wordsStanding_21 hl (k := 0) rfl (nI_add (i) 1) (by decide) rfl (fun ls hl => ?_)
      refine lv_goto (tgt := 4) hx hb dX2_wordsStanding_24 (by decide) ?_
      exact ih4 (by omega) trivial ls (by show lv_has ls 3 [(2, .int (nI (i + 1))), (1, .int (nI (cntB (fun x => decide (0 ≤ wdS (sF S 0) (sN S 0) (gC S 0) x)) (i + 1)))), (0, .ref (aX ad))]; rw [cntB_n (p := (fun x => decide (0 ≤ wdS (sF S 0) (sN S 0) (gC S 0) x))) (decide_eq_false (Int32.not_le.mpr c_15))]; exact lv_sub hl [0, 1, 2] rfl)
    · refine lv_iinc (v := nI (cntB (fun x => decide (0 ≤ wdS (sF S 0) (sN S 0) (gC S 0) x)) i + 1)) (lv' := [(1, .int (nI (cntB (fun x => decide (0 ≤ wdS (sF S 0) (sN S 0) (gC S 0) x)) i + 1))), (2, .int (nI i)), (0, .ref (aX ad))]) hx hb dX2_wordsStanding_18 hl (k := 1) rfl (nI_add (cntB (fun x => decide (0 ≤ wdS (sF S 0) (sN S 0) (gC S 0) x)) i) 1) (by decide) rfl (fun ls hl => ?_)
      refine lv_iinc (v := nI (i + 1)) (lv' := [(2, .int (nI (i + 1))), (1, .int (nI (cntB (fun x => decide (0 ≤ wdS (sF S 0) (sN S 0) (gC S 0) x)) i + 1))), (0, .ref (aX ad))]) hx hb dX2_wordsStanding_21 hl (k := 1) rfl (nI_add (i) 1) (by decide) rfl (fun ls hl => ?_)
      refine lv_goto (tgt := 4) hx hb dX2_wordsStanding_24 (by decide) ?_
      exact ih4 (by omega) trivial ls (by show lv_has ls 3 [(2, .int (nI (i + 1))), (1, .int (nI (cntB (fun x => decide (0 ≤ wdS (sF S 0) (sN S 0) (gC S 0) x)) (i + 1)))), (0, .ref (aX ad))]; rw [cntB_y (p := (fun x => decide (0 ≤ wdS (sF S 0) (sN S 0) (gC S 0) x))) (decide_eq_true (Int32.not_lt.mp c_15))]; exact lv_sub hl [0, 1, 2] rfl)

set_option maxHeartbeats 1000000 in
set_option maxRecDepth 100000 in
theorem c_X2_tally (l : Launch) (G : hG) (hp : HP) (ad : Nat → Nat) (S : CS) (hC : cW ad S hp) (wh : Nat) (hw7 : wh < 7) : hRd l yX2_tally wsX2_tally 5 114 G hp [.ref (aX ad), .int (nI wh)] (some (.int (tlS (sF S 0) (sN S 0) (gC S 0) (sR S) (sV S 0) (sD S) (sG S 0) wh))) := by
  refine Met.ofW (cc := cX2_tally) (maxL := 2) (ret := (some .int)) (by decide) rfl ?_
  intro p e s m args below meth c s₁ B hml hv
  obtain ⟨rfl, hV0, hK0⟩ := hv
  have hx := B.exec
  have hb := B.bytes
  have hr := B.returns
  have hts := atoms_spec (ws := wsX2_tally) B.pre
  have hown : s.vm.findClass RX2 = some m.cls := findClass_of_methodNamed B.named
  have hlocks := B.notSynchronized
  have hF : CallFix p m c cX2_tally 2 s [.ref (aX ad), .int (nI wh)].toArray wsX2_tally RX2 := ⟨hx, hb, hml, hown, hts⟩
  have hw0 := hts (.fieldLink RX2 10 "SlipLevels" "deskSlips" "LSlipLevels$Slips;") (by decide +kernel)
  have hw1 := hts (.fieldLink RX2 26 "SlipLevels" "deskRoom" "I") (by decide +kernel)
  have hw2 := hts (.fieldLink RX2 19 "SlipLevels" "binder" "LSlipLevels$Binder;") (by decide +kernel)
  have hw3 := hts (.fieldLink RX2 30 "SlipLevels" "detoursRead" "I") (by decide +kernel)
  have hi2 : ∀ w ∈ u_ws RX2 TX2 5, w ∈ wsX2_tally := by
    intro w h
    unfold wsX2_tally
    simp only [List.mem_cons, List.mem_append, h, true_or, or_true]
  have hl := lv_entry ([.ref (aX ad), .int (nI wh)]) (n := 2) (Nat.le_of_ble_eq_true rfl)
  rw [lg_entry_eq]
  generalize (lg_sl ([.ref (aX ad), .int (nI wh)]) ++ List.replicate (2 - (lg_sl ([.ref (aX ad), .int (nI wh)])).length) Slot.unset).toArray = ls at hl ⊢
  replace hl : lv_has ls 2 [(0, .ref (aX ad)), (1, .int (nI wh))] := hl
  refine lv_iload_n hx hb dX2_tally_0 rfl (lv_at hl 1 rfl) ?_
  rcases (show wh = 0 ∨ wh = 1 ∨ wh = 2 ∨ wh = 3 ∨ wh = 4 ∨ wh = 5 ∨ wh = 6 by omega) with hq | hq | hq | hq | hq | hq | hq
  · subst hq
    refine lv_tableIn (off := 39) (tgt := 40) hx hb dX2_tally_1 (by decide) (by decide) (by decide) (by decide) ?_
    refine lv_aload_n hx hb dX2_tally_40 rfl (lv_at hl 0 rfl) ?_
    refine h_get (v := .ref (aS ad 0)) hx hb hts hi2 hown hK0 hV0 hC.xo rfl 0 (by decide) hw0 rfl dX2_tally_41 ?_
    refine h_rdV (As := []) (rest := []) hF (c_X1_size l G hp (aS ad 0) (aW ad 0) (sF S 0) (hC.sl (by omega))) 0 gX2_tally_X1_size rfl (by decide +kernel) ⟨Nat.le_of_ble_eq_true rfl, Nat.le_of_ble_eq_true rfl⟩ hK0 hV0 (hC.sl (by omega)).1 rfl rfl rfl hl.1 rfl (Nat.le_of_ble_eq_true rfl) (Nat.le_refl _) (Nat.le_refl _) dX2_tally_44 ?_
    exact h_iretR hx hb hr hlocks rfl dX2_tally_47
  · subst hq
    refine lv_tableIn (off := 47) (tgt := 48) hx hb dX2_tally_1 (by decide) (by decide) (by decide) (by decide) ?_
    refine lv_aload_n hx hb dX2_tally_48 rfl (lv_at hl 0 rfl) ?_
    refine h_get (v := .int (sR S)) hx hb hts hi2 hown hK0 hV0 hC.xo rfl 3 (by decide) hw1 rfl dX2_tally_49 ?_
    exact h_iretR hx hb hr hlocks rfl dX2_tally_52
  · subst hq
    refine lv_tableIn (off := 52) (tgt := 53) hx hb dX2_tally_1 (by decide) (by decide) (by decide) (by decide) ?_
    refine lv_aload_n hx hb dX2_tally_53 rfl (lv_at hl 0 rfl) ?_
    refine h_get (v := .ref (aB ad 0)) hx hb hts hi2 hown hK0 hV0 hC.xo rfl 1 (by decide) hw2 rfl dX2_tally_54 ?_
    refine h_rdV (As := []) (rest := []) hF (c_X0_slips l G hp ad S hC 0 (by decide)) 0 gX2_tally_X0_slips rfl (by decide +kernel) ⟨Nat.le_of_ble_eq_true rfl, Nat.le_of_ble_eq_true rfl⟩ hK0 hV0 (hC.bo (by decide)) rfl rfl rfl hl.1 rfl (Nat.le_of_ble_eq_true rfl) (Nat.le_refl _) (Nat.le_refl _) dX2_tally_57 ?_
    exact h_iretR hx hb hr hlocks rfl dX2_tally_60
  · subst hq
    refine lv_tableIn (off := 60) (tgt := 61) hx hb dX2_tally_1 (by decide) (by decide) (by decide) (by decide) ?_
    refine lv_aload_n hx hb dX2_tally_61 rfl (lv_at hl 0 rfl) ?_
    refine h_rdV (As := []) (rest := []) hF (c_X2_wordsStanding l G hp ad S hC) 0 gX2_tally_X2_wordsStanding rfl (by decide +kernel) ⟨Nat.le_of_ble_eq_true rfl, Nat.le_of_ble_eq_true rfl⟩ hK0 hV0 hC.xo rfl rfl rfl hl.1 rfl (Nat.le_of_ble_eq_true rfl) (Nat.le_refl _) (Nat.le_refl _) dX2_tally_62 ?_
    exact h_iretR hx hb hr hlocks rfl dX2_tally_65
  · subst hq
    refine lv_tableIn (off := 65) (tgt := 66) hx hb dX2_tally_1 (by decide) (by decide) (by decide) (by decide) ?_
    refine lv_aload_n hx hb dX2_tally_66 rfl (lv_at hl 0 rfl) ?_
    refine h_get (v := .ref (aB ad 0)) hx hb hts hi2 hown hK0 hV0 hC.xo rfl 1 (by decide) hw2 rfl dX2_tally_67 ?_
    refine h_rdV (As := []) (rest := []) hF (c_X0_moves l G hp ad S hC 0 (by decide)) 0 gX2_tally_X0_moves rfl (by decide +kernel) ⟨Nat.le_of_ble_eq_true rfl, Nat.le_of_ble_eq_true rfl⟩ hK0 hV0 (hC.bo (by decide)) rfl rfl rfl hl.1 rfl (Nat.le_of_ble_eq_true rfl) (Nat.le_refl _) (Nat.le_refl _) dX2_tally_70 ?_
    exact h_iretR hx hb hr hlocks rfl dX2_tally_73
  · subst hq
    refine lv_tableIn (off := 73) (tgt := 74) hx hb dX2_tally_1 (by decide) (by decide) (by decide) (by decide) ?_
    refine lv_aload_n hx hb dX2_tally_74 rfl (lv_at hl 0 rfl) ?_
    refine h_get (v := .int (sD S)) hx hb hts hi2 hown hK0 hV0 hC.xo rfl 4 (by decide) hw3 rfl dX2_tally_75 ?_
    exact h_iretR hx hb hr hlocks rfl dX2_tally_78
  · subst hq
    refine lv_tableOut (tgt := 79) hx hb dX2_tally_1 (Or.inr (by decide)) (by decide) ?_
    refine lv_aload_n hx hb dX2_tally_79 rfl (lv_at hl 0 rfl) ?_
    refine h_get (v := .ref (aB ad 0)) hx hb hts hi2 hown hK0 hV0 hC.xo rfl 1 (by decide) hw2 rfl dX2_tally_80 ?_
    refine h_rdV (As := []) (rest := []) hF (c_X0_mergings l G hp ad S hC 0 (by decide)) 0 gX2_tally_X0_mergings rfl (by decide +kernel) ⟨Nat.le_of_ble_eq_true rfl, Nat.le_of_ble_eq_true rfl⟩ hK0 hV0 (hC.bo (by decide)) rfl rfl rfl hl.1 rfl (Nat.le_of_ble_eq_true rfl) (Nat.le_refl _) (Nat.le_refl _) dX2_tally_83 ?_
    exact h_iretR hx hb hr hlocks rfl dX2_tally_86

set_option maxHeartbeats 1000000 in
set_option maxRecDepth 100000 in
theorem c_X2_factOf (l : Launch) (G : hG) (hp : HP) (ad : Nat → Nat) (S : CS) (hC : cW ad S hp) (lv r : Nat) (hl4 : lv < 4) (hr0 : r < sN S 0 lv) (wh : Nat) (hw6 : wh < 6) : hRd l yX2_factOf wsX2_factOf 4 96 G hp [.ref (aX ad), .int (nI lv), .int (nI r), .ref (aS ad (iR S 0 lv r)), .int (nI wh)] (some (.int (fcS (gC S 0 lv r) (sdS (sF S 0) (sN S 0) (gC S 0) lv r) wh))) := by
  refine Met.ofW (cc := cX2_factOf) (maxL := 5) (ret := (some .int)) (by decide) rfl ?_
  intro p e s m args below meth c s₁ B hml hv
  obtain ⟨rfl, hV0, hK0⟩ := hv
  have hx := B.exec
  have hb := B.bytes
  have hr := B.returns
  have hts := atoms_spec (ws := wsX2_factOf) B.pre
  have hown : s.vm.findClass RX2 = some m.cls := findClass_of_methodNamed B.named
  have hlocks := B.notSynchronized
  have hF : CallFix p m c cX2_factOf 5 s [.ref (aX ad), .int (nI lv), .int (nI r), .ref (aS ad (iR S 0 lv r)), .int (nI wh)].toArray wsX2_factOf RX2 := ⟨hx, hb, hml, hown, hts⟩
  have hl := lv_entry ([.ref (aX ad), .int (nI lv), .int (nI r), .ref (aS ad (iR S 0 lv r)), .int (nI wh)]) (n := 5) (Nat.le_of_ble_eq_true rfl)
  rw [lg_entry_eq]
  generalize (lg_sl ([.ref (aX ad), .int (nI lv), .int (nI r), .ref (aS ad (iR S 0 lv r)), .int (nI wh)]) ++ List.replicate (5 - (lg_sl ([.ref (aX ad), .int (nI lv), .int (nI r), .ref (aS ad (iR S 0 lv r)), .int (nI wh)])).length) Slot.unset).toArray = ls at hl ⊢
  replace hl : lv_has ls 5 [(0, .ref (aX ad)), (1, .int (nI lv)), (2, .int (nI r)), (3, .ref (aS ad (iR S 0 lv r))), (4, .int (nI wh))] := hl
  have hn := hC.ok.2.1 0 lv
  refine lv_iload hx hb dX2_factOf_0 (lv_at hl 4 rfl) ?_
  refine lv_iconst (v := nI 5) hx hb dX2_factOf_2 (by decide) ?_
  refine h_icmp_ne (a := wh) (b := 5) (tgt := 15) hx hb dX2_factOf_3 (by decide) (by omega) (by omega) (fun c_3 => ?_) (fun c_3 => ?_)
  · refine lv_aload_n hx hb dX2_factOf_15 rfl (lv_at hl 3 rfl) ?_
    refine lv_iload hx hb dX2_factOf_16 (lv_at hl 4 rfl) ?_
    refine h_rdV (As := [.int (nI wh)]) (rest := []) hF (c_X1_fact l G hp (aS ad (iR S 0 lv r)) (aW ad (iR S 0 lv r)) (gC S 0 lv r) (hC.run (by decide) (by omega) (by omega)) wh (by omega)) 1 gX2_factOf_X1_fact rfl (by decide +kernel) ⟨Nat.le_of_ble_eq_true rfl, Nat.le_of_ble_eq_true rfl⟩ hK0 hV0 (hC.run (by decide) (by omega) (by omega)).1 rfl rfl rfl hl.1 rfl (Nat.le_of_ble_eq_true rfl) (Nat.le_refl _) (Nat.le_refl _) dX2_factOf_18 ?_
    exact h_iretR hx hb hr hlocks (fcS_n (by omega)) dX2_factOf_21
  · refine lv_aload_n hx hb dX2_factOf_6 rfl (lv_at hl 0 rfl) ?_
    refine lv_iload_n hx hb dX2_factOf_7 rfl (lv_at hl 1 rfl) ?_
    refine lv_iload_n hx hb dX2_factOf_8 rfl (lv_at hl 2 rfl) ?_
    refine h_rdV (As := [.int (nI lv), .int (nI r)]) (rest := []) hF (c_X2_standingIn l G hp ad S hC lv r (by omega) (by omega)) 2 gX2_factOf_X2_standingIn rfl (by decide +kernel) ⟨Nat.le_of_ble_eq_true rfl, Nat.le_of_ble_eq_true rfl⟩ hK0 hV0 hC.xo rfl rfl rfl hl.1 rfl (Nat.le_of_ble_eq_true rfl) (Nat.le_refl _) (Nat.le_refl _) dX2_factOf_9 ?_
    refine lv_goto (tgt := 21) hx hb dX2_factOf_12 (by decide) ?_
    exact h_iretR hx hb hr hlocks (fcS_5 (by omega)) dX2_factOf_21
