/-! SlipLevels: what returns -/
section HD2
variable {p : Program} {l : Launch} {e : Env} {R : Room} {s : State} {m : MethodId} {args : Array Value} {below : List Frame} {meth : Method} {c : Code} {H : Heap} {locs : List Loc} {cells slots : Nat} {Q : State → Prop}
variable {cc : ByteArray} {pc : Nat} {ls : Array Slot}
theorem h_dretR {v w : UInt64} (hexec : p.tables.exec = Jvm.exec) (hb : c.code = cc) (hr : meth.sig.returnType = some .double) (hlocks : meth.locks = false) (hvw : v = w) {free : Addr → Prop} (hdg : decode cc pc = .ok (.dreturn, 1)) : W p l e R s m args below meth c s.heap [] cells slots (MQ below (hR (some (.double w))) args s cells slots free) (F0 m pc ls [.double v]) := by
  subst hvw
  exact W.dret hexec hb hr (fun t ht _ => ⟨rfl, ht⟩) (fun q h => absurd h List.not_mem_nil) hdg hlocks
end HD2
def nxW (w : Nat → Int32) : Nat → Nat → Int32
  | 0, _ => -1
  | k + 1, i => if 0 ≤ w i then nI i else nxW w k (i + 1)
def nxS (w : Nat → Int32) (x : Nat) : Int32 := nxW w (64 - x) x
theorem nxW_y {w : Nat → Int32} {i : Nat} (hi : i < 64) (h : ¬ w i < 0) : nI i = nxW w (64 - i) i := by
  rw [show 64 - i = (63 - i) + 1 by omega]
  exact (if_pos (Int32.not_lt.mp h)).symm
theorem nxW_n {w : Nat → Int32} {i : Nat} (hi : i < 64) (h : w i < 0) : nxW w (64 - (i + 1)) (i + 1) = nxW w (64 - i) i := by
  rw [show 64 - i = (63 - i) + 1 by omega, show 64 - (i + 1) = 63 - i by omega]
  exact (if_neg (Int32.not_le.mpr h)).symm
def smW (w : Nat → Int32) (a : Nat) : Nat → Int32
  | 0 => nI 0
  | k + 1 => smW w a k + (if w (a + k) < nI 0 then nI 0 else w (a + k))
theorem smW_s {w : Nat → Int32} {a i : Nat} (h : a ≤ i) : smW w a (i - a) + (if w i < nI 0 then nI 0 else w i) = smW w a (i + 1 - a) := by
  rw [show i + 1 - a = (i - a) + 1 by omega]
  show _ = smW w a (i - a) + (if w (a + (i - a)) < nI 0 then nI 0 else w (a + (i - a)))
  rw [show a + (i - a) = i by omega]
theorem nthR_lt {f : Row} {k : Nat} (h : k < szR f) : nthR f k < 64 := by
  unfold nthR
  rw [List.getD_eq_getElem?_getD, List.getElem?_eq_getElem (by rw [nsR_len]; exact h)]
  have h1 : (nsR f)[k]'(by rw [nsR_len]; exact h) ∈ nsR f := List.getElem_mem _
  exact List.mem_range.mp (List.mem_filter.mp h1).1
def lvS (S : CS) (l wh : Nat) : Int32 := match wh with
  | 0 => nI (sN S 0 l)
  | 1 => nI (slB S 0 l)
  | _ => nI (tbB S 0 l)
def mnV (k : Nat) : UInt64 := FP.ddiv (FP.i2d (nI k)) 4634204016564240384
theorem mnV_ok : ∀ k : Fin 769, vf_n64 (mnV k.val) ∧ FP.dcmp (mnV k.val) (mnV k.val) = FP.dcmp (mnV 0) (mnV 0) := by
  unfold vf_n64
  decide +kernel

set_option maxHeartbeats 1000000 in
set_option maxRecDepth 100000 in
theorem c_X2_detours (l : Launch) (G : hG) (hp : HP) (ad : Nat → Nat) (S : CS) (hC : cW ad S hp) (x : Nat) (hx6 : x < 64) : hRd l yX2_detours wsX2_detours 4 89 G hp [.ref (aX ad), .int (nI x)] (some (.int (nI (dtS (sF S 0) (sN S 0) (gC S 0) x)))) := by
  refine Met.ofW (cc := cX2_detours) (maxL := 2) (ret := (some .int)) (by decide) rfl ?_
  intro p e s m args below meth c s₁ B hml hv
  obtain ⟨rfl, hV0, hK0⟩ := hv
  have hx := B.exec
  have hb := B.bytes
  have hr := B.returns
  have hts := atoms_spec (ws := wsX2_detours) B.pre
  have hown : s.vm.findClass RX2 = some m.cls := findClass_of_methodNamed B.named
  have hlocks := B.notSynchronized
  have hF : CallFix p m c cX2_detours 2 s [.ref (aX ad), .int (nI x)].toArray wsX2_detours RX2 := ⟨hx, hb, hml, hown, hts⟩
  have hw0 := hts (.fieldLink RX2 19 "SlipLevels" "binder" "LSlipLevels$Binder;") (by decide +kernel)
  have hi2 : ∀ w ∈ u_ws RX2 TX2 5, w ∈ wsX2_detours := by
    intro w h
    unfold wsX2_detours
    simp only [List.mem_cons, List.mem_append, h, true_or, or_true]
  have hl := lv_entry ([.ref (aX ad), .int (nI x)]) (n := 2) (Nat.le_of_ble_eq_true rfl)
  rw [lg_entry_eq]
  generalize (lg_sl ([.ref (aX ad), .int (nI x)]) ++ List.replicate (2 - (lg_sl ([.ref (aX ad), .int (nI x)])).length) Slot.unset).toArray = ls at hl ⊢
  replace hl : lv_has ls 2 [(0, .ref (aX ad)), (1, .int (nI x))] := hl
  refine lv_iload_n hx hb dX2_detours_0 rfl (lv_at hl 1 rfl) ?_
  refine h_rdS (As := [.int (nI x)]) (rest := []) hF (c_X2_needNumber l G hp x (by omega)) 1 gX2_detours_X2_needNumber rfl (by decide +kernel) ⟨Nat.le_of_ble_eq_true rfl, Nat.le_of_ble_eq_true rfl⟩ hK0 hV0 rfl hl.1 rfl (Nat.le_of_ble_eq_true rfl) (Nat.le_refl _) (Nat.le_refl _) dX2_detours_1 ?_
  refine lv_aload_n hx hb dX2_detours_4 rfl (lv_at hl 0 rfl) ?_
  refine lv_aload_n hx hb dX2_detours_5 rfl (lv_at hl 0 rfl) ?_
  refine h_get (v := .ref (aB ad 0)) hx hb hts hi2 hown hK0 hV0 hC.xo rfl 1 (by decide) hw0 rfl dX2_detours_6 ?_
  refine lv_iload_n hx hb dX2_detours_9 rfl (lv_at hl 1 rfl) ?_
  refine h_rdV (As := [.ref (aB ad 0), .int (nI x)]) (rest := []) hF (c_X2_detoursIn l G hp ad S hC 0 (by decide) x (by omega)) 2 gX2_detours_X2_detoursIn rfl (by decide +kernel) ⟨Nat.le_of_ble_eq_true rfl, Nat.le_of_ble_eq_true rfl⟩ hK0 hV0 hC.xo rfl rfl rfl hl.1 rfl (Nat.le_of_ble_eq_true rfl) (Nat.le_refl _) (Nat.le_refl _) dX2_detours_10 ?_
  exact h_iretR hx hb hr hlocks (by first | rfl | assumption) dX2_detours_13

set_option maxHeartbeats 1000000 in
set_option maxRecDepth 100000 in
theorem c_X2_next (l : Launch) (G : hG) (hp : HP) (ad : Nat → Nat) (S : CS) (hC : cW ad S hp) (x : Nat) (hx6 : x < 64) : hRd l yX2_next wsX2_next 4 92 G hp [.ref (aX ad), .int (nI x)] (some (.int (nxS (wdS (sF S 0) (sN S 0) (gC S 0)) x))) := by
  refine Met.ofW (cc := cX2_next) (maxL := 3) (ret := (some .int)) (by decide) rfl ?_
  intro p e s m args below meth c s₁ B hml hv
  obtain ⟨rfl, hV0, hK0⟩ := hv
  have hx := B.exec
  have hb := B.bytes
  have hr := B.returns
  have hts := atoms_spec (ws := wsX2_next) B.pre
  have hown : s.vm.findClass RX2 = some m.cls := findClass_of_methodNamed B.named
  have hlocks := B.notSynchronized
  have hF : CallFix p m c cX2_next 3 s [.ref (aX ad), .int (nI x)].toArray wsX2_next RX2 := ⟨hx, hb, hml, hown, hts⟩
  have hl := lv_entry ([.ref (aX ad), .int (nI x)]) (n := 3) (Nat.le_of_ble_eq_true rfl)
  rw [lg_entry_eq]
  generalize (lg_sl ([.ref (aX ad), .int (nI x)]) ++ List.replicate (3 - (lg_sl ([.ref (aX ad), .int (nI x)])).length) Slot.unset).toArray = ls at hl ⊢
  replace hl : lv_has ls 3 [(0, .ref (aX ad)), (1, .int (nI x))] := hl
  refine lv_iload_n hx hb dX2_next_0 rfl (lv_at hl 1 rfl) ?_
  refine h_rdS (As := [.int (nI x)]) (rest := []) hF (c_X2_needNumber l G hp x (by omega)) 1 gX2_next_X2_needNumber rfl (by decide +kernel) ⟨Nat.le_of_ble_eq_true rfl, Nat.le_of_ble_eq_true rfl⟩ hK0 hV0 rfl hl.1 rfl (Nat.le_of_ble_eq_true rfl) (Nat.le_refl _) (Nat.le_refl _) dX2_next_1 ?_
  refine lv_iload_n hx hb dX2_next_4 rfl (lv_at hl 1 rfl) ?_
  refine lv_istore_n (lv' := [(2, .int (nI x)), (0, .ref (aX ad)), (1, .int (nI x))]) hx hb dX2_next_5 rfl hl (by decide) rfl (fun ls hl => ?_)
  replace hl : lv_has ls 3 [(2, .int (nI x)), (0, .ref (aX ad)), (1, .int (nI x))] := lv_sub hl [0, 1, 2] rfl
  revert ls
  refine h_loop 64 (fun i => [(2, .int (nI i)), (0, .ref (aX ad)), (1, .int (nI x))]) (fun i => nxW (wdS (sF S 0) (sN S 0) (gC S 0)) (64 - i) i = nxS (wdS (sF S 0) (sN S 0) (gC S 0)) x) (fun i hi6 hI6 ih6 ls hl => ?_) x (by omega) rfl
  refine lv_iload_n hx hb dX2_next_6 rfl (lv_at hl 0 rfl) ?_
  refine lv_bipush (v := nI 64) hx hb dX2_next_7 (by decide) ?_
  refine h_icmp_ge (a := i) (b := 64) (tgt := 28) hx hb dX2_next_9 (by decide) (by omega) (by omega) (fun c_9 => ?_) (fun c_9 => ?_)
  · refine lv_iconst (v := (-1)) hx hb dX2_next_28 (by decide) ?_
    exact h_iretR hx hb hr hlocks (by rw [← hI6, show i = 64 by omega]; rfl) dX2_next_29
  · have hiq : i < 64 := by omega
    refine lv_aload_n hx hb dX2_next_12 rfl (lv_at hl 1 rfl) ?_
    refine lv_iload_n hx hb dX2_next_13 rfl (lv_at hl 0 rfl) ?_
    refine h_rdV (As := [.int (nI i)]) (rest := []) hF (c_X2_wordOf l G hp ad S hC i (by omega)) 1 gX2_next_X2_wordOf rfl (by decide +kernel) ⟨Nat.le_of_ble_eq_true rfl, Nat.le_of_ble_eq_true rfl⟩ hK0 hV0 hC.xo rfl rfl rfl hl.1 rfl (Nat.le_of_ble_eq_true rfl) (Nat.le_refl _) (Nat.le_refl _) dX2_next_14 ?_
    refine lv_if_lt (tgt := 22) hx hb dX2_next_17 (by decide) (fun c_17 => ?_) (fun c_17 => ?_)
    · refine lv_iinc (v := nI (i + 1)) (lv' := [(2, .int (nI (i + 1))), (0, .ref (aX ad)), (1, .int (nI x))]) hx hb dX2_next_22 hl (k := 0) rfl (nI_add (i) 1) (by decide) rfl (fun ls hl => ?_)
      refine lv_goto (tgt := 6) hx hb dX2_next_25 (by decide) ?_
      exact ih6 (by omega) ((nxW_n hiq c_17).trans hI6) ls (lv_sub hl [0, 1, 2] rfl)
    · refine lv_iload_n hx hb dX2_next_20 rfl (lv_at hl 0 rfl) ?_
      exact h_iretR hx hb hr hlocks ((nxW_y hiq c_17).trans hI6) dX2_next_21

set_option maxHeartbeats 1000000 in
set_option maxRecDepth 100000 in
theorem c_X2_sum (l : Launch) (G : hG) (hp : HP) (ad : Nat → Nat) (S : CS) (hC : cW ad S hp) (x y : Nat) (hxy : x ≤ y) (hy6 : y < 64) : hRd l yX2_sum wsX2_sum 4 92 G hp [.ref (aX ad), .int (nI x), .int (nI y)] (some (.int (smW (wdS (sF S 0) (sN S 0) (gC S 0)) x (y + 1 - x)))) := by
  refine Met.ofW (cc := cX2_sum) (maxL := 5) (ret := (some .int)) (by decide) rfl ?_
  intro p e s m args below meth c s₁ B hml hv
  obtain ⟨rfl, hV0, hK0⟩ := hv
  have hx := B.exec
  have hb := B.bytes
  have hr := B.returns
  have hts := atoms_spec (ws := wsX2_sum) B.pre
  have hown : s.vm.findClass RX2 = some m.cls := findClass_of_methodNamed B.named
  have hlocks := B.notSynchronized
  have hF : CallFix p m c cX2_sum 5 s [.ref (aX ad), .int (nI x), .int (nI y)].toArray wsX2_sum RX2 := ⟨hx, hb, hml, hown, hts⟩
  have hw0 := hts (.methodLink RX2 84 Lib.Math.max.name) (by decide +kernel)
  have hw1 := hts (.static Lib.Math.max.name) (by decide +kernel)
  have hw2 := hts (.initialized "java/lang/Math") (by decide +kernel)
  have hw3 := hts (.code Lib.Math.max.name Lib.Math.max.code 2 (some .int)) (by decide +kernel)
  have hl := lv_entry ([.ref (aX ad), .int (nI x), .int (nI y)]) (n := 5) (Nat.le_of_ble_eq_true rfl)
  rw [lg_entry_eq]
  generalize (lg_sl ([.ref (aX ad), .int (nI x), .int (nI y)]) ++ List.replicate (5 - (lg_sl ([.ref (aX ad), .int (nI x), .int (nI y)])).length) Slot.unset).toArray = ls at hl ⊢
  replace hl : lv_has ls 5 [(0, .ref (aX ad)), (1, .int (nI x)), (2, .int (nI y))] := hl
  refine lv_iload_n hx hb dX2_sum_0 rfl (lv_at hl 1 rfl) ?_
  refine h_rdS (As := [.int (nI x)]) (rest := []) hF (c_X2_needNumber l G hp x (by omega)) 1 gX2_sum_X2_needNumber rfl (by decide +kernel) ⟨Nat.le_of_ble_eq_true rfl, Nat.le_of_ble_eq_true rfl⟩ hK0 hV0 rfl hl.1 rfl (Nat.le_of_ble_eq_true rfl) (Nat.le_refl _) (Nat.le_refl _) dX2_sum_1 ?_
  refine lv_iload_n hx hb dX2_sum_4 rfl (lv_at hl 2 rfl) ?_
  refine h_rdS (As := [.int (nI y)]) (rest := []) hF (c_X2_needNumber l G hp y (by omega)) 1 gX2_sum_X2_needNumber rfl (by decide +kernel) ⟨Nat.le_of_ble_eq_true rfl, Nat.le_of_ble_eq_true rfl⟩ hK0 hV0 rfl hl.1 rfl (Nat.le_of_ble_eq_true rfl) (Nat.le_refl _) (Nat.le_refl _) dX2_sum_5 ?_
  refine lv_iload_n hx hb dX2_sum_8 rfl (lv_at hl 1 rfl) ?_
  refine lv_iload_n hx hb dX2_sum_9 rfl (lv_at hl 2 rfl) ?_
  refine h_icmp_le (a := x) (b := y) (tgt := 23) hx hb dX2_sum_10 (by decide) (by omega) (by omega) (fun c_10 => ?_) (fun c_10 => absurd hxy c_10)
  have hsx : nI 0 = smW (wdS (sF S 0) (sN S 0) (gC S 0)) x (x - x) := by rw [Nat.sub_self]; rfl
  refine lv_iconst (v := nI 0) hx hb dX2_sum_23 (by decide) ?_
  refine lv_istore_n (lv' := [(3, .int (nI 0)), (0, .ref (aX ad)), (1, .int (nI x)), (2, .int (nI y))]) hx hb dX2_sum_24 rfl hl (by decide) rfl (fun ls hl => ?_)
  refine lv_iload_n hx hb dX2_sum_25 rfl (lv_at hl 2 rfl) ?_
  replace hl : lv_has ls 5 [(3, .int (smW (wdS (sF S 0) (sN S 0) (gC S 0)) x (x - x))), (0, .ref (aX ad)), (1, .int (nI x)), (2, .int (nI y))] := by rw [← hsx]; exact hl
  refine lv_istore (lv' := [(4, .int (nI x)), (3, .int (smW (wdS (sF S 0) (sN S 0) (gC S 0)) x (x - x))), (0, .ref (aX ad)), (1, .int (nI x)), (2, .int (nI y))]) hx hb dX2_sum_26 hl (by decide) rfl (fun ls hl => ?_)
  replace hl : lv_has ls 5 [(4, .int (nI x)), (3, .int (smW (wdS (sF S 0) (sN S 0) (gC S 0)) x (x - x))), (0, .ref (aX ad)), (1, .int (nI x)), (2, .int (nI y))] := lv_sub hl [0, 1, 2, 3, 4] rfl
  revert ls
  refine h_loop (y + 1) (fun i => [(4, .int (nI i)), (3, .int (smW (wdS (sF S 0) (sN S 0) (gC S 0)) x (i - x))), (0, .ref (aX ad)), (1, .int (nI x)), (2, .int (nI y))]) (fun i => x ≤ i) (fun i hi28 hI28 ih28 ls hl => ?_) x (by omega) (Nat.le_refl _)
  refine lv_iload hx hb dX2_sum_28 (lv_at hl 0 rfl) ?_
  refine lv_iload_n hx hb dX2_sum_30 rfl (lv_at hl 4 rfl) ?_
  refine h_icmp_gt (a := i) (b := y) (tgt := 53) hx hb dX2_sum_31 (by decide) (by omega) (by omega) (fun c_31 => ?_) (fun c_31 => ?_)
  · refine lv_iload_n hx hb dX2_sum_53 rfl (lv_at hl 1 rfl) ?_
    exact h_iretR hx hb hr hlocks (by rw [show i = y + 1 by omega]) dX2_sum_54
  · refine lv_iload_n hx hb dX2_sum_34 rfl (lv_at hl 1 rfl) ?_
    refine lv_aload_n hx hb dX2_sum_35 rfl (lv_at hl 2 rfl) ?_
    refine lv_iload hx hb dX2_sum_36 (lv_at hl 0 rfl) ?_
    refine h_rdV (As := [.int (nI i)]) (rest := [.int (smW (wdS (sF S 0) (sN S 0) (gC S 0)) x (i - x))]) hF (c_X2_wordOf l G hp ad S hC i (by omega)) 1 gX2_sum_X2_wordOf rfl (by decide +kernel) ⟨Nat.le_of_ble_eq_true rfl, Nat.le_of_ble_eq_true rfl⟩ hK0 hV0 hC.xo rfl rfl rfl hl.1 rfl (Nat.le_of_ble_eq_true rfl) (Nat.le_refl _) (Nat.le_refl _) dX2_sum_38 ?_
    refine lv_iconst (v := nI 0) hx hb dX2_sum_41 (by decide) ?_
    refine va_mmax hx hb (hml.trans hl.1.symm) hown hw0 hw1 hw2 hw3 (Nat.le_of_ble_eq_true rfl) (Nat.le_of_ble_eq_true rfl) (Nat.le_of_ble_eq_true rfl) (Nat.le_of_ble_eq_true rfl) dX2_sum_42 ?_
    refine lv_iadd hx hb dX2_sum_45 ?_
    refine lv_istore_n (lv' := [(3, .int ((smW (wdS (sF S 0) (sN S 0) (gC S 0)) x (i - x)) + ((if (wdS (sF S 0) (sN S 0) (gC S 0) i) < nI 0 then nI 0 else (wdS (sF S 0) (sN S 0) (gC S 0) i))))), (4, .int (nI i)), (0, .ref (aX ad)), (1, .int (nI x)), (2, .int (nI y))]) hx hb dX2_sum_46 rfl hl (by decide) rfl (fun ls hl => ?_)
    refine lv_iinc (v := nI (i + 1)) (lv' := [(4, .int (nI (i + 1))), (3, .int ((smW (wdS (sF S 0) (sN S 0) (gC S 0)) x (i - x)) + ((if (wdS (sF S 0) (sN S 0) (gC S 0) i) < nI 0 then nI 0 else (wdS (sF S 0) (sN S 0) (gC S 0) i))))), (0, .ref (aX ad)), (1, .int (nI x)), (2, .int (nI y))]) hx hb dX2_sum_47 hl (k := 1) rfl (nI_add (i) 1) (by decide) rfl (fun ls hl => ?_)
    refine lv_goto (tgt := 28) hx hb dX2_sum_50 (by decide) ?_
    exact ih28 (by omega) (by omega) ls (by show lv_has ls 5 [(4, .int (nI (i + 1))), (3, .int (smW (wdS (sF S 0) (sN S 0) (gC S 0)) x (i + 1 - x))), (0, .ref (aX ad)), (1, .int (nI x)), (2, .int (nI y))]; rw [← smW_s hI28]; exact lv_sub hl [0, 1, 2, 3, 4] rfl)

set_option maxHeartbeats 1000000 in
set_option maxRecDepth 100000 in
theorem c_X2_run (l : Launch) (G : hG) (hp : HP) (ad : Nat → Nat) (S : CS) (hC : cW ad S hp) (lv : Nat) (hl4 : lv < 4) (r : Nat) (hr0 : r < sN S 0 lv) (wh : Nat) (hw6 : wh < 6) : hRd l yX2_run wsX2_run 5 120 G hp [.ref (aX ad), .int (nI lv), .int (nI r), .int (nI wh)] (some (.int (fcS (gC S 0 lv r) (sdS (sF S 0) (sN S 0) (gC S 0) lv r) wh))) := by
  refine Met.ofW (cc := cX2_run) (maxL := 5) (ret := (some .int)) (by decide) rfl ?_
  intro p e s m args below meth c s₁ B hml hv
  obtain ⟨rfl, hV0, hK0⟩ := hv
  have hx := B.exec
  have hb := B.bytes
  have hr := B.returns
  have hts := atoms_spec (ws := wsX2_run) B.pre
  have hown : s.vm.findClass RX2 = some m.cls := findClass_of_methodNamed B.named
  have hlocks := B.notSynchronized
  have hF : CallFix p m c cX2_run 5 s [.ref (aX ad), .int (nI lv), .int (nI r), .int (nI wh)].toArray wsX2_run RX2 := ⟨hx, hb, hml, hown, hts⟩
  have hw0 := hts (.fieldLink RX2 19 "SlipLevels" "binder" "LSlipLevels$Binder;") (by decide +kernel)
  have hi2 : ∀ w ∈ u_ws RX2 TX2 5, w ∈ wsX2_run := by
    intro w h
    unfold wsX2_run
    simp only [List.mem_cons, List.mem_append, h, true_or, or_true]
  have hl := lv_entry ([.ref (aX ad), .int (nI lv), .int (nI r), .int (nI wh)]) (n := 5) (Nat.le_of_ble_eq_true rfl)
  rw [lg_entry_eq]
  generalize (lg_sl ([.ref (aX ad), .int (nI lv), .int (nI r), .int (nI wh)]) ++ List.replicate (5 - (lg_sl ([.ref (aX ad), .int (nI lv), .int (nI r), .int (nI wh)])).length) Slot.unset).toArray = ls at hl ⊢
  replace hl : lv_has ls 5 [(0, .ref (aX ad)), (1, .int (nI lv)), (2, .int (nI r)), (3, .int (nI wh))] := hl
  have hn := hC.ok.2.1 0 lv
  refine lv_iload_n hx hb dX2_run_0 rfl (lv_at hl 1 rfl) ?_
  refine h_rdS (As := [.int (nI lv)]) (rest := []) hF (c_X2_needLevel l G hp lv (by omega)) 1 gX2_run_X2_needLevel rfl (by decide +kernel) ⟨Nat.le_of_ble_eq_true rfl, Nat.le_of_ble_eq_true rfl⟩ hK0 hV0 rfl hl.1 rfl (Nat.le_of_ble_eq_true rfl) (Nat.le_refl _) (Nat.le_refl _) dX2_run_1 ?_
  refine lv_aload_n hx hb dX2_run_4 rfl (lv_at hl 0 rfl) ?_
  refine h_get (v := .ref (aB ad 0)) hx hb hts hi2 hown hK0 hV0 hC.xo rfl 1 (by decide) hw0 rfl dX2_run_5 ?_
  refine lv_iload_n hx hb dX2_run_8 rfl (lv_at hl 1 rfl) ?_
  refine lv_iload_n hx hb dX2_run_9 rfl (lv_at hl 2 rfl) ?_
  refine h_rdV (As := [.int (nI lv), .int (nI r)]) (rest := []) hF (c_X0_runAt l G hp ad S hC 0 (by decide) lv r (by omega) (by omega)) 2 gX2_run_X0_runAt rfl (by decide +kernel) ⟨Nat.le_of_ble_eq_true rfl, Nat.le_of_ble_eq_true rfl⟩ hK0 hV0 (hC.bo (by decide)) rfl rfl rfl hl.1 rfl (Nat.le_of_ble_eq_true rfl) (Nat.le_refl _) (Nat.le_refl _) dX2_run_10 ?_
  refine lv_astore (lv' := [(4, .ref (aS ad (iR S 0 lv r))), (0, .ref (aX ad)), (1, .int (nI lv)), (2, .int (nI r)), (3, .int (nI wh))]) hx hb dX2_run_13 hl (by decide) rfl (fun ls hl => ?_)
  refine lv_aload hx hb dX2_run_15 (lv_at hl 0 rfl) ?_
  refine lv_ifnonnull (tgt := 30) hx hb dX2_run_17 (by decide) ?_
  refine lv_iload_n hx hb dX2_run_30 rfl (lv_at hl 4 rfl) ?_
  refine h_if_lt (a := wh) (tgt := 40) hx hb dX2_run_31 (by decide) (by omega) ?_
  refine lv_iload_n hx hb dX2_run_34 rfl (lv_at hl 4 rfl) ?_
  refine lv_bipush (v := nI 6) hx hb dX2_run_35 (by decide) ?_
  refine h_icmp_lt (a := wh) (b := 6) (tgt := 50) hx hb dX2_run_37 (by decide) (by omega) (by omega) (fun c_37 => ?_) (fun c_37 => absurd hw6 c_37)
  refine lv_aload_n hx hb dX2_run_50 rfl (lv_at hl 1 rfl) ?_
  refine lv_iload_n hx hb dX2_run_51 rfl (lv_at hl 2 rfl) ?_
  refine lv_iload_n hx hb dX2_run_52 rfl (lv_at hl 3 rfl) ?_
  refine lv_aload hx hb dX2_run_53 (lv_at hl 0 rfl) ?_
  refine lv_iload_n hx hb dX2_run_55 rfl (lv_at hl 4 rfl) ?_
  refine h_rdV (As := [.int (nI lv), .int (nI r), .ref (aS ad (iR S 0 lv r)), .int (nI wh)]) (rest := []) hF (c_X2_factOf l G hp ad S hC lv r (by omega) (by omega) wh (by omega)) 4 gX2_run_X2_factOf rfl (by decide +kernel) ⟨Nat.le_of_ble_eq_true rfl, Nat.le_of_ble_eq_true rfl⟩ hK0 hV0 hC.xo rfl rfl rfl hl.1 rfl (Nat.le_of_ble_eq_true rfl) (Nat.le_refl _) (Nat.le_refl _) dX2_run_56 ?_
  exact h_iretR hx hb hr hlocks rfl dX2_run_59

set_option maxHeartbeats 1000000 in
set_option maxRecDepth 100000 in
theorem c_X2_slipAt (l : Launch) (G : hG) (hp : HP) (a w : Nat) (f : Row) (he : slAt hp a w f) (k : Nat) (hk : k < szR f) : hRd l yX2_slipAt wsX2_slipAt 3 65 G hp [.ref a, .int (nI k)] (some (.int (toldR f (nthR f k)))) := by
  refine Met.ofW (cc := cX2_slipAt) (maxL := 3) (ret := (some .int)) (by decide) rfl ?_
  intro p e s m args below meth c s₁ B hml hv
  obtain ⟨rfl, hV0, hK0⟩ := hv
  have hx := B.exec
  have hb := B.bytes
  have hr := B.returns
  have hts := atoms_spec (ws := wsX2_slipAt) B.pre
  have hown : s.vm.findClass RX2 = some m.cls := findClass_of_methodNamed B.named
  have hlocks := B.notSynchronized
  have hF : CallFix p m c cX2_slipAt 3 s [.ref a, .int (nI k)].toArray wsX2_slipAt RX2 := ⟨hx, hb, hml, hown, hts⟩
  have hl := lv_entry ([.ref a, .int (nI k)]) (n := 3) (Nat.le_of_ble_eq_true rfl)
  rw [lg_entry_eq]
  generalize (lg_sl ([.ref a, .int (nI k)]) ++ List.replicate (3 - (lg_sl ([.ref a, .int (nI k)])).length) Slot.unset).toArray = ls at hl ⊢
  replace hl : lv_has ls 3 [(0, .ref a), (1, .int (nI k))] := hl
  have hn6 := nthR_lt hk
  refine lv_aload_n hx hb dX2_slipAt_0 rfl (lv_at hl 0 rfl) ?_
  refine lv_iload_n hx hb dX2_slipAt_1 rfl (lv_at hl 1 rfl) ?_
  refine h_rdV (As := [.int (nI k)]) (rest := []) hF (c_X1_numberAt l G hp (a) w f he k (by omega)) 1 gX2_slipAt_X1_numberAt rfl (by decide +kernel) ⟨Nat.le_of_ble_eq_true rfl, Nat.le_of_ble_eq_true rfl⟩ hK0 hV0 he.1 rfl rfl rfl hl.1 rfl (Nat.le_of_ble_eq_true rfl) (Nat.le_refl _) (Nat.le_refl _) dX2_slipAt_2 ?_
  refine lv_istore_n (lv' := [(2, .int (nI (nthR f k))), (0, .ref a), (1, .int (nI k))]) hx hb dX2_slipAt_5 rfl hl (by decide) rfl (fun ls hl => ?_)
  refine lv_iload_n hx hb dX2_slipAt_6 rfl (lv_at hl 0 rfl) ?_
  refine h_if_ge (a := nthR f k) (tgt := 20) hx hb dX2_slipAt_7 (by decide) (by omega) ?_
  refine lv_aload_n hx hb dX2_slipAt_20 rfl (lv_at hl 1 rfl) ?_
  refine lv_iload_n hx hb dX2_slipAt_21 rfl (lv_at hl 0 rfl) ?_
  refine h_rdV (As := [.int (nI (nthR f k))]) (rest := []) hF (c_X1_told l G hp (a) w f he (nthR f k) (by omega)) 1 gX2_slipAt_X1_told rfl (by decide +kernel) ⟨Nat.le_of_ble_eq_true rfl, Nat.le_of_ble_eq_true rfl⟩ hK0 hV0 he.1 rfl rfl rfl hl.1 rfl (Nat.le_of_ble_eq_true rfl) (Nat.le_refl _) (Nat.le_refl _) dX2_slipAt_22 ?_
  exact h_iretR hx hb hr hlocks (by first | rfl | assumption) dX2_slipAt_25

set_option maxHeartbeats 1000000 in
set_option maxRecDepth 100000 in
theorem c_X2_slip (l : Launch) (G : hG) (hp : HP) (ad : Nat → Nat) (S : CS) (hC : cW ad S hp) (lv : Nat) (hl4 : lv < 4) (r : Nat) (hr0 : r < sN S 0 lv) (k : Nat) (hk : k < szR (gC S 0 lv r)) : hRd l yX2_slip wsX2_slip 4 87 G hp [.ref (aX ad), .int (nI lv), .int (nI r), .int (nI k)] (some (.int (toldR (gC S 0 lv r) (nthR (gC S 0 lv r) k)))) := by
  refine Met.ofW (cc := cX2_slip) (maxL := 5) (ret := (some .int)) (by decide) rfl ?_
  intro p e s m args below meth c s₁ B hml hv
  obtain ⟨rfl, hV0, hK0⟩ := hv
  have hx := B.exec
  have hb := B.bytes
  have hr := B.returns
  have hts := atoms_spec (ws := wsX2_slip) B.pre
  have hown : s.vm.findClass RX2 = some m.cls := findClass_of_methodNamed B.named
  have hlocks := B.notSynchronized
  have hF : CallFix p m c cX2_slip 5 s [.ref (aX ad), .int (nI lv), .int (nI r), .int (nI k)].toArray wsX2_slip RX2 := ⟨hx, hb, hml, hown, hts⟩
  have hw0 := hts (.fieldLink RX2 19 "SlipLevels" "binder" "LSlipLevels$Binder;") (by decide +kernel)
  have hi2 : ∀ w ∈ u_ws RX2 TX2 5, w ∈ wsX2_slip := by
    intro w h
    unfold wsX2_slip
    simp only [List.mem_cons, List.mem_append, h, true_or, or_true]
  have hl := lv_entry ([.ref (aX ad), .int (nI lv), .int (nI r), .int (nI k)]) (n := 5) (Nat.le_of_ble_eq_true rfl)
  rw [lg_entry_eq]
  generalize (lg_sl ([.ref (aX ad), .int (nI lv), .int (nI r), .int (nI k)]) ++ List.replicate (5 - (lg_sl ([.ref (aX ad), .int (nI lv), .int (nI r), .int (nI k)])).length) Slot.unset).toArray = ls at hl ⊢
  replace hl : lv_has ls 5 [(0, .ref (aX ad)), (1, .int (nI lv)), (2, .int (nI r)), (3, .int (nI k))] := hl
  have hn := hC.ok.2.1 0 lv
  refine lv_iload_n hx hb dX2_slip_0 rfl (lv_at hl 1 rfl) ?_
  refine h_rdS (As := [.int (nI lv)]) (rest := []) hF (c_X2_needLevel l G hp lv (by omega)) 1 gX2_slip_X2_needLevel rfl (by decide +kernel) ⟨Nat.le_of_ble_eq_true rfl, Nat.le_of_ble_eq_true rfl⟩ hK0 hV0 rfl hl.1 rfl (Nat.le_of_ble_eq_true rfl) (Nat.le_refl _) (Nat.le_refl _) dX2_slip_1 ?_
  refine lv_aload_n hx hb dX2_slip_4 rfl (lv_at hl 0 rfl) ?_
  refine h_get (v := .ref (aB ad 0)) hx hb hts hi2 hown hK0 hV0 hC.xo rfl 1 (by decide) hw0 rfl dX2_slip_5 ?_
  refine lv_iload_n hx hb dX2_slip_8 rfl (lv_at hl 1 rfl) ?_
  refine lv_iload_n hx hb dX2_slip_9 rfl (lv_at hl 2 rfl) ?_
  refine h_rdV (As := [.int (nI lv), .int (nI r)]) (rest := []) hF (c_X0_runAt l G hp ad S hC 0 (by decide) lv r (by omega) (by omega)) 2 gX2_slip_X0_runAt rfl (by decide +kernel) ⟨Nat.le_of_ble_eq_true rfl, Nat.le_of_ble_eq_true rfl⟩ hK0 hV0 (hC.bo (by decide)) rfl rfl rfl hl.1 rfl (Nat.le_of_ble_eq_true rfl) (Nat.le_refl _) (Nat.le_refl _) dX2_slip_10 ?_
  refine lv_astore (lv' := [(4, .ref (aS ad (iR S 0 lv r))), (0, .ref (aX ad)), (1, .int (nI lv)), (2, .int (nI r)), (3, .int (nI k))]) hx hb dX2_slip_13 hl (by decide) rfl (fun ls hl => ?_)
  refine lv_aload hx hb dX2_slip_15 (lv_at hl 0 rfl) ?_
  refine lv_ifnonnull (tgt := 30) hx hb dX2_slip_17 (by decide) ?_
  refine lv_aload hx hb dX2_slip_30 (lv_at hl 0 rfl) ?_
  refine lv_iload_n hx hb dX2_slip_32 rfl (lv_at hl 4 rfl) ?_
  refine h_rdS (As := [.ref (aS ad (iR S 0 lv r)), .int (nI k)]) (rest := []) hF (c_X2_slipAt l G hp (aS ad (iR S 0 lv r)) (aW ad (iR S 0 lv r)) (gC S 0 lv r) (hC.run (by decide) (by omega) (by omega)) k (by omega)) 2 gX2_slip_X2_slipAt rfl (by decide +kernel) ⟨Nat.le_of_ble_eq_true rfl, Nat.le_of_ble_eq_true rfl⟩ hK0 hV0 rfl hl.1 rfl (Nat.le_of_ble_eq_true rfl) (Nat.le_refl _) (Nat.le_refl _) dX2_slip_33 ?_
  exact h_iretR hx hb hr hlocks (by first | rfl | assumption) dX2_slip_36

set_option maxHeartbeats 1000000 in
set_option maxRecDepth 100000 in
theorem c_X2_desk (l : Launch) (G : hG) (hp : HP) (ad : Nat → Nat) (S : CS) (hC : cW ad S hp) (k : Nat) (hk : k < szR (sF S 0)) : hRd l yX2_desk wsX2_desk 4 87 G hp [.ref (aX ad), .int (nI k)] (some (.int (toldR (sF S 0) (nthR (sF S 0) k)))) := by
  refine Met.ofW (cc := cX2_desk) (maxL := 2) (ret := (some .int)) (by decide) rfl ?_
  intro p e s m args below meth c s₁ B hml hv
  obtain ⟨rfl, hV0, hK0⟩ := hv
  have hx := B.exec
  have hb := B.bytes
  have hr := B.returns
  have hts := atoms_spec (ws := wsX2_desk) B.pre
  have hown : s.vm.findClass RX2 = some m.cls := findClass_of_methodNamed B.named
  have hlocks := B.notSynchronized
  have hF : CallFix p m c cX2_desk 2 s [.ref (aX ad), .int (nI k)].toArray wsX2_desk RX2 := ⟨hx, hb, hml, hown, hts⟩
  have hw0 := hts (.fieldLink RX2 10 "SlipLevels" "deskSlips" "LSlipLevels$Slips;") (by decide +kernel)
  have hi2 : ∀ w ∈ u_ws RX2 TX2 5, w ∈ wsX2_desk := by
    intro w h
    unfold wsX2_desk
    simp only [List.mem_cons, List.mem_append, h, true_or, or_true]
  have hl := lv_entry ([.ref (aX ad), .int (nI k)]) (n := 2) (Nat.le_of_ble_eq_true rfl)
  rw [lg_entry_eq]
  generalize (lg_sl ([.ref (aX ad), .int (nI k)]) ++ List.replicate (2 - (lg_sl ([.ref (aX ad), .int (nI k)])).length) Slot.unset).toArray = ls at hl ⊢
  replace hl : lv_has ls 2 [(0, .ref (aX ad)), (1, .int (nI k))] := hl
  refine lv_aload_n hx hb dX2_desk_0 rfl (lv_at hl 0 rfl) ?_
  refine h_get (v := .ref (aS ad 0)) hx hb hts hi2 hown hK0 hV0 hC.xo rfl 0 (by decide) hw0 rfl dX2_desk_1 ?_
  refine lv_iload_n hx hb dX2_desk_4 rfl (lv_at hl 1 rfl) ?_
  refine h_rdS (As := [.ref (aS ad 0), .int (nI k)]) (rest := []) hF (c_X2_slipAt l G hp (aS ad 0) (aW ad 0) (sF S 0) (hC.sl (by omega)) k (by omega)) 2 gX2_desk_X2_slipAt rfl (by decide +kernel) ⟨Nat.le_of_ble_eq_true rfl, Nat.le_of_ble_eq_true rfl⟩ hK0 hV0 rfl hl.1 rfl (Nat.le_of_ble_eq_true rfl) (Nat.le_refl _) (Nat.le_refl _) dX2_desk_5 ?_
  exact h_iretR hx hb hr hlocks (by first | rfl | assumption) dX2_desk_8

set_option maxHeartbeats 1000000 in
set_option maxRecDepth 100000 in
theorem c_X2_level (l : Launch) (G : hG) (hp : HP) (ad : Nat → Nat) (S : CS) (hC : cW ad S hp) (lv : Nat) (hl4 : lv < 4) (wh : Nat) (hw3 : wh < 3) : hRd l yX2_level wsX2_level 2 47 G hp [.ref (aX ad), .int (nI lv), .int (nI wh)] (some (.int (lvS S lv wh))) := by
  refine Met.ofW (cc := cX2_level) (maxL := 3) (ret := (some .int)) (by decide) rfl ?_
  intro p e s m args below meth c s₁ B hml hv
  obtain ⟨rfl, hV0, hK0⟩ := hv
  have hx := B.exec
  have hb := B.bytes
  have hr := B.returns
  have hts := atoms_spec (ws := wsX2_level) B.pre
  have hown : s.vm.findClass RX2 = some m.cls := findClass_of_methodNamed B.named
  have hlocks := B.notSynchronized
  have hF : CallFix p m c cX2_level 3 s [.ref (aX ad), .int (nI lv), .int (nI wh)].toArray wsX2_level RX2 := ⟨hx, hb, hml, hown, hts⟩
  have hw0 := hts (.fieldLink RX2 19 "SlipLevels" "binder" "LSlipLevels$Binder;") (by decide +kernel)
  have hi2 : ∀ w ∈ u_ws RX2 TX2 5, w ∈ wsX2_level := by
    intro w h
    unfold wsX2_level
    simp only [List.mem_cons, List.mem_append, h, true_or, or_true]
  have hl := lv_entry ([.ref (aX ad), .int (nI lv), .int (nI wh)]) (n := 3) (Nat.le_of_ble_eq_true rfl)
  rw [lg_entry_eq]
  generalize (lg_sl ([.ref (aX ad), .int (nI lv), .int (nI wh)]) ++ List.replicate (3 - (lg_sl ([.ref (aX ad), .int (nI lv), .int (nI wh)])).length) Slot.unset).toArray = ls at hl ⊢
  replace hl : lv_has ls 3 [(0, .ref (aX ad)), (1, .int (nI lv)), (2, .int (nI wh))] := hl
  refine lv_iload_n hx hb dX2_level_0 rfl (lv_at hl 1 rfl) ?_
  refine h_rdS (As := [.int (nI lv)]) (rest := []) hF (c_X2_needLevel l G hp lv (by omega)) 1 gX2_level_X2_needLevel rfl (by decide +kernel) ⟨Nat.le_of_ble_eq_true rfl, Nat.le_of_ble_eq_true rfl⟩ hK0 hV0 rfl hl.1 rfl (Nat.le_of_ble_eq_true rfl) (Nat.le_refl _) (Nat.le_refl _) dX2_level_1 ?_
  refine lv_iload_n hx hb dX2_level_4 rfl (lv_at hl 2 rfl) ?_
  refine h_if_lt (a := wh) (tgt := 13) hx hb dX2_level_5 (by decide) (by omega) ?_
  refine lv_iload_n hx hb dX2_level_8 rfl (lv_at hl 2 rfl) ?_
  refine lv_iconst (v := nI 3) hx hb dX2_level_9 (by decide) ?_
  refine h_icmp_lt (a := wh) (b := 3) (tgt := 23) hx hb dX2_level_10 (by decide) (by omega) (by omega) (fun c_10 => ?_) (fun c_10 => absurd hw3 c_10)
  refine lv_iload_n hx hb dX2_level_23 rfl (lv_at hl 2 rfl) ?_
  rcases (show wh = 0 ∨ wh = 1 ∨ wh = 2 by omega) with hq | hq | hq
  · subst hq
    refine lv_lookup (off := 28) (tgt := 52) hx hb dX2_level_24 (by decide) (by decide) (by decide) ?_
    refine lv_aload_n hx hb dX2_level_52 rfl (lv_at hl 0 rfl) ?_
    refine h_get (v := .ref (aB ad 0)) hx hb hts hi2 hown hK0 hV0 hC.xo rfl 1 (by decide) hw0 rfl dX2_level_53 ?_
    refine lv_iload_n hx hb dX2_level_56 rfl (lv_at hl 1 rfl) ?_
    refine h_rdV (As := [.int (nI lv)]) (rest := []) hF (c_X0_runsOf l G hp ad S hC 0 (by decide) lv (by omega)) 1 gX2_level_X0_runsOf rfl (by decide +kernel) ⟨Nat.le_of_ble_eq_true rfl, Nat.le_of_ble_eq_true rfl⟩ hK0 hV0 (hC.bo (by decide)) rfl rfl rfl hl.1 rfl (Nat.le_of_ble_eq_true rfl) (Nat.le_refl _) (Nat.le_refl _) dX2_level_57 ?_
    exact h_iretR hx hb hr hlocks rfl dX2_level_60
  · subst hq
    refine lv_lookup (off := 37) (tgt := 61) hx hb dX2_level_24 (by decide) (by decide) (by decide) ?_
    refine lv_aload_n hx hb dX2_level_61 rfl (lv_at hl 0 rfl) ?_
    refine h_get (v := .ref (aB ad 0)) hx hb hts hi2 hown hK0 hV0 hC.xo rfl 1 (by decide) hw0 rfl dX2_level_62 ?_
    refine lv_iload_n hx hb dX2_level_65 rfl (lv_at hl 1 rfl) ?_
    refine h_rdV (As := [.int (nI lv)]) (rest := []) hF (c_X0_slipsOf l G hp ad S hC 0 (by decide) lv (by omega)) 1 gX2_level_X0_slipsOf rfl (by decide +kernel) ⟨Nat.le_of_ble_eq_true rfl, Nat.le_of_ble_eq_true rfl⟩ hK0 hV0 (hC.bo (by decide)) rfl rfl rfl hl.1 rfl (Nat.le_of_ble_eq_true rfl) (Nat.le_refl _) (Nat.le_refl _) dX2_level_66 ?_
    exact h_iretR hx hb hr hlocks rfl dX2_level_69
  · subst hq
    refine lv_lookup (off := 46) (tgt := 70) hx hb dX2_level_24 (by decide) (by decide) (by decide) ?_
    refine lv_aload_n hx hb dX2_level_70 rfl (lv_at hl 0 rfl) ?_
    refine h_get (v := .ref (aB ad 0)) hx hb hts hi2 hown hK0 hV0 hC.xo rfl 1 (by decide) hw0 rfl dX2_level_71 ?_
    refine lv_iload_n hx hb dX2_level_74 rfl (lv_at hl 1 rfl) ?_
    refine h_rdV (As := [.int (nI lv)]) (rest := []) hF (c_X0_tombsOf l G hp ad S hC 0 (by decide) lv (by omega)) 1 gX2_level_X0_tombsOf rfl (by decide +kernel) ⟨Nat.le_of_ble_eq_true rfl, Nat.le_of_ble_eq_true rfl⟩ hK0 hV0 (hC.bo (by decide)) rfl rfl rfl hl.1 rfl (Nat.le_of_ble_eq_true rfl) (Nat.le_refl _) (Nat.le_refl _) dX2_level_75 ?_
    exact h_iretR hx hb hr hlocks rfl dX2_level_78

set_option maxHeartbeats 1000000 in
set_option maxRecDepth 100000 in
theorem c_X2_count (l : Launch) (G : hG) (hp : HP) (ad : Nat → Nat) (S : CS) (hC : cW ad S hp) (wh : Nat) (hw7 : wh < 7) : hRd l yX2_count wsX2_count 6 135 G hp [.ref (aX ad), .int (nI wh)] (some (.int (tlS (sF S 0) (sN S 0) (gC S 0) (sR S) (sV S 0) (sD S) (sG S 0) wh))) := by
  refine Met.ofW (cc := cX2_count) (maxL := 2) (ret := (some .int)) (by decide) rfl ?_
  intro p e s m args below meth c s₁ B hml hv
  obtain ⟨rfl, hV0, hK0⟩ := hv
  have hx := B.exec
  have hb := B.bytes
  have hr := B.returns
  have hts := atoms_spec (ws := wsX2_count) B.pre
  have hown : s.vm.findClass RX2 = some m.cls := findClass_of_methodNamed B.named
  have hlocks := B.notSynchronized
  have hF : CallFix p m c cX2_count 2 s [.ref (aX ad), .int (nI wh)].toArray wsX2_count RX2 := ⟨hx, hb, hml, hown, hts⟩
  have hl := lv_entry ([.ref (aX ad), .int (nI wh)]) (n := 2) (Nat.le_of_ble_eq_true rfl)
  rw [lg_entry_eq]
  generalize (lg_sl ([.ref (aX ad), .int (nI wh)]) ++ List.replicate (2 - (lg_sl ([.ref (aX ad), .int (nI wh)])).length) Slot.unset).toArray = ls at hl ⊢
  replace hl : lv_has ls 2 [(0, .ref (aX ad)), (1, .int (nI wh))] := hl
  refine lv_iload_n hx hb dX2_count_0 rfl (lv_at hl 1 rfl) ?_
  refine h_if_lt (a := wh) (tgt := 10) hx hb dX2_count_1 (by decide) (by omega) ?_
  refine lv_iload_n hx hb dX2_count_4 rfl (lv_at hl 1 rfl) ?_
  refine lv_bipush (v := nI 7) hx hb dX2_count_5 (by decide) ?_
  refine h_icmp_lt (a := wh) (b := 7) (tgt := 20) hx hb dX2_count_7 (by decide) (by omega) (by omega) (fun c_7 => ?_) (fun c_7 => absurd hw7 c_7)
  refine lv_aload_n hx hb dX2_count_20 rfl (lv_at hl 0 rfl) ?_
  refine lv_iload_n hx hb dX2_count_21 rfl (lv_at hl 1 rfl) ?_
  refine h_rdV (As := [.int (nI wh)]) (rest := []) hF (c_X2_tally l G hp ad S hC wh (by omega)) 1 gX2_count_X2_tally rfl (by decide +kernel) ⟨Nat.le_of_ble_eq_true rfl, Nat.le_of_ble_eq_true rfl⟩ hK0 hV0 hC.xo rfl rfl rfl hl.1 rfl (Nat.le_of_ble_eq_true rfl) (Nat.le_refl _) (Nat.le_refl _) dX2_count_22 ?_
  exact h_iretR hx hb hr hlocks (by first | rfl | assumption) dX2_count_25

set_option maxHeartbeats 1000000 in
set_option maxRecDepth 100000 in
theorem c_X2_mean (l : Launch) (G : hG) (hp : HP) (ad : Nat → Nat) (S : CS) (hC : cW ad S hp) : hRd l yX2_mean wsX2_mean 5 112 G hp [.ref (aX ad)] (some (.double (mnV (allD (sF S 0) (sN S 0) (gC S 0))))) := by
  refine Met.ofW (cc := cX2_mean) (maxL := 1) (ret := (some .double)) (by decide) rfl ?_
  intro p e s m args below meth c s₁ B hml hv
  obtain ⟨rfl, hV0, hK0⟩ := hv
  have hx := B.exec
  have hb := B.bytes
  have hr := B.returns
  have hts := atoms_spec (ws := wsX2_mean) B.pre
  have hown : s.vm.findClass RX2 = some m.cls := findClass_of_methodNamed B.named
  have hlocks := B.notSynchronized
  have hF : CallFix p m c cX2_mean 1 s [.ref (aX ad)].toArray wsX2_mean RX2 := ⟨hx, hb, hml, hown, hts⟩
  have hw0 := hts (.fieldLink RX2 19 "SlipLevels" "binder" "LSlipLevels$Binder;") (by decide +kernel)
  have hw1 := hts (.constantDouble RX2 132 (4634204016564240384)) (by decide +kernel)
  have hi2 : ∀ w ∈ u_ws RX2 TX2 5, w ∈ wsX2_mean := by
    intro w h
    unfold wsX2_mean
    simp only [List.mem_cons, List.mem_append, h, true_or, or_true]
  have hl := lv_entry ([.ref (aX ad)]) (n := 1) (Nat.le_of_ble_eq_true rfl)
  rw [lg_entry_eq]
  generalize (lg_sl ([.ref (aX ad)]) ++ List.replicate (1 - (lg_sl ([.ref (aX ad)])).length) Slot.unset).toArray = ls at hl ⊢
  replace hl : lv_has ls 1 [(0, .ref (aX ad))] := hl
  have hle := allD_le (d := sF S 0) (g := gC S 0) (hC.ok.2.1 0)
  have hnan := (mnV_ok ⟨allD (sF S 0) (sN S 0) (gC S 0), by omega⟩).1
  refine lv_aload_n hx hb dX2_mean_0 rfl (lv_at hl 0 rfl) ?_
  refine lv_aload_n hx hb dX2_mean_1 rfl (lv_at hl 0 rfl) ?_
  refine h_get (v := .ref (aB ad 0)) hx hb hts hi2 hown hK0 hV0 hC.xo rfl 1 (by decide) hw0 rfl dX2_mean_2 ?_
  refine h_rdV (As := [.ref (aB ad 0)]) (rest := []) hF (c_X2_allDetoursIn l G hp ad S hC 0 (by decide)) 1 gX2_mean_X2_allDetoursIn rfl (by decide +kernel) ⟨Nat.le_of_ble_eq_true rfl, Nat.le_of_ble_eq_true rfl⟩ hK0 hV0 hC.xo rfl rfl rfl hl.1 rfl (Nat.le_of_ble_eq_true rfl) (Nat.le_refl _) (Nat.le_refl _) dX2_mean_5 ?_
  refine lv_i2d hx hb dX2_mean_8 ?_
  refine lv_ldc2d hx hb hown hw1 dX2_mean_9 ?_
  refine lv_ddiv hx hb dX2_mean_12 hnan ?_
  exact h_dretR hx hb hr hlocks (by first | rfl | assumption) dX2_mean_13
