/-! the model: what it tells -/
theorem mx0 (v : Int32) : (if nI 0 < v then v else nI 0) = (if v < nI 0 then nI 0 else v) := by
  by_cases h : v < nI 0
  · rw [if_pos h, if_neg (fun z => absurd (Int32.lt_trans h z) Int32.lt_irrefl)]
  · rw [if_neg h]
    by_cases h2 : nI 0 < v
    · rw [if_pos h2]
    · rw [if_neg h2]
      exact Int32.le_antisymm (Int32.not_lt.mp h) (Int32.not_lt.mp h2)
theorem wd_lt {d : Row} {n : Nat → Nat} {g : LV} {x : Nat} (h : wdS d n g x = -1) : wdS d n g x < 0 := by rw [h]; decide
theorem wd_ge {d : Row} {n : Nat → Nat} {g : LV} {x : Nat} (h : ¬ wdS d n g x = -1) : ¬ wdS d n g x < 0 := Int32.not_lt.mpr (of_decide_eq_true (wd_nn h))
theorem cnt_n {v : Int32} (h : v < 0 ∨ nI 7 ≤ v) : (decide (nI 0 ≤ v) && decide (v ≤ nI 6)) = false := isN_n (c := 6) h (by omega)

set_option maxHeartbeats 1000000 in
set_option maxRecDepth 100000 in
theorem c_X3_detoursN (l : Launch) (G : hG) (A : Nat → Prop) (hp : HP) (X : Nat → Prop) (mo dk lv nb : Nat) (lvl : Nat → Nat) (row : Nat → Nat → Nat) (th : Int32) (d : Row) (V : BV) (rm dt : Int32) (hm : mA mo dk lv nb lvl row th d V rm dt hp) (hX : mX X mo dk lv nb hp) (hD : mD dk row V) (x : Int32) (hb0 : x < 0 ∨ nI 64 ≤ x) (hA0 : hIn A hp) : hWr l yX3_detours wsX3_detours 2 42 0 0 G A hp [.ref mo, .int x] (fun ro hp' => ro = some (.int (nI 0)) ∧ mP X mo (nI 1) d V rm dt hp hp') := by
  refine Met.ofW (cc := cX3_detours) (maxL := 2) (ret := (some .int)) (by decide) rfl ?_
  intro p e s m args below meth c s₁ B hml hv
  obtain ⟨rfl, hV0, hK0, hA⟩ := hv
  have hx := B.exec
  have hb := B.bytes
  have hr := B.returns
  have hts := atoms_spec (ws := wsX3_detours) B.pre
  have hown : s.vm.findClass RX3 = some m.cls := findClass_of_methodNamed B.named
  have hlocks := B.notSynchronized
  have hF : CallFix p m c cX3_detours 2 s [.ref mo, .int x].toArray wsX3_detours RX3 := ⟨hx, hb, hml, hown, hts⟩
  have hw0 := hts (.fieldLink RX3 27 "SlipLevelsModel" "thrown" "I") (by decide +kernel)
  have hi3 : ∀ w ∈ u_ws RX3 TX3 4, w ∈ wsX3_detours := by
    intro w h
    unfold wsX3_detours
    simp only [List.mem_cons, List.mem_append, h, true_or, or_true]
  have hS : va_S A s.heap s.heap [] := va_S.rf
  have hl := lv_entry ([.ref mo, .int x]) (n := 2) (Nat.le_of_ble_eq_true rfl)
  rw [lg_entry_eq]
  generalize (lg_sl ([.ref mo, .int x]) ++ List.replicate (2 - (lg_sl ([.ref mo, .int x])).length) Slot.unset).toArray = ls at hl ⊢
  replace hl : lv_has ls 2 [(0, .ref mo), (1, .int x)] := hl
  have hn := hm.le
  have hK : mKp X hp hp := mKp.rf
  refine lv_aload_n hx hb dX3_detours_0 rfl (lv_at hl 0 rfl) ?_
  refine lv_iconst (v := nI 0) hx hb dX3_detours_1 (by decide) ?_
  refine h_put (v := .int (nI 0)) hx hb hts hi3 tyX3 tyX3_ok nmX3 hown hK0 hV0 hA0 hS hm.cmo rfl 0 (by decide) hw0 rfl (by rfl) (by rfl) (Nat.le_of_ble_eq_true rfl) dX3_detours_2 (fun H locs hV0 hA0 hS => ?_)
  have hm : mA mo dk lv nb lvl row ((nI 0)) d V rm dt (hput hp mo (eO 3 [.int (nI 0), .ref dk, .ref lv, .ref nb])) := hm.setTh (nI 0)
  have hX : mX X mo dk lv nb (hput hp mo (eO 3 [.int (nI 0), .ref dk, .ref lv, .ref nb])) := hX.put _ _
  have hK : mKp X hp (hput hp mo (eO 3 [.int (nI 0), .ref dk, .ref lv, .ref nb])) := hK.put hX.1.1
  have hn := hm.le
  refine lv_iload_n hx hb dX3_detours_5 rfl (lv_at hl 1 rfl) ?_
  refine h_rdS (As := [.int x]) (rest := []) hF (c_X3_isNumber l G (hput hp mo (eO 3 [.int (nI 0), .ref dk, .ref lv, .ref nb])) (x)) 1 gX3_detours_X3_isNumber rfl (by decide +kernel) ⟨Nat.le_of_ble_eq_true rfl, Nat.le_of_ble_eq_true rfl⟩ hK0 hV0 rfl hl.1 rfl (Nat.le_of_ble_eq_true rfl) (Nat.le_of_ble_eq_true rfl) (Nat.le_of_ble_eq_true rfl) dX3_detours_6 ?_
  refine h_if_eqB (tgt := 20) hx hb dX3_detours_9 (by decide) (fun c_9 => ?_) (fun c_9 => absurd ((isN_n (c := 63) hb0 (by omega)).symm.trans c_9) (by decide))
  refine lv_aload_n hx hb dX3_detours_20 rfl (lv_at hl 0 rfl) ?_
  refine lv_iconst (v := nI 1) hx hb dX3_detours_21 (by decide) ?_
  refine h_wrV (As := [.int (nI 1)]) (rest := []) hF (c_X3_fail l G A (hput hp mo (eO 3 [.int (nI 0), .ref dk, .ref lv, .ref nb])) X mo dk lv nb lvl row ((nI 0)) d V rm dt hm hX 1 hD hA0) 1 gX3_detours_X3_fail rfl (by decide +kernel) ⟨Nat.le_of_ble_eq_true rfl, Nat.le_of_ble_eq_true rfl⟩ hK0 hV0 hA hS hm.cmo rfl rfl rfl hl.1 rfl (Nat.le_of_ble_eq_true rfl) ⟨Nat.le_of_ble_eq_true rfl, Nat.le_of_ble_eq_true rfl⟩ dX3_detours_22 (fun ro hp1 H locs hP1 hV0 hA0 hS => ?_)
  obtain ⟨rfl, lvl2, row2, hm2, hX2, hD2, hK2⟩ := hP1
  exact W.iret hx hb hr (h_qW ⟨rfl, dk, lv, nb, lvl2, row2, hm2, hX2, hD2, hK.tr hK2⟩ hV0 hA0 hS) hS.2.2 dX3_detours_25 hlocks

set_option maxHeartbeats 1000000 in
set_option maxRecDepth 100000 in
theorem c_X3_detours (l : Launch) (G : hG) (A : Nat → Prop) (hp : HP) (X : Nat → Prop) (mo dk lv nb : Nat) (lvl : Nat → Nat) (row : Nat → Nat → Nat) (th : Int32) (d : Row) (V : BV) (rm dt : Int32) (hm : mA mo dk lv nb lvl row th d V rm dt hp) (hX : mX X mo dk lv nb hp) (hD : mD dk row V) (x : Nat) (hx6 : x < 64) (hA0 : hIn A hp) : hWr l yX3_detours wsX3_detours 2 53 0 0 G A hp [.ref mo, .int (nI x)] (fun ro hp' => ro = some (.int (nI (dtS d (bN V) (bG V) x))) ∧ mP X mo (nI 0) d V rm dt hp hp') := by
  refine Met.ofW (cc := cX3_detours) (maxL := 2) (ret := (some .int)) (by decide) rfl ?_
  intro p e s m args below meth c s₁ B hml hv
  obtain ⟨rfl, hV0, hK0, hA⟩ := hv
  have hx := B.exec
  have hb := B.bytes
  have hr := B.returns
  have hts := atoms_spec (ws := wsX3_detours) B.pre
  have hown : s.vm.findClass RX3 = some m.cls := findClass_of_methodNamed B.named
  have hlocks := B.notSynchronized
  have hF : CallFix p m c cX3_detours 2 s [.ref mo, .int (nI x)].toArray wsX3_detours RX3 := ⟨hx, hb, hml, hown, hts⟩
  have hw0 := hts (.fieldLink RX3 27 "SlipLevelsModel" "thrown" "I") (by decide +kernel)
  have hi3 : ∀ w ∈ u_ws RX3 TX3 4, w ∈ wsX3_detours := by
    intro w h
    unfold wsX3_detours
    simp only [List.mem_cons, List.mem_append, h, true_or, or_true]
  have hS : va_S A s.heap s.heap [] := va_S.rf
  have hl := lv_entry ([.ref mo, .int (nI x)]) (n := 2) (Nat.le_of_ble_eq_true rfl)
  rw [lg_entry_eq]
  generalize (lg_sl ([.ref mo, .int (nI x)]) ++ List.replicate (2 - (lg_sl ([.ref mo, .int (nI x)])).length) Slot.unset).toArray = ls at hl ⊢
  replace hl : lv_has ls 2 [(0, .ref mo), (1, .int (nI x))] := hl
  have hn := hm.le
  have hK : mKp X hp hp := mKp.rf
  refine lv_aload_n hx hb dX3_detours_0 rfl (lv_at hl 0 rfl) ?_
  refine lv_iconst (v := nI 0) hx hb dX3_detours_1 (by decide) ?_
  refine h_put (v := .int (nI 0)) hx hb hts hi3 tyX3 tyX3_ok nmX3 hown hK0 hV0 hA0 hS hm.cmo rfl 0 (by decide) hw0 rfl (by rfl) (by rfl) (Nat.le_of_ble_eq_true rfl) dX3_detours_2 (fun H locs hV0 hA0 hS => ?_)
  have hm : mA mo dk lv nb lvl row ((nI 0)) d V rm dt (hput hp mo (eO 3 [.int (nI 0), .ref dk, .ref lv, .ref nb])) := hm.setTh (nI 0)
  have hX : mX X mo dk lv nb (hput hp mo (eO 3 [.int (nI 0), .ref dk, .ref lv, .ref nb])) := hX.put _ _
  have hK : mKp X hp (hput hp mo (eO 3 [.int (nI 0), .ref dk, .ref lv, .ref nb])) := hK.put hX.1.1
  have hn := hm.le
  refine lv_iload_n hx hb dX3_detours_5 rfl (lv_at hl 1 rfl) ?_
  refine h_rdS (As := [.int (nI x)]) (rest := []) hF (c_X3_isNumber l G (hput hp mo (eO 3 [.int (nI 0), .ref dk, .ref lv, .ref nb])) (nI x)) 1 gX3_detours_X3_isNumber rfl (by decide +kernel) ⟨Nat.le_of_ble_eq_true rfl, Nat.le_of_ble_eq_true rfl⟩ hK0 hV0 rfl hl.1 rfl (Nat.le_of_ble_eq_true rfl) (Nat.le_of_ble_eq_true rfl) (Nat.le_of_ble_eq_true rfl) dX3_detours_6 ?_
  refine h_if_eqB (tgt := 20) hx hb dX3_detours_9 (by decide) (fun c_9 => absurd ((isN_y (x := x) (c := 63) (by omega) (by omega)).symm.trans c_9) (by decide)) (fun c_9 => ?_)
  refine lv_aload_n hx hb dX3_detours_12 rfl (lv_at hl 0 rfl) ?_
  refine lv_iload_n hx hb dX3_detours_13 rfl (lv_at hl 1 rfl) ?_
  refine h_rdV (As := [.int (nI x)]) (rest := []) hF (c_X3_opened l G (hput hp mo (eO 3 [.int (nI 0), .ref dk, .ref lv, .ref nb])) mo dk lv nb lvl row ((nI 0)) d V rm dt hm x (by omega)) 1 gX3_detours_X3_opened rfl (by decide +kernel) ⟨Nat.le_of_ble_eq_true rfl, Nat.le_of_ble_eq_true rfl⟩ hK0 hV0 hm.cmo rfl rfl rfl hl.1 rfl (Nat.le_of_ble_eq_true rfl) (Nat.le_of_ble_eq_true rfl) (Nat.le_of_ble_eq_true rfl) dX3_detours_14 ?_
  refine lv_goto (tgt := 25) hx hb dX3_detours_17 (by decide) ?_
  exact W.iret hx hb hr (h_qW ⟨rfl, dk, lv, nb, lvl, row, hm, hX, hD, hK⟩ hV0 hA0 hS) hS.2.2 dX3_detours_25 hlocks

set_option maxHeartbeats 1000000 in
set_option maxRecDepth 100000 in
theorem c_X3_nextN (l : Launch) (G : hG) (A : Nat → Prop) (hp : HP) (X : Nat → Prop) (mo dk lv nb : Nat) (lvl : Nat → Nat) (row : Nat → Nat → Nat) (th : Int32) (d : Row) (V : BV) (rm dt : Int32) (hm : mA mo dk lv nb lvl row th d V rm dt hp) (hX : mX X mo dk lv nb hp) (hD : mD dk row V) (x : Int32) (hb0 : x < 0 ∨ nI 64 ≤ x) (hA0 : hIn A hp) : hWr l yX3_next wsX3_next 2 42 0 0 G A hp [.ref mo, .int x] (fun ro hp' => ro = some (.int (nI 0)) ∧ mP X mo (nI 1) d V rm dt hp hp') := by
  refine Met.ofW (cc := cX3_next) (maxL := 3) (ret := (some .int)) (by decide) rfl ?_
  intro p e s m args below meth c s₁ B hml hv
  obtain ⟨rfl, hV0, hK0, hA⟩ := hv
  have hx := B.exec
  have hb := B.bytes
  have hr := B.returns
  have hts := atoms_spec (ws := wsX3_next) B.pre
  have hown : s.vm.findClass RX3 = some m.cls := findClass_of_methodNamed B.named
  have hlocks := B.notSynchronized
  have hF : CallFix p m c cX3_next 3 s [.ref mo, .int x].toArray wsX3_next RX3 := ⟨hx, hb, hml, hown, hts⟩
  have hw0 := hts (.fieldLink RX3 27 "SlipLevelsModel" "thrown" "I") (by decide +kernel)
  have hi3 : ∀ w ∈ u_ws RX3 TX3 4, w ∈ wsX3_next := by
    intro w h
    unfold wsX3_next
    simp only [List.mem_cons, List.mem_append, h, true_or, or_true]
  have hS : va_S A s.heap s.heap [] := va_S.rf
  have hl := lv_entry ([.ref mo, .int x]) (n := 3) (Nat.le_of_ble_eq_true rfl)
  rw [lg_entry_eq]
  generalize (lg_sl ([.ref mo, .int x]) ++ List.replicate (3 - (lg_sl ([.ref mo, .int x])).length) Slot.unset).toArray = ls at hl ⊢
  replace hl : lv_has ls 3 [(0, .ref mo), (1, .int x)] := hl
  have hn := hm.le
  have hK : mKp X hp hp := mKp.rf
  refine lv_aload_n hx hb dX3_next_0 rfl (lv_at hl 0 rfl) ?_
  refine lv_iconst (v := nI 0) hx hb dX3_next_1 (by decide) ?_
  refine h_put (v := .int (nI 0)) hx hb hts hi3 tyX3 tyX3_ok nmX3 hown hK0 hV0 hA0 hS hm.cmo rfl 0 (by decide) hw0 rfl (by rfl) (by rfl) (Nat.le_of_ble_eq_true rfl) dX3_next_2 (fun H locs hV0 hA0 hS => ?_)
  have hm : mA mo dk lv nb lvl row ((nI 0)) d V rm dt (hput hp mo (eO 3 [.int (nI 0), .ref dk, .ref lv, .ref nb])) := hm.setTh (nI 0)
  have hX : mX X mo dk lv nb (hput hp mo (eO 3 [.int (nI 0), .ref dk, .ref lv, .ref nb])) := hX.put _ _
  have hK : mKp X hp (hput hp mo (eO 3 [.int (nI 0), .ref dk, .ref lv, .ref nb])) := hK.put hX.1.1
  have hn := hm.le
  refine lv_iload_n hx hb dX3_next_5 rfl (lv_at hl 1 rfl) ?_
  refine h_rdS (As := [.int x]) (rest := []) hF (c_X3_isNumber l G (hput hp mo (eO 3 [.int (nI 0), .ref dk, .ref lv, .ref nb])) (x)) 1 gX3_next_X3_isNumber rfl (by decide +kernel) ⟨Nat.le_of_ble_eq_true rfl, Nat.le_of_ble_eq_true rfl⟩ hK0 hV0 rfl hl.1 rfl (Nat.le_of_ble_eq_true rfl) (Nat.le_of_ble_eq_true rfl) (Nat.le_of_ble_eq_true rfl) dX3_next_6 ?_
  refine h_if_neB (tgt := 18) hx hb dX3_next_9 (by decide) (fun c_9 => absurd ((isN_n (c := 63) hb0 (by omega)).symm.trans c_9) (by decide)) (fun c_9 => ?_)
  refine lv_aload_n hx hb dX3_next_12 rfl (lv_at hl 0 rfl) ?_
  refine lv_iconst (v := nI 1) hx hb dX3_next_13 (by decide) ?_
  refine h_wrV (As := [.int (nI 1)]) (rest := []) hF (c_X3_fail l G A (hput hp mo (eO 3 [.int (nI 0), .ref dk, .ref lv, .ref nb])) X mo dk lv nb lvl row ((nI 0)) d V rm dt hm hX 1 hD hA0) 1 gX3_next_X3_fail rfl (by decide +kernel) ⟨Nat.le_of_ble_eq_true rfl, Nat.le_of_ble_eq_true rfl⟩ hK0 hV0 hA hS hm.cmo rfl rfl rfl hl.1 rfl (Nat.le_of_ble_eq_true rfl) ⟨Nat.le_of_ble_eq_true rfl, Nat.le_of_ble_eq_true rfl⟩ dX3_next_14 (fun ro hp1 H locs hP1 hV0 hA0 hS => ?_)
  obtain ⟨rfl, lvl2, row2, hm2, hX2, hD2, hK2⟩ := hP1
  exact W.iret hx hb hr (h_qW ⟨rfl, dk, lv, nb, lvl2, row2, hm2, hX2, hD2, hK.tr hK2⟩ hV0 hA0 hS) hS.2.2 dX3_next_17 hlocks

set_option maxHeartbeats 1000000 in
set_option maxRecDepth 100000 in
theorem c_X3_next (l : Launch) (G : hG) (A : Nat → Prop) (hp : HP) (X : Nat → Prop) (mo dk lv nb : Nat) (lvl : Nat → Nat) (row : Nat → Nat → Nat) (th : Int32) (d : Row) (V : BV) (rm dt : Int32) (hm : mA mo dk lv nb lvl row th d V rm dt hp) (hX : mX X mo dk lv nb hp) (hD : mD dk row V) (x : Nat) (hx6 : x < 64) (hA0 : hIn A hp) : hWr l yX3_next wsX3_next 2 50 0 0 G A hp [.ref mo, .int (nI x)] (fun ro hp' => ro = some (.int (nxS (wdS d (bN V) (bG V)) x)) ∧ mP X mo (nI 0) d V rm dt hp hp') := by
  refine Met.ofW (cc := cX3_next) (maxL := 3) (ret := (some .int)) (by decide) rfl ?_
  intro p e s m args below meth c s₁ B hml hv
  obtain ⟨rfl, hV0, hK0, hA⟩ := hv
  have hx := B.exec
  have hb := B.bytes
  have hr := B.returns
  have hts := atoms_spec (ws := wsX3_next) B.pre
  have hown : s.vm.findClass RX3 = some m.cls := findClass_of_methodNamed B.named
  have hlocks := B.notSynchronized
  have hF : CallFix p m c cX3_next 3 s [.ref mo, .int (nI x)].toArray wsX3_next RX3 := ⟨hx, hb, hml, hown, hts⟩
  have hw0 := hts (.fieldLink RX3 27 "SlipLevelsModel" "thrown" "I") (by decide +kernel)
  have hi3 : ∀ w ∈ u_ws RX3 TX3 4, w ∈ wsX3_next := by
    intro w h
    unfold wsX3_next
    simp only [List.mem_cons, List.mem_append, h, true_or, or_true]
  have hS : va_S A s.heap s.heap [] := va_S.rf
  have hl := lv_entry ([.ref mo, .int (nI x)]) (n := 3) (Nat.le_of_ble_eq_true rfl)
  rw [lg_entry_eq]
  generalize (lg_sl ([.ref mo, .int (nI x)]) ++ List.replicate (3 - (lg_sl ([.ref mo, .int (nI x)])).length) Slot.unset).toArray = ls at hl ⊢
  replace hl : lv_has ls 3 [(0, .ref mo), (1, .int (nI x))] := hl
  have hn := hm.le
  have hK : mKp X hp hp := mKp.rf
  refine lv_aload_n hx hb dX3_next_0 rfl (lv_at hl 0 rfl) ?_
  refine lv_iconst (v := nI 0) hx hb dX3_next_1 (by decide) ?_
  refine h_put (v := .int (nI 0)) hx hb hts hi3 tyX3 tyX3_ok nmX3 hown hK0 hV0 hA0 hS hm.cmo rfl 0 (by decide) hw0 rfl (by rfl) (by rfl) (Nat.le_of_ble_eq_true rfl) dX3_next_2 (fun H locs hV0 hA0 hS => ?_)
  have hm : mA mo dk lv nb lvl row ((nI 0)) d V rm dt (hput hp mo (eO 3 [.int (nI 0), .ref dk, .ref lv, .ref nb])) := hm.setTh (nI 0)
  have hX : mX X mo dk lv nb (hput hp mo (eO 3 [.int (nI 0), .ref dk, .ref lv, .ref nb])) := hX.put _ _
  have hK : mKp X hp (hput hp mo (eO 3 [.int (nI 0), .ref dk, .ref lv, .ref nb])) := hK.put hX.1.1
  have hn := hm.le
  refine lv_iload_n hx hb dX3_next_5 rfl (lv_at hl 1 rfl) ?_
  refine h_rdS (As := [.int (nI x)]) (rest := []) hF (c_X3_isNumber l G (hput hp mo (eO 3 [.int (nI 0), .ref dk, .ref lv, .ref nb])) (nI x)) 1 gX3_next_X3_isNumber rfl (by decide +kernel) ⟨Nat.le_of_ble_eq_true rfl, Nat.le_of_ble_eq_true rfl⟩ hK0 hV0 rfl hl.1 rfl (Nat.le_of_ble_eq_true rfl) (Nat.le_of_ble_eq_true rfl) (Nat.le_of_ble_eq_true rfl) dX3_next_6 ?_
  refine h_if_neB (tgt := 18) hx hb dX3_next_9 (by decide) (fun c_9 => ?_) (fun c_9 => absurd ((isN_y (x := x) (c := 63) (by omega) (by omega)).symm.trans c_9) (by decide))
  refine lv_iload_n hx hb dX3_next_18 rfl (lv_at hl 1 rfl) ?_
  refine lv_istore_n (lv' := [(2, .int (nI x)), (0, .ref mo), (1, .int (nI x))]) hx hb dX3_next_19 rfl hl (by decide) rfl (fun ls hl => ?_)
  replace hl : lv_has ls 3 [(2, .int (nI x)), (0, .ref mo), (1, .int (nI x))] := lv_sub hl [0, 1, 2] rfl
  revert ls
  refine h_loop 64 (fun i => [(2, .int (nI i)), (0, .ref mo), (1, .int (nI x))]) (fun i => nxW (wdS d (bN V) (bG V)) (64 - i) i = nxS (wdS d (bN V) (bG V)) x) (fun i hi20 hI20 ih20 ls hl => ?_) x (by omega) rfl
  refine lv_iload_n hx hb dX3_next_20 rfl (lv_at hl 0 rfl) ?_
  refine lv_bipush (v := nI 64) hx hb dX3_next_21 (by decide) ?_
  refine h_icmp_ge (a := i) (b := 64) (tgt := 43) hx hb dX3_next_23 (by decide) (by omega) (by omega) (fun c_23 => ?_) (fun c_23 => ?_)
  · refine lv_iconst (v := (-1)) hx hb dX3_next_43 (by decide) ?_
    exact W.iret hx hb hr (h_qW ⟨by rw [← hI20, show i = 64 by omega]; rfl, dk, lv, nb, lvl, row, hm, hX, hD, hK⟩ hV0 hA0 hS) hS.2.2 dX3_next_44 hlocks
  · have hiq : i < 64 := by omega
    refine lv_aload_n hx hb dX3_next_26 rfl (lv_at hl 1 rfl) ?_
    refine lv_iload_n hx hb dX3_next_27 rfl (lv_at hl 0 rfl) ?_
    refine h_rdV (As := [.int (nI i)]) (rest := []) hF (c_X3_word l G (hput hp mo (eO 3 [.int (nI 0), .ref dk, .ref lv, .ref nb])) mo dk lv nb lvl row ((nI 0)) d V rm dt hm i (by omega)) 1 gX3_next_X3_word rfl (by decide +kernel) ⟨Nat.le_of_ble_eq_true rfl, Nat.le_of_ble_eq_true rfl⟩ hK0 hV0 hm.cmo rfl rfl rfl hl.1 rfl (Nat.le_of_ble_eq_true rfl) (Nat.le_of_ble_eq_true rfl) (Nat.le_of_ble_eq_true rfl) dX3_next_28 ?_
    refine lv_iconst (v := (-1)) hx hb dX3_next_31 (by decide) ?_
    refine lv_icmp_eq (tgt := 37) hx hb dX3_next_32 (by decide) (fun c_32 => ?_) (fun c_32 => ?_)
    · refine lv_iinc (v := nI (i + 1)) (lv' := [(2, .int (nI (i + 1))), (0, .ref mo), (1, .int (nI x))]) hx hb dX3_next_37 hl (k := 0) rfl (nI_add (i) 1) (by decide) rfl (fun ls hl => ?_)
      refine lv_goto (tgt := 20) hx hb dX3_next_40 (by decide) ?_
      exact ih20 (by omega) ((nxW_n hiq (wd_lt c_32)).trans hI20) ls (lv_sub hl [0, 1, 2] rfl)
    · refine lv_iload_n hx hb dX3_next_35 rfl (lv_at hl 0 rfl) ?_
      exact W.iret hx hb hr (h_qW ⟨by rw [← hI20, ← nxW_y hiq (wd_ge c_32)], dk, lv, nb, lvl, row, hm, hX, hD, hK⟩ hV0 hA0 hS) hS.2.2 dX3_next_36 hlocks

set_option maxHeartbeats 1000000 in
set_option maxRecDepth 100000 in
theorem c_X3_sumA (l : Launch) (G : hG) (A : Nat → Prop) (hp : HP) (X : Nat → Prop) (mo dk lv nb : Nat) (lvl : Nat → Nat) (row : Nat → Nat → Nat) (th : Int32) (d : Row) (V : BV) (rm dt : Int32) (hm : mA mo dk lv nb lvl row th d V rm dt hp) (hX : mX X mo dk lv nb hp) (hD : mD dk row V) (y : Int32) (x : Int32) (hb0 : x < 0 ∨ nI 64 ≤ x) (hA0 : hIn A hp) : hWr l yX3_sum wsX3_sum 2 42 0 0 G A hp [.ref mo, .int x, .int y] (fun ro hp' => ro = some (.int (nI 0)) ∧ mP X mo (nI 1) d V rm dt hp hp') := by
  refine Met.ofW (cc := cX3_sum) (maxL := 5) (ret := (some .int)) (by decide) rfl ?_
  intro p e s m args below meth c s₁ B hml hv
  obtain ⟨rfl, hV0, hK0, hA⟩ := hv
  have hx := B.exec
  have hb := B.bytes
  have hr := B.returns
  have hts := atoms_spec (ws := wsX3_sum) B.pre
  have hown : s.vm.findClass RX3 = some m.cls := findClass_of_methodNamed B.named
  have hlocks := B.notSynchronized
  have hF : CallFix p m c cX3_sum 5 s [.ref mo, .int x, .int y].toArray wsX3_sum RX3 := ⟨hx, hb, hml, hown, hts⟩
  have hw0 := hts (.fieldLink RX3 27 "SlipLevelsModel" "thrown" "I") (by decide +kernel)
  have hi3 : ∀ w ∈ u_ws RX3 TX3 4, w ∈ wsX3_sum := by
    intro w h
    unfold wsX3_sum
    simp only [List.mem_cons, List.mem_append, h, true_or, or_true]
  have hS : va_S A s.heap s.heap [] := va_S.rf
  have hl := lv_entry ([.ref mo, .int x, .int y]) (n := 5) (Nat.le_of_ble_eq_true rfl)
  rw [lg_entry_eq]
  generalize (lg_sl ([.ref mo, .int x, .int y]) ++ List.replicate (5 - (lg_sl ([.ref mo, .int x, .int y])).length) Slot.unset).toArray = ls at hl ⊢
  replace hl : lv_has ls 5 [(0, .ref mo), (1, .int x), (2, .int y)] := hl
  have hn := hm.le
  have hK : mKp X hp hp := mKp.rf
  refine lv_aload_n hx hb dX3_sum_0 rfl (lv_at hl 0 rfl) ?_
  refine lv_iconst (v := nI 0) hx hb dX3_sum_1 (by decide) ?_
  refine h_put (v := .int (nI 0)) hx hb hts hi3 tyX3 tyX3_ok nmX3 hown hK0 hV0 hA0 hS hm.cmo rfl 0 (by decide) hw0 rfl (by rfl) (by rfl) (Nat.le_of_ble_eq_true rfl) dX3_sum_2 (fun H locs hV0 hA0 hS => ?_)
  have hm : mA mo dk lv nb lvl row ((nI 0)) d V rm dt (hput hp mo (eO 3 [.int (nI 0), .ref dk, .ref lv, .ref nb])) := hm.setTh (nI 0)
  have hX : mX X mo dk lv nb (hput hp mo (eO 3 [.int (nI 0), .ref dk, .ref lv, .ref nb])) := hX.put _ _
  have hK : mKp X hp (hput hp mo (eO 3 [.int (nI 0), .ref dk, .ref lv, .ref nb])) := hK.put hX.1.1
  have hn := hm.le
  refine lv_iload_n hx hb dX3_sum_5 rfl (lv_at hl 1 rfl) ?_
  refine h_rdS (As := [.int x]) (rest := []) hF (c_X3_isNumber l G (hput hp mo (eO 3 [.int (nI 0), .ref dk, .ref lv, .ref nb])) (x)) 1 gX3_sum_X3_isNumber rfl (by decide +kernel) ⟨Nat.le_of_ble_eq_true rfl, Nat.le_of_ble_eq_true rfl⟩ hK0 hV0 rfl hl.1 rfl (Nat.le_of_ble_eq_true rfl) (Nat.le_of_ble_eq_true rfl) (Nat.le_of_ble_eq_true rfl) dX3_sum_6 ?_
  refine h_if_eqB (tgt := 19) hx hb dX3_sum_9 (by decide) (fun c_9 => ?_) (fun c_9 => absurd ((isN_n (c := 63) hb0 (by omega)).symm.trans c_9) (by decide))
  refine lv_aload_n hx hb dX3_sum_19 rfl (lv_at hl 0 rfl) ?_
  refine lv_iconst (v := nI 1) hx hb dX3_sum_20 (by decide) ?_
  refine h_wrV (As := [.int (nI 1)]) (rest := []) hF (c_X3_fail l G A (hput hp mo (eO 3 [.int (nI 0), .ref dk, .ref lv, .ref nb])) X mo dk lv nb lvl row ((nI 0)) d V rm dt hm hX 1 hD hA0) 1 gX3_sum_X3_fail rfl (by decide +kernel) ⟨Nat.le_of_ble_eq_true rfl, Nat.le_of_ble_eq_true rfl⟩ hK0 hV0 hA hS hm.cmo rfl rfl rfl hl.1 rfl (Nat.le_of_ble_eq_true rfl) ⟨Nat.le_of_ble_eq_true rfl, Nat.le_of_ble_eq_true rfl⟩ dX3_sum_21 (fun ro hp1 H locs hP1 hV0 hA0 hS => ?_)
  obtain ⟨rfl, lvl2, row2, hm2, hX2, hD2, hK2⟩ := hP1
  exact W.iret hx hb hr (h_qW ⟨rfl, dk, lv, nb, lvl2, row2, hm2, hX2, hD2, hK.tr hK2⟩ hV0 hA0 hS) hS.2.2 dX3_sum_24 hlocks

set_option maxHeartbeats 1000000 in
set_option maxRecDepth 100000 in
theorem c_X3_sumB (l : Launch) (G : hG) (A : Nat → Prop) (hp : HP) (X : Nat → Prop) (mo dk lv nb : Nat) (lvl : Nat → Nat) (row : Nat → Nat → Nat) (th : Int32) (d : Row) (V : BV) (rm dt : Int32) (hm : mA mo dk lv nb lvl row th d V rm dt hp) (hX : mX X mo dk lv nb hp) (hD : mD dk row V) (x : Nat) (hx6 : x < 64) (y : Int32) (hb0 : y < 0 ∨ nI 64 ≤ y) (hA0 : hIn A hp) : hWr l yX3_sum wsX3_sum 2 42 0 0 G A hp [.ref mo, .int (nI x), .int y] (fun ro hp' => ro = some (.int (nI 0)) ∧ mP X mo (nI 1) d V rm dt hp hp') := by
  refine Met.ofW (cc := cX3_sum) (maxL := 5) (ret := (some .int)) (by decide) rfl ?_
  intro p e s m args below meth c s₁ B hml hv
  obtain ⟨rfl, hV0, hK0, hA⟩ := hv
  have hx := B.exec
  have hb := B.bytes
  have hr := B.returns
  have hts := atoms_spec (ws := wsX3_sum) B.pre
  have hown : s.vm.findClass RX3 = some m.cls := findClass_of_methodNamed B.named
  have hlocks := B.notSynchronized
  have hF : CallFix p m c cX3_sum 5 s [.ref mo, .int (nI x), .int y].toArray wsX3_sum RX3 := ⟨hx, hb, hml, hown, hts⟩
  have hw0 := hts (.fieldLink RX3 27 "SlipLevelsModel" "thrown" "I") (by decide +kernel)
  have hi3 : ∀ w ∈ u_ws RX3 TX3 4, w ∈ wsX3_sum := by
    intro w h
    unfold wsX3_sum
    simp only [List.mem_cons, List.mem_append, h, true_or, or_true]
  have hS : va_S A s.heap s.heap [] := va_S.rf
  have hl := lv_entry ([.ref mo, .int (nI x), .int y]) (n := 5) (Nat.le_of_ble_eq_true rfl)
  rw [lg_entry_eq]
  generalize (lg_sl ([.ref mo, .int (nI x), .int y]) ++ List.replicate (5 - (lg_sl ([.ref mo, .int (nI x), .int y])).length) Slot.unset).toArray = ls at hl ⊢
  replace hl : lv_has ls 5 [(0, .ref mo), (1, .int (nI x)), (2, .int y)] := hl
  have hn := hm.le
  have hK : mKp X hp hp := mKp.rf
  refine lv_aload_n hx hb dX3_sum_0 rfl (lv_at hl 0 rfl) ?_
  refine lv_iconst (v := nI 0) hx hb dX3_sum_1 (by decide) ?_
  refine h_put (v := .int (nI 0)) hx hb hts hi3 tyX3 tyX3_ok nmX3 hown hK0 hV0 hA0 hS hm.cmo rfl 0 (by decide) hw0 rfl (by rfl) (by rfl) (Nat.le_of_ble_eq_true rfl) dX3_sum_2 (fun H locs hV0 hA0 hS => ?_)
  have hm : mA mo dk lv nb lvl row ((nI 0)) d V rm dt (hput hp mo (eO 3 [.int (nI 0), .ref dk, .ref lv, .ref nb])) := hm.setTh (nI 0)
  have hX : mX X mo dk lv nb (hput hp mo (eO 3 [.int (nI 0), .ref dk, .ref lv, .ref nb])) := hX.put _ _
  have hK : mKp X hp (hput hp mo (eO 3 [.int (nI 0), .ref dk, .ref lv, .ref nb])) := hK.put hX.1.1
  have hn := hm.le
  refine lv_iload_n hx hb dX3_sum_5 rfl (lv_at hl 1 rfl) ?_
  refine h_rdS (As := [.int (nI x)]) (rest := []) hF (c_X3_isNumber l G (hput hp mo (eO 3 [.int (nI 0), .ref dk, .ref lv, .ref nb])) (nI x)) 1 gX3_sum_X3_isNumber rfl (by decide +kernel) ⟨Nat.le_of_ble_eq_true rfl, Nat.le_of_ble_eq_true rfl⟩ hK0 hV0 rfl hl.1 rfl (Nat.le_of_ble_eq_true rfl) (Nat.le_of_ble_eq_true rfl) (Nat.le_of_ble_eq_true rfl) dX3_sum_6 ?_
  refine h_if_eqB (tgt := 19) hx hb dX3_sum_9 (by decide) (fun c_9 => absurd ((isN_y (x := x) (c := 63) (by omega) (by omega)).symm.trans c_9) (by decide)) (fun c_9 => ?_)
  refine lv_iload_n hx hb dX3_sum_12 rfl (lv_at hl 2 rfl) ?_
  refine h_rdS (As := [.int y]) (rest := []) hF (c_X3_isNumber l G (hput hp mo (eO 3 [.int (nI 0), .ref dk, .ref lv, .ref nb])) (y)) 1 gX3_sum_X3_isNumber rfl (by decide +kernel) ⟨Nat.le_of_ble_eq_true rfl, Nat.le_of_ble_eq_true rfl⟩ hK0 hV0 rfl hl.1 rfl (Nat.le_of_ble_eq_true rfl) (Nat.le_of_ble_eq_true rfl) (Nat.le_of_ble_eq_true rfl) dX3_sum_13 ?_
  refine h_if_neB (tgt := 25) hx hb dX3_sum_16 (by decide) (fun c_16 => absurd ((isN_n (c := 63) hb0 (by omega)).symm.trans c_16) (by decide)) (fun c_16 => ?_)
  refine lv_aload_n hx hb dX3_sum_19 rfl (lv_at hl 0 rfl) ?_
  refine lv_iconst (v := nI 1) hx hb dX3_sum_20 (by decide) ?_
  refine h_wrV (As := [.int (nI 1)]) (rest := []) hF (c_X3_fail l G A (hput hp mo (eO 3 [.int (nI 0), .ref dk, .ref lv, .ref nb])) X mo dk lv nb lvl row ((nI 0)) d V rm dt hm hX 1 hD hA0) 1 gX3_sum_X3_fail rfl (by decide +kernel) ⟨Nat.le_of_ble_eq_true rfl, Nat.le_of_ble_eq_true rfl⟩ hK0 hV0 hA hS hm.cmo rfl rfl rfl hl.1 rfl (Nat.le_of_ble_eq_true rfl) ⟨Nat.le_of_ble_eq_true rfl, Nat.le_of_ble_eq_true rfl⟩ dX3_sum_21 (fun ro hp1 H locs hP1 hV0 hA0 hS => ?_)
  obtain ⟨rfl, lvl2, row2, hm2, hX2, hD2, hK2⟩ := hP1
  exact W.iret hx hb hr (h_qW ⟨rfl, dk, lv, nb, lvl2, row2, hm2, hX2, hD2, hK.tr hK2⟩ hV0 hA0 hS) hS.2.2 dX3_sum_24 hlocks

set_option maxHeartbeats 1000000 in
set_option maxRecDepth 100000 in
theorem c_X3_sumC (l : Launch) (G : hG) (A : Nat → Prop) (hp : HP) (X : Nat → Prop) (mo dk lv nb : Nat) (lvl : Nat → Nat) (row : Nat → Nat → Nat) (th : Int32) (d : Row) (V : BV) (rm dt : Int32) (hm : mA mo dk lv nb lvl row th d V rm dt hp) (hX : mX X mo dk lv nb hp) (hD : mD dk row V) (x y : Nat) (hx6 : x < 64) (hy6 : y < 64) (hxy : y < x) (hA0 : hIn A hp) : hWr l yX3_sum wsX3_sum 2 42 0 0 G A hp [.ref mo, .int (nI x), .int (nI y)] (fun ro hp' => ro = some (.int (nI 0)) ∧ mP X mo (nI 2) d V rm dt hp hp') := by
  refine Met.ofW (cc := cX3_sum) (maxL := 5) (ret := (some .int)) (by decide) rfl ?_
  intro p e s m args below meth c s₁ B hml hv
  obtain ⟨rfl, hV0, hK0, hA⟩ := hv
  have hx := B.exec
  have hb := B.bytes
  have hr := B.returns
  have hts := atoms_spec (ws := wsX3_sum) B.pre
  have hown : s.vm.findClass RX3 = some m.cls := findClass_of_methodNamed B.named
  have hlocks := B.notSynchronized
  have hF : CallFix p m c cX3_sum 5 s [.ref mo, .int (nI x), .int (nI y)].toArray wsX3_sum RX3 := ⟨hx, hb, hml, hown, hts⟩
  have hw0 := hts (.fieldLink RX3 27 "SlipLevelsModel" "thrown" "I") (by decide +kernel)
  have hi3 : ∀ w ∈ u_ws RX3 TX3 4, w ∈ wsX3_sum := by
    intro w h
    unfold wsX3_sum
    simp only [List.mem_cons, List.mem_append, h, true_or, or_true]
  have hS : va_S A s.heap s.heap [] := va_S.rf
  have hl := lv_entry ([.ref mo, .int (nI x), .int (nI y)]) (n := 5) (Nat.le_of_ble_eq_true rfl)
  rw [lg_entry_eq]
  generalize (lg_sl ([.ref mo, .int (nI x), .int (nI y)]) ++ List.replicate (5 - (lg_sl ([.ref mo, .int (nI x), .int (nI y)])).length) Slot.unset).toArray = ls at hl ⊢
  replace hl : lv_has ls 5 [(0, .ref mo), (1, .int (nI x)), (2, .int (nI y))] := hl
  have hn := hm.le
  have hK : mKp X hp hp := mKp.rf
  refine lv_aload_n hx hb dX3_sum_0 rfl (lv_at hl 0 rfl) ?_
  refine lv_iconst (v := nI 0) hx hb dX3_sum_1 (by decide) ?_
  refine h_put (v := .int (nI 0)) hx hb hts hi3 tyX3 tyX3_ok nmX3 hown hK0 hV0 hA0 hS hm.cmo rfl 0 (by decide) hw0 rfl (by rfl) (by rfl) (Nat.le_of_ble_eq_true rfl) dX3_sum_2 (fun H locs hV0 hA0 hS => ?_)
  have hm : mA mo dk lv nb lvl row ((nI 0)) d V rm dt (hput hp mo (eO 3 [.int (nI 0), .ref dk, .ref lv, .ref nb])) := hm.setTh (nI 0)
  have hX : mX X mo dk lv nb (hput hp mo (eO 3 [.int (nI 0), .ref dk, .ref lv, .ref nb])) := hX.put _ _
  have hK : mKp X hp (hput hp mo (eO 3 [.int (nI 0), .ref dk, .ref lv, .ref nb])) := hK.put hX.1.1
  have hn := hm.le
  refine lv_iload_n hx hb dX3_sum_5 rfl (lv_at hl 1 rfl) ?_
  refine h_rdS (As := [.int (nI x)]) (rest := []) hF (c_X3_isNumber l G (hput hp mo (eO 3 [.int (nI 0), .ref dk, .ref lv, .ref nb])) (nI x)) 1 gX3_sum_X3_isNumber rfl (by decide +kernel) ⟨Nat.le_of_ble_eq_true rfl, Nat.le_of_ble_eq_true rfl⟩ hK0 hV0 rfl hl.1 rfl (Nat.le_of_ble_eq_true rfl) (Nat.le_of_ble_eq_true rfl) (Nat.le_of_ble_eq_true rfl) dX3_sum_6 ?_
  refine h_if_eqB (tgt := 19) hx hb dX3_sum_9 (by decide) (fun c_9 => absurd ((isN_y (x := x) (c := 63) (by omega) (by omega)).symm.trans c_9) (by decide)) (fun c_9 => ?_)
  refine lv_iload_n hx hb dX3_sum_12 rfl (lv_at hl 2 rfl) ?_
  refine h_rdS (As := [.int (nI y)]) (rest := []) hF (c_X3_isNumber l G (hput hp mo (eO 3 [.int (nI 0), .ref dk, .ref lv, .ref nb])) (nI y)) 1 gX3_sum_X3_isNumber rfl (by decide +kernel) ⟨Nat.le_of_ble_eq_true rfl, Nat.le_of_ble_eq_true rfl⟩ hK0 hV0 rfl hl.1 rfl (Nat.le_of_ble_eq_true rfl) (Nat.le_of_ble_eq_true rfl) (Nat.le_of_ble_eq_true rfl) dX3_sum_13 ?_
  refine h_if_neB (tgt := 25) hx hb dX3_sum_16 (by decide) (fun c_16 => ?_) (fun c_16 => absurd ((isN_y (x := y) (c := 63) (by omega) (by omega)).symm.trans c_16) (by decide))
  refine lv_iload_n hx hb dX3_sum_25 rfl (lv_at hl 1 rfl) ?_
  refine lv_iload_n hx hb dX3_sum_26 rfl (lv_at hl 2 rfl) ?_
  refine h_icmp_le (a := x) (b := y) (tgt := 36) hx hb dX3_sum_27 (by decide) (by omega) (by omega) (fun c_27 => absurd c_27 (by omega)) (fun c_27 => ?_)
  refine lv_aload_n hx hb dX3_sum_30 rfl (lv_at hl 0 rfl) ?_
  refine lv_iconst (v := nI 2) hx hb dX3_sum_31 (by decide) ?_
  refine h_wrV (As := [.int (nI 2)]) (rest := []) hF (c_X3_fail l G A (hput hp mo (eO 3 [.int (nI 0), .ref dk, .ref lv, .ref nb])) X mo dk lv nb lvl row ((nI 0)) d V rm dt hm hX 2 hD hA0) 1 gX3_sum_X3_fail rfl (by decide +kernel) ⟨Nat.le_of_ble_eq_true rfl, Nat.le_of_ble_eq_true rfl⟩ hK0 hV0 hA hS hm.cmo rfl rfl rfl hl.1 rfl (Nat.le_of_ble_eq_true rfl) ⟨Nat.le_of_ble_eq_true rfl, Nat.le_of_ble_eq_true rfl⟩ dX3_sum_32 (fun ro hp1 H locs hP1 hV0 hA0 hS => ?_)
  obtain ⟨rfl, lvl2, row2, hm2, hX2, hD2, hK2⟩ := hP1
  exact W.iret hx hb hr (h_qW ⟨rfl, dk, lv, nb, lvl2, row2, hm2, hX2, hD2, hK.tr hK2⟩ hV0 hA0 hS) hS.2.2 dX3_sum_35 hlocks

set_option maxHeartbeats 1000000 in
set_option maxRecDepth 100000 in
theorem c_X3_sum (l : Launch) (G : hG) (A : Nat → Prop) (hp : HP) (X : Nat → Prop) (mo dk lv nb : Nat) (lvl : Nat → Nat) (row : Nat → Nat → Nat) (th : Int32) (d : Row) (V : BV) (rm dt : Int32) (hm : mA mo dk lv nb lvl row th d V rm dt hp) (hX : mX X mo dk lv nb hp) (hD : mD dk row V) (x y : Nat) (hxy : x ≤ y) (hy6 : y < 64) (hA0 : hIn A hp) : hWr l yX3_sum wsX3_sum 2 50 0 0 G A hp [.ref mo, .int (nI x), .int (nI y)] (fun ro hp' => ro = some (.int (smW (wdS d (bN V) (bG V)) x (y + 1 - x))) ∧ mP X mo (nI 0) d V rm dt hp hp') := by
  refine Met.ofW (cc := cX3_sum) (maxL := 5) (ret := (some .int)) (by decide) rfl ?_
  intro p e s m args below meth c s₁ B hml hv
  obtain ⟨rfl, hV0, hK0, hA⟩ := hv
  have hx := B.exec
  have hb := B.bytes
  have hr := B.returns
  have hts := atoms_spec (ws := wsX3_sum) B.pre
  have hown : s.vm.findClass RX3 = some m.cls := findClass_of_methodNamed B.named
  have hlocks := B.notSynchronized
  have hF : CallFix p m c cX3_sum 5 s [.ref mo, .int (nI x), .int (nI y)].toArray wsX3_sum RX3 := ⟨hx, hb, hml, hown, hts⟩
  have hw0 := hts (.fieldLink RX3 27 "SlipLevelsModel" "thrown" "I") (by decide +kernel)
  have hw1 := hts (.methodLink RX3 84 Lib.Math.max.name) (by decide +kernel)
  have hw2 := hts (.static Lib.Math.max.name) (by decide +kernel)
  have hw3 := hts (.initialized "java/lang/Math") (by decide +kernel)
  have hw4 := hts (.code Lib.Math.max.name Lib.Math.max.code 2 (some .int)) (by decide +kernel)
  have hi3 : ∀ w ∈ u_ws RX3 TX3 4, w ∈ wsX3_sum := by
    intro w h
    unfold wsX3_sum
    simp only [List.mem_cons, List.mem_append, h, true_or, or_true]
  have hS : va_S A s.heap s.heap [] := va_S.rf
  have hl := lv_entry ([.ref mo, .int (nI x), .int (nI y)]) (n := 5) (Nat.le_of_ble_eq_true rfl)
  rw [lg_entry_eq]
  generalize (lg_sl ([.ref mo, .int (nI x), .int (nI y)]) ++ List.replicate (5 - (lg_sl ([.ref mo, .int (nI x), .int (nI y)])).length) Slot.unset).toArray = ls at hl ⊢
  replace hl : lv_has ls 5 [(0, .ref mo), (1, .int (nI x)), (2, .int (nI y))] := hl
  have hn := hm.le
  have hK : mKp X hp hp := mKp.rf
  refine lv_aload_n hx hb dX3_sum_0 rfl (lv_at hl 0 rfl) ?_
  refine lv_iconst (v := nI 0) hx hb dX3_sum_1 (by decide) ?_
  refine h_put (v := .int (nI 0)) hx hb hts hi3 tyX3 tyX3_ok nmX3 hown hK0 hV0 hA0 hS hm.cmo rfl 0 (by decide) hw0 rfl (by rfl) (by rfl) (Nat.le_of_ble_eq_true rfl) dX3_sum_2 (fun H locs hV0 hA0 hS => ?_)
  have hm : mA mo dk lv nb lvl row ((nI 0)) d V rm dt (hput hp mo (eO 3 [.int (nI 0), .ref dk, .ref lv, .ref nb])) := hm.setTh (nI 0)
  have hX : mX X mo dk lv nb (hput hp mo (eO 3 [.int (nI 0), .ref dk, .ref lv, .ref nb])) := hX.put _ _
  have hK : mKp X hp (hput hp mo (eO 3 [.int (nI 0), .ref dk, .ref lv, .ref nb])) := hK.put hX.1.1
  have hn := hm.le
  refine lv_iload_n hx hb dX3_sum_5 rfl (lv_at hl 1 rfl) ?_
  refine h_rdS (As := [.int (nI x)]) (rest := []) hF (c_X3_isNumber l G (hput hp mo (eO 3 [.int (nI 0), .ref dk, .ref lv, .ref nb])) (nI x)) 1 gX3_sum_X3_isNumber rfl (by decide +kernel) ⟨Nat.le_of_ble_eq_true rfl, Nat.le_of_ble_eq_true rfl⟩ hK0 hV0 rfl hl.1 rfl (Nat.le_of_ble_eq_true rfl) (Nat.le_of_ble_eq_true rfl) (Nat.le_of_ble_eq_true rfl) dX3_sum_6 ?_
  refine h_if_eqB (tgt := 19) hx hb dX3_sum_9 (by decide) (fun c_9 => absurd ((isN_y (x := x) (c := 63) (by omega) (by omega)).symm.trans c_9) (by decide)) (fun c_9 => ?_)
  refine lv_iload_n hx hb dX3_sum_12 rfl (lv_at hl 2 rfl) ?_
  refine h_rdS (As := [.int (nI y)]) (rest := []) hF (c_X3_isNumber l G (hput hp mo (eO 3 [.int (nI 0), .ref dk, .ref lv, .ref nb])) (nI y)) 1 gX3_sum_X3_isNumber rfl (by decide +kernel) ⟨Nat.le_of_ble_eq_true rfl, Nat.le_of_ble_eq_true rfl⟩ hK0 hV0 rfl hl.1 rfl (Nat.le_of_ble_eq_true rfl) (Nat.le_of_ble_eq_true rfl) (Nat.le_of_ble_eq_true rfl) dX3_sum_13 ?_
  refine h_if_neB (tgt := 25) hx hb dX3_sum_16 (by decide) (fun c_16 => ?_) (fun c_16 => absurd ((isN_y (x := y) (c := 63) (by omega) (by omega)).symm.trans c_16) (by decide))
  refine lv_iload_n hx hb dX3_sum_25 rfl (lv_at hl 1 rfl) ?_
  refine lv_iload_n hx hb dX3_sum_26 rfl (lv_at hl 2 rfl) ?_
  refine h_icmp_le (a := x) (b := y) (tgt := 36) hx hb dX3_sum_27 (by decide) (by omega) (by omega) (fun c_27 => ?_) (fun c_27 => absurd hxy c_27)
  refine lv_iconst (v := nI 0) hx hb dX3_sum_36 (by decide) ?_
  refine lv_istore_n (lv' := [(3, .int (nI 0)), (0, .ref mo), (1, .int (nI x)), (2, .int (nI y))]) hx hb dX3_sum_37 rfl hl (by decide) rfl (fun ls hl => ?_)
  refine lv_iload_n hx hb dX3_sum_38 rfl (lv_at hl 2 rfl) ?_
  have hsx : nI 0 = smW (wdS d (bN V) (bG V)) x (x - x) := by rw [Nat.sub_self]; rfl
  replace hl : lv_has ls 5 [(3, .int (smW (wdS d (bN V) (bG V)) x (x - x))), (0, .ref mo), (1, .int (nI x)), (2, .int (nI y))] := by rw [← hsx]; exact hl
  refine lv_istore (lv' := [(4, .int (nI x)), (3, .int (smW (wdS d (bN V) (bG V)) x (x - x))), (0, .ref mo), (1, .int (nI x)), (2, .int (nI y))]) hx hb dX3_sum_39 hl (by decide) rfl (fun ls hl => ?_)
  replace hl : lv_has ls 5 [(4, .int (nI x)), (3, .int (smW (wdS d (bN V) (bG V)) x (x - x))), (0, .ref mo), (1, .int (nI x)), (2, .int (nI y))] := lv_sub hl [0, 1, 2, 3, 4] rfl
  revert ls
  refine h_loop (y + 1) (fun i => [(4, .int (nI i)), (3, .int (smW (wdS d (bN V) (bG V)) x (i - x))), (0, .ref mo), (1, .int (nI x)), (2, .int (nI y))]) (fun i => x ≤ i) (fun i hi41 hI41 ih41 ls hl => ?_) x (by omega) (Nat.le_refl _)
  refine lv_iload hx hb dX3_sum_41 (lv_at hl 0 rfl) ?_
  refine lv_iload_n hx hb dX3_sum_43 rfl (lv_at hl 4 rfl) ?_
  refine h_icmp_gt (a := i) (b := y) (tgt := 66) hx hb dX3_sum_44 (by decide) (by omega) (by omega) (fun c_44 => ?_) (fun c_44 => ?_)
  · refine lv_iload_n hx hb dX3_sum_66 rfl (lv_at hl 1 rfl) ?_
    exact W.iret hx hb hr (h_qW ⟨by rw [show i = y + 1 by omega], dk, lv, nb, lvl, row, hm, hX, hD, hK⟩ hV0 hA0 hS) hS.2.2 dX3_sum_67 hlocks
  · refine lv_iload_n hx hb dX3_sum_47 rfl (lv_at hl 1 rfl) ?_
    refine lv_iconst (v := nI 0) hx hb dX3_sum_48 (by decide) ?_
    refine lv_aload_n hx hb dX3_sum_49 rfl (lv_at hl 2 rfl) ?_
    refine lv_iload hx hb dX3_sum_50 (lv_at hl 0 rfl) ?_
    refine h_rdV (As := [.int (nI i)]) (rest := [.int (nI 0), .int (smW (wdS d (bN V) (bG V)) x (i - x))]) hF (c_X3_word l G (hput hp mo (eO 3 [.int (nI 0), .ref dk, .ref lv, .ref nb])) mo dk lv nb lvl row ((nI 0)) d V rm dt hm i (by omega)) 1 gX3_sum_X3_word rfl (by decide +kernel) ⟨Nat.le_of_ble_eq_true rfl, Nat.le_of_ble_eq_true rfl⟩ hK0 hV0 hm.cmo rfl rfl rfl hl.1 rfl (Nat.le_of_ble_eq_true rfl) (Nat.le_of_ble_eq_true rfl) (Nat.le_of_ble_eq_true rfl) dX3_sum_52 ?_
    refine va_mmax hx hb (hml.trans hl.1.symm) hown hw1 hw2 hw3 hw4 (Nat.le_of_ble_eq_true rfl) (Nat.le_of_ble_eq_true rfl) (Nat.le_of_ble_eq_true rfl) (Nat.le_of_ble_eq_true rfl) dX3_sum_55 ?_
    refine lv_iadd hx hb dX3_sum_58 ?_
    refine lv_istore_n (lv' := [(3, .int ((smW (wdS d (bN V) (bG V)) x (i - x)) + ((if nI 0 < (wdS d (bN V) (bG V) i) then (wdS d (bN V) (bG V) i) else nI 0)))), (4, .int (nI i)), (0, .ref mo), (1, .int (nI x)), (2, .int (nI y))]) hx hb dX3_sum_59 rfl hl (by decide) rfl (fun ls hl => ?_)
    refine lv_iinc (v := nI (i + 1)) (lv' := [(4, .int (nI (i + 1))), (3, .int ((smW (wdS d (bN V) (bG V)) x (i - x)) + ((if nI 0 < (wdS d (bN V) (bG V) i) then (wdS d (bN V) (bG V) i) else nI 0)))), (0, .ref mo), (1, .int (nI x)), (2, .int (nI y))]) hx hb dX3_sum_60 hl (k := 1) rfl (nI_add (i) 1) (by decide) rfl (fun ls hl => ?_)
    refine lv_goto (tgt := 41) hx hb dX3_sum_63 (by decide) ?_
    exact ih41 (by omega) (by omega) ls (by show lv_has ls 5 [(4, .int (nI (i + 1))), (3, .int (smW (wdS d (bN V) (bG V)) x (i + 1 - x))), (0, .ref mo), (1, .int (nI x)), (2, .int (nI y))]; rw [← smW_s hI41, ← mx0]; exact lv_sub hl [0, 1, 2, 3, 4] rfl)

set_option maxHeartbeats 1000000 in
set_option maxRecDepth 100000 in
theorem c_X3_runL (l : Launch) (G : hG) (A : Nat → Prop) (hp : HP) (X : Nat → Prop) (mo dk lv nb : Nat) (lvl : Nat → Nat) (row : Nat → Nat → Nat) (th : Int32) (d : Row) (V : BV) (rm dt : Int32) (hm : mA mo dk lv nb lvl row th d V rm dt hp) (hX : mX X mo dk lv nb hp) (hD : mD dk row V) (y z : Int32) (x : Int32) (hb0 : x < 0 ∨ nI 4 ≤ x) (hA0 : hIn A hp) : hWr l yX3_run wsX3_run 3 64 0 0 G A hp [.ref mo, .int x, .int y, .int z] (fun ro hp' => ro = some (.int (nI 0)) ∧ mP X mo (nI 1) d V rm dt hp hp') := by
  refine Met.ofW (cc := cX3_run) (maxL := 4) (ret := (some .int)) (by decide) rfl ?_
  intro p e s m args below meth c s₁ B hml hv
  obtain ⟨rfl, hV0, hK0, hA⟩ := hv
  have hx := B.exec
  have hb := B.bytes
  have hr := B.returns
  have hts := atoms_spec (ws := wsX3_run) B.pre
  have hown : s.vm.findClass RX3 = some m.cls := findClass_of_methodNamed B.named
  have hlocks := B.notSynchronized
  have hF : CallFix p m c cX3_run 4 s [.ref mo, .int x, .int y, .int z].toArray wsX3_run RX3 := ⟨hx, hb, hml, hown, hts⟩
  have hw0 := hts (.fieldLink RX3 27 "SlipLevelsModel" "thrown" "I") (by decide +kernel)
  have hi3 : ∀ w ∈ u_ws RX3 TX3 4, w ∈ wsX3_run := by
    intro w h
    unfold wsX3_run
    simp only [List.mem_cons, List.mem_append, h, true_or, or_true]
  have hS : va_S A s.heap s.heap [] := va_S.rf
  have hl := lv_entry ([.ref mo, .int x, .int y, .int z]) (n := 4) (Nat.le_of_ble_eq_true rfl)
  rw [lg_entry_eq]
  generalize (lg_sl ([.ref mo, .int x, .int y, .int z]) ++ List.replicate (4 - (lg_sl ([.ref mo, .int x, .int y, .int z])).length) Slot.unset).toArray = ls at hl ⊢
  replace hl : lv_has ls 4 [(0, .ref mo), (1, .int x), (2, .int y), (3, .int z)] := hl
  have hn := hm.le
  have hK : mKp X hp hp := mKp.rf
  refine lv_aload_n hx hb dX3_run_0 rfl (lv_at hl 0 rfl) ?_
  refine lv_iconst (v := nI 0) hx hb dX3_run_1 (by decide) ?_
  refine h_put (v := .int (nI 0)) hx hb hts hi3 tyX3 tyX3_ok nmX3 hown hK0 hV0 hA0 hS hm.cmo rfl 0 (by decide) hw0 rfl (by rfl) (by rfl) (Nat.le_of_ble_eq_true rfl) dX3_run_2 (fun H locs hV0 hA0 hS => ?_)
  have hm : mA mo dk lv nb lvl row ((nI 0)) d V rm dt (hput hp mo (eO 3 [.int (nI 0), .ref dk, .ref lv, .ref nb])) := hm.setTh (nI 0)
  have hX : mX X mo dk lv nb (hput hp mo (eO 3 [.int (nI 0), .ref dk, .ref lv, .ref nb])) := hX.put _ _
  have hK : mKp X hp (hput hp mo (eO 3 [.int (nI 0), .ref dk, .ref lv, .ref nb])) := hK.put hX.1.1
  have hn := hm.le
  refine lv_aload_n hx hb dX3_run_5 rfl (lv_at hl 0 rfl) ?_
  refine lv_iload_n hx hb dX3_run_6 rfl (lv_at hl 1 rfl) ?_
  refine lv_iload_n hx hb dX3_run_7 rfl (lv_at hl 2 rfl) ?_
  refine h_rdV (As := [.int x, .int y]) (rest := []) hF (c_X3_isRunL l G (hput hp mo (eO 3 [.int (nI 0), .ref dk, .ref lv, .ref nb])) mo dk lv nb lvl row ((nI 0)) d V rm dt hm (x) (y) hb0) 2 gX3_run_X3_isRun rfl (by decide +kernel) ⟨Nat.le_of_ble_eq_true rfl, Nat.le_of_ble_eq_true rfl⟩ hK0 hV0 hm.cmo rfl rfl rfl hl.1 rfl (Nat.le_of_ble_eq_true rfl) (Nat.le_of_ble_eq_true rfl) (Nat.le_of_ble_eq_true rfl) dX3_run_8 ?_
  refine h_if_eqB (tgt := 33) hx hb dX3_run_11 (by decide) (fun c_11 => ?_) (fun c_11 => absurd c_11 (by decide))
  refine lv_aload_n hx hb dX3_run_33 rfl (lv_at hl 0 rfl) ?_
  refine lv_iconst (v := nI 1) hx hb dX3_run_34 (by decide) ?_
  refine h_wrV (As := [.int (nI 1)]) (rest := []) hF (c_X3_fail l G A (hput hp mo (eO 3 [.int (nI 0), .ref dk, .ref lv, .ref nb])) X mo dk lv nb lvl row ((nI 0)) d V rm dt hm hX 1 hD hA0) 1 gX3_run_X3_fail rfl (by decide +kernel) ⟨Nat.le_of_ble_eq_true rfl, Nat.le_of_ble_eq_true rfl⟩ hK0 hV0 hA hS hm.cmo rfl rfl rfl hl.1 rfl (Nat.le_of_ble_eq_true rfl) ⟨Nat.le_of_ble_eq_true rfl, Nat.le_of_ble_eq_true rfl⟩ dX3_run_35 (fun ro hp1 H locs hP1 hV0 hA0 hS => ?_)
  obtain ⟨rfl, lvl2, row2, hm2, hX2, hD2, hK2⟩ := hP1
  exact W.iret hx hb hr (h_qW ⟨rfl, dk, lv, nb, lvl2, row2, hm2, hX2, hD2, hK.tr hK2⟩ hV0 hA0 hS) hS.2.2 dX3_run_38 hlocks

set_option maxHeartbeats 1000000 in
set_option maxRecDepth 100000 in
theorem c_X3_runR (l : Launch) (G : hG) (A : Nat → Prop) (hp : HP) (X : Nat → Prop) (mo dk lv nb : Nat) (lvl : Nat → Nat) (row : Nat → Nat → Nat) (th : Int32) (d : Row) (V : BV) (rm dt : Int32) (hm : mA mo dk lv nb lvl row th d V rm dt hp) (hX : mX X mo dk lv nb hp) (hD : mD dk row V) (lz : Nat) (hl4 : lz < 4) (y z : Int32) (hb0 : y < 0 ∨ nI (bN V lz) ≤ y) (hA0 : hIn A hp) : hWr l yX3_run wsX3_run 3 64 0 0 G A hp [.ref mo, .int (nI lz), .int y, .int z] (fun ro hp' => ro = some (.int (nI 0)) ∧ mP X mo (nI 1) d V rm dt hp hp') := by
  refine Met.ofW (cc := cX3_run) (maxL := 4) (ret := (some .int)) (by decide) rfl ?_
  intro p e s m args below meth c s₁ B hml hv
  obtain ⟨rfl, hV0, hK0, hA⟩ := hv
  have hx := B.exec
  have hb := B.bytes
  have hr := B.returns
  have hts := atoms_spec (ws := wsX3_run) B.pre
  have hown : s.vm.findClass RX3 = some m.cls := findClass_of_methodNamed B.named
  have hlocks := B.notSynchronized
  have hF : CallFix p m c cX3_run 4 s [.ref mo, .int (nI lz), .int y, .int z].toArray wsX3_run RX3 := ⟨hx, hb, hml, hown, hts⟩
  have hw0 := hts (.fieldLink RX3 27 "SlipLevelsModel" "thrown" "I") (by decide +kernel)
  have hi3 : ∀ w ∈ u_ws RX3 TX3 4, w ∈ wsX3_run := by
    intro w h
    unfold wsX3_run
    simp only [List.mem_cons, List.mem_append, h, true_or, or_true]
  have hS : va_S A s.heap s.heap [] := va_S.rf
  have hl := lv_entry ([.ref mo, .int (nI lz), .int y, .int z]) (n := 4) (Nat.le_of_ble_eq_true rfl)
  rw [lg_entry_eq]
  generalize (lg_sl ([.ref mo, .int (nI lz), .int y, .int z]) ++ List.replicate (4 - (lg_sl ([.ref mo, .int (nI lz), .int y, .int z])).length) Slot.unset).toArray = ls at hl ⊢
  replace hl : lv_has ls 4 [(0, .ref mo), (1, .int (nI lz)), (2, .int y), (3, .int z)] := hl
  have hn := hm.le
  have hK : mKp X hp hp := mKp.rf
  refine lv_aload_n hx hb dX3_run_0 rfl (lv_at hl 0 rfl) ?_
  refine lv_iconst (v := nI 0) hx hb dX3_run_1 (by decide) ?_
  refine h_put (v := .int (nI 0)) hx hb hts hi3 tyX3 tyX3_ok nmX3 hown hK0 hV0 hA0 hS hm.cmo rfl 0 (by decide) hw0 rfl (by rfl) (by rfl) (Nat.le_of_ble_eq_true rfl) dX3_run_2 (fun H locs hV0 hA0 hS => ?_)
  have hm : mA mo dk lv nb lvl row ((nI 0)) d V rm dt (hput hp mo (eO 3 [.int (nI 0), .ref dk, .ref lv, .ref nb])) := hm.setTh (nI 0)
  have hX : mX X mo dk lv nb (hput hp mo (eO 3 [.int (nI 0), .ref dk, .ref lv, .ref nb])) := hX.put _ _
  have hK : mKp X hp (hput hp mo (eO 3 [.int (nI 0), .ref dk, .ref lv, .ref nb])) := hK.put hX.1.1
  have hn := hm.le
  refine lv_aload_n hx hb dX3_run_5 rfl (lv_at hl 0 rfl) ?_
  refine lv_iload_n hx hb dX3_run_6 rfl (lv_at hl 1 rfl) ?_
  refine lv_iload_n hx hb dX3_run_7 rfl (lv_at hl 2 rfl) ?_
  refine h_rdV (As := [.int (nI lz), .int y]) (rest := []) hF (c_X3_isRunR l G (hput hp mo (eO 3 [.int (nI 0), .ref dk, .ref lv, .ref nb])) mo dk lv nb lvl row ((nI 0)) d V rm dt hm lz (by omega) (y) hb0) 2 gX3_run_X3_isRun rfl (by decide +kernel) ⟨Nat.le_of_ble_eq_true rfl, Nat.le_of_ble_eq_true rfl⟩ hK0 hV0 hm.cmo rfl rfl rfl hl.1 rfl (Nat.le_of_ble_eq_true rfl) (Nat.le_of_ble_eq_true rfl) (Nat.le_of_ble_eq_true rfl) dX3_run_8 ?_
  refine h_if_eqB (tgt := 33) hx hb dX3_run_11 (by decide) (fun c_11 => ?_) (fun c_11 => absurd c_11 (by decide))
  refine lv_aload_n hx hb dX3_run_33 rfl (lv_at hl 0 rfl) ?_
  refine lv_iconst (v := nI 1) hx hb dX3_run_34 (by decide) ?_
  refine h_wrV (As := [.int (nI 1)]) (rest := []) hF (c_X3_fail l G A (hput hp mo (eO 3 [.int (nI 0), .ref dk, .ref lv, .ref nb])) X mo dk lv nb lvl row ((nI 0)) d V rm dt hm hX 1 hD hA0) 1 gX3_run_X3_fail rfl (by decide +kernel) ⟨Nat.le_of_ble_eq_true rfl, Nat.le_of_ble_eq_true rfl⟩ hK0 hV0 hA hS hm.cmo rfl rfl rfl hl.1 rfl (Nat.le_of_ble_eq_true rfl) ⟨Nat.le_of_ble_eq_true rfl, Nat.le_of_ble_eq_true rfl⟩ dX3_run_35 (fun ro hp1 H locs hP1 hV0 hA0 hS => ?_)
  obtain ⟨rfl, lvl2, row2, hm2, hX2, hD2, hK2⟩ := hP1
  exact W.iret hx hb hr (h_qW ⟨rfl, dk, lv, nb, lvl2, row2, hm2, hX2, hD2, hK.tr hK2⟩ hV0 hA0 hS) hS.2.2 dX3_run_38 hlocks

set_option maxHeartbeats 1000000 in
set_option maxRecDepth 100000 in
theorem c_X3_slipL (l : Launch) (G : hG) (A : Nat → Prop) (hp : HP) (X : Nat → Prop) (mo dk lv nb : Nat) (lvl : Nat → Nat) (row : Nat → Nat → Nat) (th : Int32) (d : Row) (V : BV) (rm dt : Int32) (hm : mA mo dk lv nb lvl row th d V rm dt hp) (hX : mX X mo dk lv nb hp) (hD : mD dk row V) (y z : Int32) (x : Int32) (hb0 : x < 0 ∨ nI 4 ≤ x) (hA0 : hIn A hp) : hWr l yX3_slip wsX3_slip 3 64 0 0 G A hp [.ref mo, .int x, .int y, .int z] (fun ro hp' => ro = some (.int (nI 0)) ∧ mP X mo (nI 1) d V rm dt hp hp') := by
  refine Met.ofW (cc := cX3_slip) (maxL := 4) (ret := (some .int)) (by decide) rfl ?_
  intro p e s m args below meth c s₁ B hml hv
  obtain ⟨rfl, hV0, hK0, hA⟩ := hv
  have hx := B.exec
  have hb := B.bytes
  have hr := B.returns
  have hts := atoms_spec (ws := wsX3_slip) B.pre
  have hown : s.vm.findClass RX3 = some m.cls := findClass_of_methodNamed B.named
  have hlocks := B.notSynchronized
  have hF : CallFix p m c cX3_slip 4 s [.ref mo, .int x, .int y, .int z].toArray wsX3_slip RX3 := ⟨hx, hb, hml, hown, hts⟩
  have hw0 := hts (.fieldLink RX3 27 "SlipLevelsModel" "thrown" "I") (by decide +kernel)
  have hi3 : ∀ w ∈ u_ws RX3 TX3 4, w ∈ wsX3_slip := by
    intro w h
    unfold wsX3_slip
    simp only [List.mem_cons, List.mem_append, h, true_or, or_true]
  have hS : va_S A s.heap s.heap [] := va_S.rf
  have hl := lv_entry ([.ref mo, .int x, .int y, .int z]) (n := 4) (Nat.le_of_ble_eq_true rfl)
  rw [lg_entry_eq]
  generalize (lg_sl ([.ref mo, .int x, .int y, .int z]) ++ List.replicate (4 - (lg_sl ([.ref mo, .int x, .int y, .int z])).length) Slot.unset).toArray = ls at hl ⊢
  replace hl : lv_has ls 4 [(0, .ref mo), (1, .int x), (2, .int y), (3, .int z)] := hl
  have hn := hm.le
  have hK : mKp X hp hp := mKp.rf
  refine lv_aload_n hx hb dX3_slip_0 rfl (lv_at hl 0 rfl) ?_
  refine lv_iconst (v := nI 0) hx hb dX3_slip_1 (by decide) ?_
  refine h_put (v := .int (nI 0)) hx hb hts hi3 tyX3 tyX3_ok nmX3 hown hK0 hV0 hA0 hS hm.cmo rfl 0 (by decide) hw0 rfl (by rfl) (by rfl) (Nat.le_of_ble_eq_true rfl) dX3_slip_2 (fun H locs hV0 hA0 hS => ?_)
  have hm : mA mo dk lv nb lvl row ((nI 0)) d V rm dt (hput hp mo (eO 3 [.int (nI 0), .ref dk, .ref lv, .ref nb])) := hm.setTh (nI 0)
  have hX : mX X mo dk lv nb (hput hp mo (eO 3 [.int (nI 0), .ref dk, .ref lv, .ref nb])) := hX.put _ _
  have hK : mKp X hp (hput hp mo (eO 3 [.int (nI 0), .ref dk, .ref lv, .ref nb])) := hK.put hX.1.1
  have hn := hm.le
  refine lv_aload_n hx hb dX3_slip_5 rfl (lv_at hl 0 rfl) ?_
  refine lv_iload_n hx hb dX3_slip_6 rfl (lv_at hl 1 rfl) ?_
  refine lv_iload_n hx hb dX3_slip_7 rfl (lv_at hl 2 rfl) ?_
  refine h_rdV (As := [.int x, .int y]) (rest := []) hF (c_X3_isRunL l G (hput hp mo (eO 3 [.int (nI 0), .ref dk, .ref lv, .ref nb])) mo dk lv nb lvl row ((nI 0)) d V rm dt hm (x) (y) hb0) 2 gX3_slip_X3_isRun rfl (by decide +kernel) ⟨Nat.le_of_ble_eq_true rfl, Nat.le_of_ble_eq_true rfl⟩ hK0 hV0 hm.cmo rfl rfl rfl hl.1 rfl (Nat.le_of_ble_eq_true rfl) (Nat.le_of_ble_eq_true rfl) (Nat.le_of_ble_eq_true rfl) dX3_slip_8 ?_
  refine h_if_eqB (tgt := 50) hx hb dX3_slip_11 (by decide) (fun c_11 => ?_) (fun c_11 => absurd c_11 (by decide))
  refine lv_aload_n hx hb dX3_slip_50 rfl (lv_at hl 0 rfl) ?_
  refine lv_iconst (v := nI 1) hx hb dX3_slip_51 (by decide) ?_
  refine h_wrV (As := [.int (nI 1)]) (rest := []) hF (c_X3_fail l G A (hput hp mo (eO 3 [.int (nI 0), .ref dk, .ref lv, .ref nb])) X mo dk lv nb lvl row ((nI 0)) d V rm dt hm hX 1 hD hA0) 1 gX3_slip_X3_fail rfl (by decide +kernel) ⟨Nat.le_of_ble_eq_true rfl, Nat.le_of_ble_eq_true rfl⟩ hK0 hV0 hA hS hm.cmo rfl rfl rfl hl.1 rfl (Nat.le_of_ble_eq_true rfl) ⟨Nat.le_of_ble_eq_true rfl, Nat.le_of_ble_eq_true rfl⟩ dX3_slip_52 (fun ro hp1 H locs hP1 hV0 hA0 hS => ?_)
  obtain ⟨rfl, lvl2, row2, hm2, hX2, hD2, hK2⟩ := hP1
  exact W.iret hx hb hr (h_qW ⟨rfl, dk, lv, nb, lvl2, row2, hm2, hX2, hD2, hK.tr hK2⟩ hV0 hA0 hS) hS.2.2 dX3_slip_55 hlocks

set_option maxHeartbeats 1000000 in
set_option maxRecDepth 100000 in
theorem c_X3_slipR (l : Launch) (G : hG) (A : Nat → Prop) (hp : HP) (X : Nat → Prop) (mo dk lv nb : Nat) (lvl : Nat → Nat) (row : Nat → Nat → Nat) (th : Int32) (d : Row) (V : BV) (rm dt : Int32) (hm : mA mo dk lv nb lvl row th d V rm dt hp) (hX : mX X mo dk lv nb hp) (hD : mD dk row V) (lz : Nat) (hl4 : lz < 4) (y z : Int32) (hb0 : y < 0 ∨ nI (bN V lz) ≤ y) (hA0 : hIn A hp) : hWr l yX3_slip wsX3_slip 3 64 0 0 G A hp [.ref mo, .int (nI lz), .int y, .int z] (fun ro hp' => ro = some (.int (nI 0)) ∧ mP X mo (nI 1) d V rm dt hp hp') := by
  refine Met.ofW (cc := cX3_slip) (maxL := 4) (ret := (some .int)) (by decide) rfl ?_
  intro p e s m args below meth c s₁ B hml hv
  obtain ⟨rfl, hV0, hK0, hA⟩ := hv
  have hx := B.exec
  have hb := B.bytes
  have hr := B.returns
  have hts := atoms_spec (ws := wsX3_slip) B.pre
  have hown : s.vm.findClass RX3 = some m.cls := findClass_of_methodNamed B.named
  have hlocks := B.notSynchronized
  have hF : CallFix p m c cX3_slip 4 s [.ref mo, .int (nI lz), .int y, .int z].toArray wsX3_slip RX3 := ⟨hx, hb, hml, hown, hts⟩
  have hw0 := hts (.fieldLink RX3 27 "SlipLevelsModel" "thrown" "I") (by decide +kernel)
  have hi3 : ∀ w ∈ u_ws RX3 TX3 4, w ∈ wsX3_slip := by
    intro w h
    unfold wsX3_slip
    simp only [List.mem_cons, List.mem_append, h, true_or, or_true]
  have hS : va_S A s.heap s.heap [] := va_S.rf
  have hl := lv_entry ([.ref mo, .int (nI lz), .int y, .int z]) (n := 4) (Nat.le_of_ble_eq_true rfl)
  rw [lg_entry_eq]
  generalize (lg_sl ([.ref mo, .int (nI lz), .int y, .int z]) ++ List.replicate (4 - (lg_sl ([.ref mo, .int (nI lz), .int y, .int z])).length) Slot.unset).toArray = ls at hl ⊢
  replace hl : lv_has ls 4 [(0, .ref mo), (1, .int (nI lz)), (2, .int y), (3, .int z)] := hl
  have hn := hm.le
  have hK : mKp X hp hp := mKp.rf
  refine lv_aload_n hx hb dX3_slip_0 rfl (lv_at hl 0 rfl) ?_
  refine lv_iconst (v := nI 0) hx hb dX3_slip_1 (by decide) ?_
  refine h_put (v := .int (nI 0)) hx hb hts hi3 tyX3 tyX3_ok nmX3 hown hK0 hV0 hA0 hS hm.cmo rfl 0 (by decide) hw0 rfl (by rfl) (by rfl) (Nat.le_of_ble_eq_true rfl) dX3_slip_2 (fun H locs hV0 hA0 hS => ?_)
  have hm : mA mo dk lv nb lvl row ((nI 0)) d V rm dt (hput hp mo (eO 3 [.int (nI 0), .ref dk, .ref lv, .ref nb])) := hm.setTh (nI 0)
  have hX : mX X mo dk lv nb (hput hp mo (eO 3 [.int (nI 0), .ref dk, .ref lv, .ref nb])) := hX.put _ _
  have hK : mKp X hp (hput hp mo (eO 3 [.int (nI 0), .ref dk, .ref lv, .ref nb])) := hK.put hX.1.1
  have hn := hm.le
  refine lv_aload_n hx hb dX3_slip_5 rfl (lv_at hl 0 rfl) ?_
  refine lv_iload_n hx hb dX3_slip_6 rfl (lv_at hl 1 rfl) ?_
  refine lv_iload_n hx hb dX3_slip_7 rfl (lv_at hl 2 rfl) ?_
  refine h_rdV (As := [.int (nI lz), .int y]) (rest := []) hF (c_X3_isRunR l G (hput hp mo (eO 3 [.int (nI 0), .ref dk, .ref lv, .ref nb])) mo dk lv nb lvl row ((nI 0)) d V rm dt hm lz (by omega) (y) hb0) 2 gX3_slip_X3_isRun rfl (by decide +kernel) ⟨Nat.le_of_ble_eq_true rfl, Nat.le_of_ble_eq_true rfl⟩ hK0 hV0 hm.cmo rfl rfl rfl hl.1 rfl (Nat.le_of_ble_eq_true rfl) (Nat.le_of_ble_eq_true rfl) (Nat.le_of_ble_eq_true rfl) dX3_slip_8 ?_
  refine h_if_eqB (tgt := 50) hx hb dX3_slip_11 (by decide) (fun c_11 => ?_) (fun c_11 => absurd c_11 (by decide))
  refine lv_aload_n hx hb dX3_slip_50 rfl (lv_at hl 0 rfl) ?_
  refine lv_iconst (v := nI 1) hx hb dX3_slip_51 (by decide) ?_
  refine h_wrV (As := [.int (nI 1)]) (rest := []) hF (c_X3_fail l G A (hput hp mo (eO 3 [.int (nI 0), .ref dk, .ref lv, .ref nb])) X mo dk lv nb lvl row ((nI 0)) d V rm dt hm hX 1 hD hA0) 1 gX3_slip_X3_fail rfl (by decide +kernel) ⟨Nat.le_of_ble_eq_true rfl, Nat.le_of_ble_eq_true rfl⟩ hK0 hV0 hA hS hm.cmo rfl rfl rfl hl.1 rfl (Nat.le_of_ble_eq_true rfl) ⟨Nat.le_of_ble_eq_true rfl, Nat.le_of_ble_eq_true rfl⟩ dX3_slip_52 (fun ro hp1 H locs hP1 hV0 hA0 hS => ?_)
  obtain ⟨rfl, lvl2, row2, hm2, hX2, hD2, hK2⟩ := hP1
  exact W.iret hx hb hr (h_qW ⟨rfl, dk, lv, nb, lvl2, row2, hm2, hX2, hD2, hK.tr hK2⟩ hV0 hA0 hS) hS.2.2 dX3_slip_55 hlocks

set_option maxHeartbeats 1000000 in
set_option maxRecDepth 100000 in
theorem c_X3_runW (l : Launch) (G : hG) (A : Nat → Prop) (hp : HP) (X : Nat → Prop) (mo dk lv nb : Nat) (lvl : Nat → Nat) (row : Nat → Nat → Nat) (th : Int32) (d : Row) (V : BV) (rm dt : Int32) (hm : mA mo dk lv nb lvl row th d V rm dt hp) (hX : mX X mo dk lv nb hp) (hD : mD dk row V) (lz : Nat) (hl4 : lz < 4) (r : Nat) (hr0 : r < bN V lz) (z : Int32) (hb0 : z < 0 ∨ nI 6 ≤ z) (hA0 : hIn A hp) : hWr l yX3_run wsX3_run 3 64 0 0 G A hp [.ref mo, .int (nI lz), .int (nI r), .int z] (fun ro hp' => ro = some (.int (nI 0)) ∧ mP X mo (nI 1) d V rm dt hp hp') := by
  refine Met.ofW (cc := cX3_run) (maxL := 4) (ret := (some .int)) (by decide) rfl ?_
  intro p e s m args below meth c s₁ B hml hv
  obtain ⟨rfl, hV0, hK0, hA⟩ := hv
  have hx := B.exec
  have hb := B.bytes
  have hr := B.returns
  have hts := atoms_spec (ws := wsX3_run) B.pre
  have hown : s.vm.findClass RX3 = some m.cls := findClass_of_methodNamed B.named
  have hlocks := B.notSynchronized
  have hF : CallFix p m c cX3_run 4 s [.ref mo, .int (nI lz), .int (nI r), .int z].toArray wsX3_run RX3 := ⟨hx, hb, hml, hown, hts⟩
  have hw0 := hts (.fieldLink RX3 27 "SlipLevelsModel" "thrown" "I") (by decide +kernel)
  have hi3 : ∀ w ∈ u_ws RX3 TX3 4, w ∈ wsX3_run := by
    intro w h
    unfold wsX3_run
    simp only [List.mem_cons, List.mem_append, h, true_or, or_true]
  have hS : va_S A s.heap s.heap [] := va_S.rf
  have hl := lv_entry ([.ref mo, .int (nI lz), .int (nI r), .int z]) (n := 4) (Nat.le_of_ble_eq_true rfl)
  rw [lg_entry_eq]
  generalize (lg_sl ([.ref mo, .int (nI lz), .int (nI r), .int z]) ++ List.replicate (4 - (lg_sl ([.ref mo, .int (nI lz), .int (nI r), .int z])).length) Slot.unset).toArray = ls at hl ⊢
  replace hl : lv_has ls 4 [(0, .ref mo), (1, .int (nI lz)), (2, .int (nI r)), (3, .int z)] := hl
  have hn := hm.le
  have hK : mKp X hp hp := mKp.rf
  refine lv_aload_n hx hb dX3_run_0 rfl (lv_at hl 0 rfl) ?_
  refine lv_iconst (v := nI 0) hx hb dX3_run_1 (by decide) ?_
  refine h_put (v := .int (nI 0)) hx hb hts hi3 tyX3 tyX3_ok nmX3 hown hK0 hV0 hA0 hS hm.cmo rfl 0 (by decide) hw0 rfl (by rfl) (by rfl) (Nat.le_of_ble_eq_true rfl) dX3_run_2 (fun H locs hV0 hA0 hS => ?_)
  have hm : mA mo dk lv nb lvl row ((nI 0)) d V rm dt (hput hp mo (eO 3 [.int (nI 0), .ref dk, .ref lv, .ref nb])) := hm.setTh (nI 0)
  have hX : mX X mo dk lv nb (hput hp mo (eO 3 [.int (nI 0), .ref dk, .ref lv, .ref nb])) := hX.put _ _
  have hK : mKp X hp (hput hp mo (eO 3 [.int (nI 0), .ref dk, .ref lv, .ref nb])) := hK.put hX.1.1
  have hn := hm.le
  refine lv_aload_n hx hb dX3_run_5 rfl (lv_at hl 0 rfl) ?_
  refine lv_iload_n hx hb dX3_run_6 rfl (lv_at hl 1 rfl) ?_
  refine lv_iload_n hx hb dX3_run_7 rfl (lv_at hl 2 rfl) ?_
  refine h_rdV (As := [.int (nI lz), .int (nI r)]) (rest := []) hF (c_X3_isRun l G (hput hp mo (eO 3 [.int (nI 0), .ref dk, .ref lv, .ref nb])) mo dk lv nb lvl row ((nI 0)) d V rm dt hm lz r (by omega) (by omega)) 2 gX3_run_X3_isRun rfl (by decide +kernel) ⟨Nat.le_of_ble_eq_true rfl, Nat.le_of_ble_eq_true rfl⟩ hK0 hV0 hm.cmo rfl rfl rfl hl.1 rfl (Nat.le_of_ble_eq_true rfl) (Nat.le_of_ble_eq_true rfl) (Nat.le_of_ble_eq_true rfl) dX3_run_8 ?_
  refine h_if_eqB (tgt := 33) hx hb dX3_run_11 (by decide) (fun c_11 => absurd c_11 (by decide)) (fun c_11 => ?_)
  refine lv_iload_n hx hb dX3_run_14 rfl (lv_at hl 3 rfl) ?_
  refine lv_iconst (v := nI 0) hx hb dX3_run_15 (by decide) ?_
  refine lv_iconst (v := nI 5) hx hb dX3_run_16 (by decide) ?_
  refine h_rdS (As := [.int z, .int (nI 0), .int (nI 5)]) (rest := []) hF (c_X3_isIn l G (hput hp mo (eO 3 [.int (nI 0), .ref dk, .ref lv, .ref nb])) (z) (nI 0) (nI 5)) 3 gX3_run_X3_isIn rfl (by decide +kernel) ⟨Nat.le_of_ble_eq_true rfl, Nat.le_of_ble_eq_true rfl⟩ hK0 hV0 rfl hl.1 rfl (Nat.le_of_ble_eq_true rfl) (Nat.le_of_ble_eq_true rfl) (Nat.le_of_ble_eq_true rfl) dX3_run_17 ?_
  refine h_if_eqB (tgt := 33) hx hb dX3_run_20 (by decide) (fun c_20 => ?_) (fun c_20 => absurd ((isN_n (c := 5) hb0 (by omega)).symm.trans c_20) (by decide))
  refine lv_aload_n hx hb dX3_run_33 rfl (lv_at hl 0 rfl) ?_
  refine lv_iconst (v := nI 1) hx hb dX3_run_34 (by decide) ?_
  refine h_wrV (As := [.int (nI 1)]) (rest := []) hF (c_X3_fail l G A (hput hp mo (eO 3 [.int (nI 0), .ref dk, .ref lv, .ref nb])) X mo dk lv nb lvl row ((nI 0)) d V rm dt hm hX 1 hD hA0) 1 gX3_run_X3_fail rfl (by decide +kernel) ⟨Nat.le_of_ble_eq_true rfl, Nat.le_of_ble_eq_true rfl⟩ hK0 hV0 hA hS hm.cmo rfl rfl rfl hl.1 rfl (Nat.le_of_ble_eq_true rfl) ⟨Nat.le_of_ble_eq_true rfl, Nat.le_of_ble_eq_true rfl⟩ dX3_run_35 (fun ro hp1 H locs hP1 hV0 hA0 hS => ?_)
  obtain ⟨rfl, lvl2, row2, hm2, hX2, hD2, hK2⟩ := hP1
  exact W.iret hx hb hr (h_qW ⟨rfl, dk, lv, nb, lvl2, row2, hm2, hX2, hD2, hK.tr hK2⟩ hV0 hA0 hS) hS.2.2 dX3_run_38 hlocks

set_option maxHeartbeats 1000000 in
set_option maxRecDepth 100000 in
theorem c_X3_run (l : Launch) (G : hG) (A : Nat → Prop) (hp : HP) (X : Nat → Prop) (mo dk lv nb : Nat) (lvl : Nat → Nat) (row : Nat → Nat → Nat) (th : Int32) (d : Row) (V : BV) (rm dt : Int32) (hm : mA mo dk lv nb lvl row th d V rm dt hp) (hX : mX X mo dk lv nb hp) (hD : mD dk row V) (lz : Nat) (hl4 : lz < 4) (r : Nat) (hr0 : r < bN V lz) (wh : Nat) (hw6 : wh < 6) (hA0 : hIn A hp) : hWr l yX3_run wsX3_run 3 64 0 0 G A hp [.ref mo, .int (nI lz), .int (nI r), .int (nI wh)] (fun ro hp' => ro = some (.int (fcS (bG V lz r) (sdS d (bN V) (bG V) lz r) wh)) ∧ mP X mo (nI 0) d V rm dt hp hp') := by
  refine Met.ofW (cc := cX3_run) (maxL := 4) (ret := (some .int)) (by decide) rfl ?_
  intro p e s m args below meth c s₁ B hml hv
  obtain ⟨rfl, hV0, hK0, hA⟩ := hv
  have hx := B.exec
  have hb := B.bytes
  have hr := B.returns
  have hts := atoms_spec (ws := wsX3_run) B.pre
  have hown : s.vm.findClass RX3 = some m.cls := findClass_of_methodNamed B.named
  have hlocks := B.notSynchronized
  have hF : CallFix p m c cX3_run 4 s [.ref mo, .int (nI lz), .int (nI r), .int (nI wh)].toArray wsX3_run RX3 := ⟨hx, hb, hml, hown, hts⟩
  have hw0 := hts (.fieldLink RX3 27 "SlipLevelsModel" "thrown" "I") (by decide +kernel)
  have hi3 : ∀ w ∈ u_ws RX3 TX3 4, w ∈ wsX3_run := by
    intro w h
    unfold wsX3_run
    simp only [List.mem_cons, List.mem_append, h, true_or, or_true]
  have hS : va_S A s.heap s.heap [] := va_S.rf
  have hl := lv_entry ([.ref mo, .int (nI lz), .int (nI r), .int (nI wh)]) (n := 4) (Nat.le_of_ble_eq_true rfl)
  rw [lg_entry_eq]
  generalize (lg_sl ([.ref mo, .int (nI lz), .int (nI r), .int (nI wh)]) ++ List.replicate (4 - (lg_sl ([.ref mo, .int (nI lz), .int (nI r), .int (nI wh)])).length) Slot.unset).toArray = ls at hl ⊢
  replace hl : lv_has ls 4 [(0, .ref mo), (1, .int (nI lz)), (2, .int (nI r)), (3, .int (nI wh))] := hl
  have hn := hm.le
  have hK : mKp X hp hp := mKp.rf
  refine lv_aload_n hx hb dX3_run_0 rfl (lv_at hl 0 rfl) ?_
  refine lv_iconst (v := nI 0) hx hb dX3_run_1 (by decide) ?_
  refine h_put (v := .int (nI 0)) hx hb hts hi3 tyX3 tyX3_ok nmX3 hown hK0 hV0 hA0 hS hm.cmo rfl 0 (by decide) hw0 rfl (by rfl) (by rfl) (Nat.le_of_ble_eq_true rfl) dX3_run_2 (fun H locs hV0 hA0 hS => ?_)
  have hm : mA mo dk lv nb lvl row ((nI 0)) d V rm dt (hput hp mo (eO 3 [.int (nI 0), .ref dk, .ref lv, .ref nb])) := hm.setTh (nI 0)
  have hX : mX X mo dk lv nb (hput hp mo (eO 3 [.int (nI 0), .ref dk, .ref lv, .ref nb])) := hX.put _ _
  have hK : mKp X hp (hput hp mo (eO 3 [.int (nI 0), .ref dk, .ref lv, .ref nb])) := hK.put hX.1.1
  have hn := hm.le
  refine lv_aload_n hx hb dX3_run_5 rfl (lv_at hl 0 rfl) ?_
  refine lv_iload_n hx hb dX3_run_6 rfl (lv_at hl 1 rfl) ?_
  refine lv_iload_n hx hb dX3_run_7 rfl (lv_at hl 2 rfl) ?_
  refine h_rdV (As := [.int (nI lz), .int (nI r)]) (rest := []) hF (c_X3_isRun l G (hput hp mo (eO 3 [.int (nI 0), .ref dk, .ref lv, .ref nb])) mo dk lv nb lvl row ((nI 0)) d V rm dt hm lz r (by omega) (by omega)) 2 gX3_run_X3_isRun rfl (by decide +kernel) ⟨Nat.le_of_ble_eq_true rfl, Nat.le_of_ble_eq_true rfl⟩ hK0 hV0 hm.cmo rfl rfl rfl hl.1 rfl (Nat.le_of_ble_eq_true rfl) (Nat.le_of_ble_eq_true rfl) (Nat.le_of_ble_eq_true rfl) dX3_run_8 ?_
  refine h_if_eqB (tgt := 33) hx hb dX3_run_11 (by decide) (fun c_11 => absurd c_11 (by decide)) (fun c_11 => ?_)
  refine lv_iload_n hx hb dX3_run_14 rfl (lv_at hl 3 rfl) ?_
  refine lv_iconst (v := nI 0) hx hb dX3_run_15 (by decide) ?_
  refine lv_iconst (v := nI 5) hx hb dX3_run_16 (by decide) ?_
  refine h_rdS (As := [.int (nI wh), .int (nI 0), .int (nI 5)]) (rest := []) hF (c_X3_isIn l G (hput hp mo (eO 3 [.int (nI 0), .ref dk, .ref lv, .ref nb])) (nI wh) (nI 0) (nI 5)) 3 gX3_run_X3_isIn rfl (by decide +kernel) ⟨Nat.le_of_ble_eq_true rfl, Nat.le_of_ble_eq_true rfl⟩ hK0 hV0 rfl hl.1 rfl (Nat.le_of_ble_eq_true rfl) (Nat.le_of_ble_eq_true rfl) (Nat.le_of_ble_eq_true rfl) dX3_run_17 ?_
  refine h_if_eqB (tgt := 33) hx hb dX3_run_20 (by decide) (fun c_20 => absurd ((isN_y (x := wh) (c := 5) (by omega) (by omega)).symm.trans c_20) (by decide)) (fun c_20 => ?_)
  refine lv_aload_n hx hb dX3_run_23 rfl (lv_at hl 0 rfl) ?_
  refine lv_iload_n hx hb dX3_run_24 rfl (lv_at hl 1 rfl) ?_
  refine lv_iload_n hx hb dX3_run_25 rfl (lv_at hl 2 rfl) ?_
  refine lv_iload_n hx hb dX3_run_26 rfl (lv_at hl 3 rfl) ?_
  refine h_rdV (As := [.int (nI lz), .int (nI r), .int (nI wh)]) (rest := []) hF (c_X3_runTold l G (hput hp mo (eO 3 [.int (nI 0), .ref dk, .ref lv, .ref nb])) mo dk lv nb lvl row ((nI 0)) d V rm dt hm lz r (by omega) (by omega) wh (by omega)) 3 gX3_run_X3_runTold rfl (by decide +kernel) ⟨Nat.le_of_ble_eq_true rfl, Nat.le_of_ble_eq_true rfl⟩ hK0 hV0 hm.cmo rfl rfl rfl hl.1 rfl (Nat.le_of_ble_eq_true rfl) (Nat.le_of_ble_eq_true rfl) (Nat.le_of_ble_eq_true rfl) dX3_run_27 ?_
  refine lv_goto (tgt := 38) hx hb dX3_run_30 (by decide) ?_
  exact W.iret hx hb hr (h_qW ⟨rfl, dk, lv, nb, lvl, row, hm, hX, hD, hK⟩ hV0 hA0 hS) hS.2.2 dX3_run_38 hlocks

set_option maxHeartbeats 1000000 in
set_option maxRecDepth 100000 in
theorem c_X3_slipP (l : Launch) (G : hG) (A : Nat → Prop) (hp : HP) (X : Nat → Prop) (mo dk lv nb : Nat) (lvl : Nat → Nat) (row : Nat → Nat → Nat) (th : Int32) (d : Row) (V : BV) (rm dt : Int32) (hm : mA mo dk lv nb lvl row th d V rm dt hp) (hX : mX X mo dk lv nb hp) (hD : mD dk row V) (lz : Nat) (hl4 : lz < 4) (r : Nat) (hr0 : r < bN V lz) (z : Int32) (hb0 : z < 0 ∨ nI (szR (bG V lz r)) ≤ z) (hA0 : hIn A hp) : hWr l yX3_slip wsX3_slip 3 64 0 0 G A hp [.ref mo, .int (nI lz), .int (nI r), .int z] (fun ro hp' => ro = some (.int (nI 0)) ∧ mP X mo (nI 1) d V rm dt hp hp') := by
  refine Met.ofW (cc := cX3_slip) (maxL := 4) (ret := (some .int)) (by decide) rfl ?_
  intro p e s m args below meth c s₁ B hml hv
  obtain ⟨rfl, hV0, hK0, hA⟩ := hv
  have hx := B.exec
  have hb := B.bytes
  have hr := B.returns
  have hts := atoms_spec (ws := wsX3_slip) B.pre
  have hown : s.vm.findClass RX3 = some m.cls := findClass_of_methodNamed B.named
  have hlocks := B.notSynchronized
  have hF : CallFix p m c cX3_slip 4 s [.ref mo, .int (nI lz), .int (nI r), .int z].toArray wsX3_slip RX3 := ⟨hx, hb, hml, hown, hts⟩
  have hw0 := hts (.fieldLink RX3 27 "SlipLevelsModel" "thrown" "I") (by decide +kernel)
  have hw1 := hts (.fieldLink RX3 20 "SlipLevelsModel" "levels" "[[[I") (by decide +kernel)
  have hi3 : ∀ w ∈ u_ws RX3 TX3 4, w ∈ wsX3_slip := by
    intro w h
    unfold wsX3_slip
    simp only [List.mem_cons, List.mem_append, h, true_or, or_true]
  have hS : va_S A s.heap s.heap [] := va_S.rf
  have hl := lv_entry ([.ref mo, .int (nI lz), .int (nI r), .int z]) (n := 4) (Nat.le_of_ble_eq_true rfl)
  rw [lg_entry_eq]
  generalize (lg_sl ([.ref mo, .int (nI lz), .int (nI r), .int z]) ++ List.replicate (4 - (lg_sl ([.ref mo, .int (nI lz), .int (nI r), .int z])).length) Slot.unset).toArray = ls at hl ⊢
  replace hl : lv_has ls 4 [(0, .ref mo), (1, .int (nI lz)), (2, .int (nI r)), (3, .int z)] := hl
  have hn := hm.le
  have hK : mKp X hp hp := mKp.rf
  have hnl := hn lz
  have hz9 := szR_le (bG V lz r)
  refine lv_aload_n hx hb dX3_slip_0 rfl (lv_at hl 0 rfl) ?_
  refine lv_iconst (v := nI 0) hx hb dX3_slip_1 (by decide) ?_
  refine h_put (v := .int (nI 0)) hx hb hts hi3 tyX3 tyX3_ok nmX3 hown hK0 hV0 hA0 hS hm.cmo rfl 0 (by decide) hw0 rfl (by rfl) (by rfl) (Nat.le_of_ble_eq_true rfl) dX3_slip_2 (fun H locs hV0 hA0 hS => ?_)
  have hm : mA mo dk lv nb lvl row ((nI 0)) d V rm dt (hput hp mo (eO 3 [.int (nI 0), .ref dk, .ref lv, .ref nb])) := hm.setTh (nI 0)
  have hX : mX X mo dk lv nb (hput hp mo (eO 3 [.int (nI 0), .ref dk, .ref lv, .ref nb])) := hX.put _ _
  have hK : mKp X hp (hput hp mo (eO 3 [.int (nI 0), .ref dk, .ref lv, .ref nb])) := hK.put hX.1.1
  have hn := hm.le
  refine lv_aload_n hx hb dX3_slip_5 rfl (lv_at hl 0 rfl) ?_
  refine lv_iload_n hx hb dX3_slip_6 rfl (lv_at hl 1 rfl) ?_
  refine lv_iload_n hx hb dX3_slip_7 rfl (lv_at hl 2 rfl) ?_
  refine h_rdV (As := [.int (nI lz), .int (nI r)]) (rest := []) hF (c_X3_isRun l G (hput hp mo (eO 3 [.int (nI 0), .ref dk, .ref lv, .ref nb])) mo dk lv nb lvl row ((nI 0)) d V rm dt hm lz r (by omega) (by omega)) 2 gX3_slip_X3_isRun rfl (by decide +kernel) ⟨Nat.le_of_ble_eq_true rfl, Nat.le_of_ble_eq_true rfl⟩ hK0 hV0 hm.cmo rfl rfl rfl hl.1 rfl (Nat.le_of_ble_eq_true rfl) (Nat.le_of_ble_eq_true rfl) (Nat.le_of_ble_eq_true rfl) dX3_slip_8 ?_
  refine h_if_eqB (tgt := 50) hx hb dX3_slip_11 (by decide) (fun c_11 => absurd c_11 (by decide)) (fun c_11 => ?_)
  refine lv_iload_n hx hb dX3_slip_14 rfl (lv_at hl 3 rfl) ?_
  refine lv_iconst (v := nI 0) hx hb dX3_slip_15 (by decide) ?_
  refine lv_aload_n hx hb dX3_slip_16 rfl (lv_at hl 0 rfl) ?_
  refine h_get (v := .ref lv) hx hb hts hi3 hown hK0 hV0 hm.cmo rfl 2 (by decide) hw1 rfl dX3_slip_17 ?_
  refine lv_iload_n hx hb dX3_slip_20 rfl (lv_at hl 1 rfl) ?_
  refine h_aaldE (i := lz) hm.clv hx hb hK0 hV0 rfl rfl (by omega) (by omega) dX3_slip_21 ?_
  refine lv_iload_n hx hb dX3_slip_22 rfl (lv_at hl 2 rfl) ?_
  refine h_aaldE (i := r) (hm.clvl (l := lz) (by omega)) hx hb hK0 hV0 rfl rfl (by omega) (by omega) dX3_slip_23 ?_
  refine h_rdS (As := [.ref (row lz r)]) (rest := [.int (nI 0), .int z]) hF (c_X3_size l G (hput hp mo (eO 3 [.int (nI 0), .ref dk, .ref lv, .ref nb])) (row lz r) (bG V lz r) (hm.crow (l := lz) (r := r) (by omega) (by omega))) 1 gX3_slip_X3_size rfl (by decide +kernel) ⟨Nat.le_of_ble_eq_true rfl, Nat.le_of_ble_eq_true rfl⟩ hK0 hV0 rfl hl.1 rfl (Nat.le_of_ble_eq_true rfl) (Nat.le_of_ble_eq_true rfl) (Nat.le_of_ble_eq_true rfl) dX3_slip_24 ?_
  refine lv_iconst (v := nI 1) hx hb dX3_slip_27 (by decide) ?_
  refine lv_isub hx hb dX3_slip_28 ?_
  refine h_rdS (As := [.int z, .int (nI 0), .int (nI (szR (bG V lz r)) - nI 1)]) (rest := []) hF (c_X3_isIn l G (hput hp mo (eO 3 [.int (nI 0), .ref dk, .ref lv, .ref nb])) (z) (nI 0) ((nI (szR (bG V lz r)) - nI 1))) 3 gX3_slip_X3_isIn rfl (by decide +kernel) ⟨Nat.le_of_ble_eq_true rfl, Nat.le_of_ble_eq_true rfl⟩ hK0 hV0 rfl hl.1 rfl (Nat.le_of_ble_eq_true rfl) (Nat.le_of_ble_eq_true rfl) (Nat.le_of_ble_eq_true rfl) dX3_slip_29 ?_
  refine h_if_eqB (tgt := 50) hx hb dX3_slip_32 (by decide) (fun c_32 => ?_) (fun c_32 => absurd ((isR_n hb0 (by omega)).symm.trans c_32) (by decide))
  refine lv_aload_n hx hb dX3_slip_50 rfl (lv_at hl 0 rfl) ?_
  refine lv_iconst (v := nI 1) hx hb dX3_slip_51 (by decide) ?_
  refine h_wrV (As := [.int (nI 1)]) (rest := []) hF (c_X3_fail l G A (hput hp mo (eO 3 [.int (nI 0), .ref dk, .ref lv, .ref nb])) X mo dk lv nb lvl row ((nI 0)) d V rm dt hm hX 1 hD hA0) 1 gX3_slip_X3_fail rfl (by decide +kernel) ⟨Nat.le_of_ble_eq_true rfl, Nat.le_of_ble_eq_true rfl⟩ hK0 hV0 hA hS hm.cmo rfl rfl rfl hl.1 rfl (Nat.le_of_ble_eq_true rfl) ⟨Nat.le_of_ble_eq_true rfl, Nat.le_of_ble_eq_true rfl⟩ dX3_slip_52 (fun ro hp1 H locs hP1 hV0 hA0 hS => ?_)
  obtain ⟨rfl, lvl2, row2, hm2, hX2, hD2, hK2⟩ := hP1
  exact W.iret hx hb hr (h_qW ⟨rfl, dk, lv, nb, lvl2, row2, hm2, hX2, hD2, hK.tr hK2⟩ hV0 hA0 hS) hS.2.2 dX3_slip_55 hlocks

set_option maxHeartbeats 1000000 in
set_option maxRecDepth 100000 in
theorem c_X3_slip (l : Launch) (G : hG) (A : Nat → Prop) (hp : HP) (X : Nat → Prop) (mo dk lv nb : Nat) (lvl : Nat → Nat) (row : Nat → Nat → Nat) (th : Int32) (d : Row) (V : BV) (rm dt : Int32) (hm : mA mo dk lv nb lvl row th d V rm dt hp) (hX : mX X mo dk lv nb hp) (hD : mD dk row V) (lz : Nat) (hl4 : lz < 4) (r : Nat) (hr0 : r < bN V lz) (k : Nat) (hk : k < szR (bG V lz r)) (hA0 : hIn A hp) : hWr l yX3_slip wsX3_slip 3 64 0 0 G A hp [.ref mo, .int (nI lz), .int (nI r), .int (nI k)] (fun ro hp' => ro = some (.int (toldR (bG V lz r) (nthR (bG V lz r) k))) ∧ mP X mo (nI 0) d V rm dt hp hp') := by
  refine Met.ofW (cc := cX3_slip) (maxL := 4) (ret := (some .int)) (by decide) rfl ?_
  intro p e s m args below meth c s₁ B hml hv
  obtain ⟨rfl, hV0, hK0, hA⟩ := hv
  have hx := B.exec
  have hb := B.bytes
  have hr := B.returns
  have hts := atoms_spec (ws := wsX3_slip) B.pre
  have hown : s.vm.findClass RX3 = some m.cls := findClass_of_methodNamed B.named
  have hlocks := B.notSynchronized
  have hF : CallFix p m c cX3_slip 4 s [.ref mo, .int (nI lz), .int (nI r), .int (nI k)].toArray wsX3_slip RX3 := ⟨hx, hb, hml, hown, hts⟩
  have hw0 := hts (.fieldLink RX3 27 "SlipLevelsModel" "thrown" "I") (by decide +kernel)
  have hw1 := hts (.fieldLink RX3 20 "SlipLevelsModel" "levels" "[[[I") (by decide +kernel)
  have hi3 : ∀ w ∈ u_ws RX3 TX3 4, w ∈ wsX3_slip := by
    intro w h
    unfold wsX3_slip
    simp only [List.mem_cons, List.mem_append, h, true_or, or_true]
  have hS : va_S A s.heap s.heap [] := va_S.rf
  have hl := lv_entry ([.ref mo, .int (nI lz), .int (nI r), .int (nI k)]) (n := 4) (Nat.le_of_ble_eq_true rfl)
  rw [lg_entry_eq]
  generalize (lg_sl ([.ref mo, .int (nI lz), .int (nI r), .int (nI k)]) ++ List.replicate (4 - (lg_sl ([.ref mo, .int (nI lz), .int (nI r), .int (nI k)])).length) Slot.unset).toArray = ls at hl ⊢
  replace hl : lv_has ls 4 [(0, .ref mo), (1, .int (nI lz)), (2, .int (nI r)), (3, .int (nI k))] := hl
  have hn := hm.le
  have hK : mKp X hp hp := mKp.rf
  have hnl := hn lz
  have hz9 := szR_le (bG V lz r)
  refine lv_aload_n hx hb dX3_slip_0 rfl (lv_at hl 0 rfl) ?_
  refine lv_iconst (v := nI 0) hx hb dX3_slip_1 (by decide) ?_
  refine h_put (v := .int (nI 0)) hx hb hts hi3 tyX3 tyX3_ok nmX3 hown hK0 hV0 hA0 hS hm.cmo rfl 0 (by decide) hw0 rfl (by rfl) (by rfl) (Nat.le_of_ble_eq_true rfl) dX3_slip_2 (fun H locs hV0 hA0 hS => ?_)
  have hm : mA mo dk lv nb lvl row ((nI 0)) d V rm dt (hput hp mo (eO 3 [.int (nI 0), .ref dk, .ref lv, .ref nb])) := hm.setTh (nI 0)
  have hX : mX X mo dk lv nb (hput hp mo (eO 3 [.int (nI 0), .ref dk, .ref lv, .ref nb])) := hX.put _ _
  have hK : mKp X hp (hput hp mo (eO 3 [.int (nI 0), .ref dk, .ref lv, .ref nb])) := hK.put hX.1.1
  have hn := hm.le
  refine lv_aload_n hx hb dX3_slip_5 rfl (lv_at hl 0 rfl) ?_
  refine lv_iload_n hx hb dX3_slip_6 rfl (lv_at hl 1 rfl) ?_
  refine lv_iload_n hx hb dX3_slip_7 rfl (lv_at hl 2 rfl) ?_
  refine h_rdV (As := [.int (nI lz), .int (nI r)]) (rest := []) hF (c_X3_isRun l G (hput hp mo (eO 3 [.int (nI 0), .ref dk, .ref lv, .ref nb])) mo dk lv nb lvl row ((nI 0)) d V rm dt hm lz r (by omega) (by omega)) 2 gX3_slip_X3_isRun rfl (by decide +kernel) ⟨Nat.le_of_ble_eq_true rfl, Nat.le_of_ble_eq_true rfl⟩ hK0 hV0 hm.cmo rfl rfl rfl hl.1 rfl (Nat.le_of_ble_eq_true rfl) (Nat.le_of_ble_eq_true rfl) (Nat.le_of_ble_eq_true rfl) dX3_slip_8 ?_
  refine h_if_eqB (tgt := 50) hx hb dX3_slip_11 (by decide) (fun c_11 => absurd c_11 (by decide)) (fun c_11 => ?_)
  refine lv_iload_n hx hb dX3_slip_14 rfl (lv_at hl 3 rfl) ?_
  refine lv_iconst (v := nI 0) hx hb dX3_slip_15 (by decide) ?_
  refine lv_aload_n hx hb dX3_slip_16 rfl (lv_at hl 0 rfl) ?_
  refine h_get (v := .ref lv) hx hb hts hi3 hown hK0 hV0 hm.cmo rfl 2 (by decide) hw1 rfl dX3_slip_17 ?_
  refine lv_iload_n hx hb dX3_slip_20 rfl (lv_at hl 1 rfl) ?_
  refine h_aaldE (i := lz) hm.clv hx hb hK0 hV0 rfl rfl (by omega) (by omega) dX3_slip_21 ?_
  refine lv_iload_n hx hb dX3_slip_22 rfl (lv_at hl 2 rfl) ?_
  refine h_aaldE (i := r) (hm.clvl (l := lz) (by omega)) hx hb hK0 hV0 rfl rfl (by omega) (by omega) dX3_slip_23 ?_
  refine h_rdS (As := [.ref (row lz r)]) (rest := [.int (nI 0), .int (nI k)]) hF (c_X3_size l G (hput hp mo (eO 3 [.int (nI 0), .ref dk, .ref lv, .ref nb])) (row lz r) (bG V lz r) (hm.crow (l := lz) (r := r) (by omega) (by omega))) 1 gX3_slip_X3_size rfl (by decide +kernel) ⟨Nat.le_of_ble_eq_true rfl, Nat.le_of_ble_eq_true rfl⟩ hK0 hV0 rfl hl.1 rfl (Nat.le_of_ble_eq_true rfl) (Nat.le_of_ble_eq_true rfl) (Nat.le_of_ble_eq_true rfl) dX3_slip_24 ?_
  refine lv_iconst (v := nI 1) hx hb dX3_slip_27 (by decide) ?_
  refine lv_isub hx hb dX3_slip_28 ?_
  refine h_rdS (As := [.int (nI k), .int (nI 0), .int (nI (szR (bG V lz r)) - nI 1)]) (rest := []) hF (c_X3_isIn l G (hput hp mo (eO 3 [.int (nI 0), .ref dk, .ref lv, .ref nb])) (nI k) (nI 0) ((nI (szR (bG V lz r)) - nI 1))) 3 gX3_slip_X3_isIn rfl (by decide +kernel) ⟨Nat.le_of_ble_eq_true rfl, Nat.le_of_ble_eq_true rfl⟩ hK0 hV0 rfl hl.1 rfl (Nat.le_of_ble_eq_true rfl) (Nat.le_of_ble_eq_true rfl) (Nat.le_of_ble_eq_true rfl) dX3_slip_29 ?_
  refine h_if_eqB (tgt := 50) hx hb dX3_slip_32 (by decide) (fun c_32 => absurd ((isR_y hk (by omega)).symm.trans c_32) (by decide)) (fun c_32 => ?_)
  refine lv_aload_n hx hb dX3_slip_35 rfl (lv_at hl 0 rfl) ?_
  refine h_get (v := .ref lv) hx hb hts hi3 hown hK0 hV0 hm.cmo rfl 2 (by decide) hw1 rfl dX3_slip_36 ?_
  refine lv_iload_n hx hb dX3_slip_39 rfl (lv_at hl 1 rfl) ?_
  refine h_aaldE (i := lz) hm.clv hx hb hK0 hV0 rfl rfl (by omega) (by omega) dX3_slip_40 ?_
  refine lv_iload_n hx hb dX3_slip_41 rfl (lv_at hl 2 rfl) ?_
  refine h_aaldE (i := r) (hm.clvl (l := lz) (by omega)) hx hb hK0 hV0 rfl rfl (by omega) (by omega) dX3_slip_42 ?_
  refine lv_iload_n hx hb dX3_slip_43 rfl (lv_at hl 3 rfl) ?_
  refine h_rdS (As := [.ref (row lz r), .int (nI k)]) (rest := []) hF (c_X3_slipTold l G (hput hp mo (eO 3 [.int (nI 0), .ref dk, .ref lv, .ref nb])) (row lz r) (bG V lz r) (hm.crow (l := lz) (r := r) (by omega) (by omega)) k (by omega)) 2 gX3_slip_X3_slipTold rfl (by decide +kernel) ⟨Nat.le_of_ble_eq_true rfl, Nat.le_of_ble_eq_true rfl⟩ hK0 hV0 rfl hl.1 rfl (Nat.le_of_ble_eq_true rfl) (Nat.le_of_ble_eq_true rfl) (Nat.le_of_ble_eq_true rfl) dX3_slip_44 ?_
  refine lv_goto (tgt := 55) hx hb dX3_slip_47 (by decide) ?_
  exact W.iret hx hb hr (h_qW ⟨rfl, dk, lv, nb, lvl, row, hm, hX, hD, hK⟩ hV0 hA0 hS) hS.2.2 dX3_slip_55 hlocks

set_option maxHeartbeats 1000000 in
set_option maxRecDepth 100000 in
theorem c_X3_deskN (l : Launch) (G : hG) (A : Nat → Prop) (hp : HP) (X : Nat → Prop) (mo dk lv nb : Nat) (lvl : Nat → Nat) (row : Nat → Nat → Nat) (th : Int32) (d : Row) (V : BV) (rm dt : Int32) (hm : mA mo dk lv nb lvl row th d V rm dt hp) (hX : mX X mo dk lv nb hp) (hD : mD dk row V) (z : Int32) (hb0 : z < 0 ∨ nI (szR d) ≤ z) (hA0 : hIn A hp) : hWr l yX3_desk wsX3_desk 1 25 0 0 G A hp [.ref mo, .int z] (fun ro hp' => ro = some (.int (nI 0)) ∧ mP X mo (nI 1) d V rm dt hp hp') := by
  refine Met.ofW (cc := cX3_desk) (maxL := 2) (ret := (some .int)) (by decide) rfl ?_
  intro p e s m args below meth c s₁ B hml hv
  obtain ⟨rfl, hV0, hK0, hA⟩ := hv
  have hx := B.exec
  have hb := B.bytes
  have hr := B.returns
  have hts := atoms_spec (ws := wsX3_desk) B.pre
  have hown : s.vm.findClass RX3 = some m.cls := findClass_of_methodNamed B.named
  have hlocks := B.notSynchronized
  have hF : CallFix p m c cX3_desk 2 s [.ref mo, .int z].toArray wsX3_desk RX3 := ⟨hx, hb, hml, hown, hts⟩
  have hw0 := hts (.fieldLink RX3 27 "SlipLevelsModel" "thrown" "I") (by decide +kernel)
  have hw1 := hts (.fieldLink RX3 13 "SlipLevelsModel" "desk" "[I") (by decide +kernel)
  have hi3 : ∀ w ∈ u_ws RX3 TX3 4, w ∈ wsX3_desk := by
    intro w h
    unfold wsX3_desk
    simp only [List.mem_cons, List.mem_append, h, true_or, or_true]
  have hS : va_S A s.heap s.heap [] := va_S.rf
  have hl := lv_entry ([.ref mo, .int z]) (n := 2) (Nat.le_of_ble_eq_true rfl)
  rw [lg_entry_eq]
  generalize (lg_sl ([.ref mo, .int z]) ++ List.replicate (2 - (lg_sl ([.ref mo, .int z])).length) Slot.unset).toArray = ls at hl ⊢
  replace hl : lv_has ls 2 [(0, .ref mo), (1, .int z)] := hl
  have hn := hm.le
  have hK : mKp X hp hp := mKp.rf
  have hz9 := szR_le d
  refine lv_aload_n hx hb dX3_desk_0 rfl (lv_at hl 0 rfl) ?_
  refine lv_iconst (v := nI 0) hx hb dX3_desk_1 (by decide) ?_
  refine h_put (v := .int (nI 0)) hx hb hts hi3 tyX3 tyX3_ok nmX3 hown hK0 hV0 hA0 hS hm.cmo rfl 0 (by decide) hw0 rfl (by rfl) (by rfl) (Nat.le_of_ble_eq_true rfl) dX3_desk_2 (fun H locs hV0 hA0 hS => ?_)
  have hm : mA mo dk lv nb lvl row ((nI 0)) d V rm dt (hput hp mo (eO 3 [.int (nI 0), .ref dk, .ref lv, .ref nb])) := hm.setTh (nI 0)
  have hX : mX X mo dk lv nb (hput hp mo (eO 3 [.int (nI 0), .ref dk, .ref lv, .ref nb])) := hX.put _ _
  have hK : mKp X hp (hput hp mo (eO 3 [.int (nI 0), .ref dk, .ref lv, .ref nb])) := hK.put hX.1.1
  have hn := hm.le
  refine lv_iload_n hx hb dX3_desk_5 rfl (lv_at hl 1 rfl) ?_
  refine lv_iconst (v := nI 0) hx hb dX3_desk_6 (by decide) ?_
  refine lv_aload_n hx hb dX3_desk_7 rfl (lv_at hl 0 rfl) ?_
  refine h_get (v := .ref dk) hx hb hts hi3 hown hK0 hV0 hm.cmo rfl 1 (by decide) hw1 rfl dX3_desk_8 ?_
  refine h_rdS (As := [.ref dk]) (rest := [.int (nI 0), .int z]) hF (c_X3_size l G (hput hp mo (eO 3 [.int (nI 0), .ref dk, .ref lv, .ref nb])) dk d hm.cdk) 1 gX3_desk_X3_size rfl (by decide +kernel) ⟨Nat.le_of_ble_eq_true rfl, Nat.le_of_ble_eq_true rfl⟩ hK0 hV0 rfl hl.1 rfl (Nat.le_of_ble_eq_true rfl) (Nat.le_of_ble_eq_true rfl) (Nat.le_of_ble_eq_true rfl) dX3_desk_11 ?_
  refine lv_iconst (v := nI 1) hx hb dX3_desk_14 (by decide) ?_
  refine lv_isub hx hb dX3_desk_15 ?_
  refine h_rdS (As := [.int z, .int (nI 0), .int (nI (szR d) - nI 1)]) (rest := []) hF (c_X3_isIn l G (hput hp mo (eO 3 [.int (nI 0), .ref dk, .ref lv, .ref nb])) (z) (nI 0) ((nI (szR d) - nI 1))) 3 gX3_desk_X3_isIn rfl (by decide +kernel) ⟨Nat.le_of_ble_eq_true rfl, Nat.le_of_ble_eq_true rfl⟩ hK0 hV0 rfl hl.1 rfl (Nat.le_of_ble_eq_true rfl) (Nat.le_of_ble_eq_true rfl) (Nat.le_of_ble_eq_true rfl) dX3_desk_16 ?_
  refine h_if_eqB (tgt := 33) hx hb dX3_desk_19 (by decide) (fun c_19 => ?_) (fun c_19 => absurd ((isR_n hb0 (by omega)).symm.trans c_19) (by decide))
  refine lv_aload_n hx hb dX3_desk_33 rfl (lv_at hl 0 rfl) ?_
  refine lv_iconst (v := nI 1) hx hb dX3_desk_34 (by decide) ?_
  refine h_wrV (As := [.int (nI 1)]) (rest := []) hF (c_X3_fail l G A (hput hp mo (eO 3 [.int (nI 0), .ref dk, .ref lv, .ref nb])) X mo dk lv nb lvl row ((nI 0)) d V rm dt hm hX 1 hD hA0) 1 gX3_desk_X3_fail rfl (by decide +kernel) ⟨Nat.le_of_ble_eq_true rfl, Nat.le_of_ble_eq_true rfl⟩ hK0 hV0 hA hS hm.cmo rfl rfl rfl hl.1 rfl (Nat.le_of_ble_eq_true rfl) ⟨Nat.le_of_ble_eq_true rfl, Nat.le_of_ble_eq_true rfl⟩ dX3_desk_35 (fun ro hp1 H locs hP1 hV0 hA0 hS => ?_)
  obtain ⟨rfl, lvl2, row2, hm2, hX2, hD2, hK2⟩ := hP1
  exact W.iret hx hb hr (h_qW ⟨rfl, dk, lv, nb, lvl2, row2, hm2, hX2, hD2, hK.tr hK2⟩ hV0 hA0 hS) hS.2.2 dX3_desk_38 hlocks

set_option maxHeartbeats 1000000 in
set_option maxRecDepth 100000 in
theorem c_X3_desk (l : Launch) (G : hG) (A : Nat → Prop) (hp : HP) (X : Nat → Prop) (mo dk lv nb : Nat) (lvl : Nat → Nat) (row : Nat → Nat → Nat) (th : Int32) (d : Row) (V : BV) (rm dt : Int32) (hm : mA mo dk lv nb lvl row th d V rm dt hp) (hX : mX X mo dk lv nb hp) (hD : mD dk row V) (k : Nat) (hk : k < szR d) (hA0 : hIn A hp) : hWr l yX3_desk wsX3_desk 2 46 0 0 G A hp [.ref mo, .int (nI k)] (fun ro hp' => ro = some (.int (toldR d (nthR d k))) ∧ mP X mo (nI 0) d V rm dt hp hp') := by
  refine Met.ofW (cc := cX3_desk) (maxL := 2) (ret := (some .int)) (by decide) rfl ?_
  intro p e s m args below meth c s₁ B hml hv
  obtain ⟨rfl, hV0, hK0, hA⟩ := hv
  have hx := B.exec
  have hb := B.bytes
  have hr := B.returns
  have hts := atoms_spec (ws := wsX3_desk) B.pre
  have hown : s.vm.findClass RX3 = some m.cls := findClass_of_methodNamed B.named
  have hlocks := B.notSynchronized
  have hF : CallFix p m c cX3_desk 2 s [.ref mo, .int (nI k)].toArray wsX3_desk RX3 := ⟨hx, hb, hml, hown, hts⟩
  have hw0 := hts (.fieldLink RX3 27 "SlipLevelsModel" "thrown" "I") (by decide +kernel)
  have hw1 := hts (.fieldLink RX3 13 "SlipLevelsModel" "desk" "[I") (by decide +kernel)
  have hi3 : ∀ w ∈ u_ws RX3 TX3 4, w ∈ wsX3_desk := by
    intro w h
    unfold wsX3_desk
    simp only [List.mem_cons, List.mem_append, h, true_or, or_true]
  have hS : va_S A s.heap s.heap [] := va_S.rf
  have hl := lv_entry ([.ref mo, .int (nI k)]) (n := 2) (Nat.le_of_ble_eq_true rfl)
  rw [lg_entry_eq]
  generalize (lg_sl ([.ref mo, .int (nI k)]) ++ List.replicate (2 - (lg_sl ([.ref mo, .int (nI k)])).length) Slot.unset).toArray = ls at hl ⊢
  replace hl : lv_has ls 2 [(0, .ref mo), (1, .int (nI k))] := hl
  have hn := hm.le
  have hK : mKp X hp hp := mKp.rf
  have hz9 := szR_le d
  refine lv_aload_n hx hb dX3_desk_0 rfl (lv_at hl 0 rfl) ?_
  refine lv_iconst (v := nI 0) hx hb dX3_desk_1 (by decide) ?_
  refine h_put (v := .int (nI 0)) hx hb hts hi3 tyX3 tyX3_ok nmX3 hown hK0 hV0 hA0 hS hm.cmo rfl 0 (by decide) hw0 rfl (by rfl) (by rfl) (Nat.le_of_ble_eq_true rfl) dX3_desk_2 (fun H locs hV0 hA0 hS => ?_)
  have hm : mA mo dk lv nb lvl row ((nI 0)) d V rm dt (hput hp mo (eO 3 [.int (nI 0), .ref dk, .ref lv, .ref nb])) := hm.setTh (nI 0)
  have hX : mX X mo dk lv nb (hput hp mo (eO 3 [.int (nI 0), .ref dk, .ref lv, .ref nb])) := hX.put _ _
  have hK : mKp X hp (hput hp mo (eO 3 [.int (nI 0), .ref dk, .ref lv, .ref nb])) := hK.put hX.1.1
  have hn := hm.le
  refine lv_iload_n hx hb dX3_desk_5 rfl (lv_at hl 1 rfl) ?_
  refine lv_iconst (v := nI 0) hx hb dX3_desk_6 (by decide) ?_
  refine lv_aload_n hx hb dX3_desk_7 rfl (lv_at hl 0 rfl) ?_
  refine h_get (v := .ref dk) hx hb hts hi3 hown hK0 hV0 hm.cmo rfl 1 (by decide) hw1 rfl dX3_desk_8 ?_
  refine h_rdS (As := [.ref dk]) (rest := [.int (nI 0), .int (nI k)]) hF (c_X3_size l G (hput hp mo (eO 3 [.int (nI 0), .ref dk, .ref lv, .ref nb])) dk d hm.cdk) 1 gX3_desk_X3_size rfl (by decide +kernel) ⟨Nat.le_of_ble_eq_true rfl, Nat.le_of_ble_eq_true rfl⟩ hK0 hV0 rfl hl.1 rfl (Nat.le_of_ble_eq_true rfl) (Nat.le_of_ble_eq_true rfl) (Nat.le_of_ble_eq_true rfl) dX3_desk_11 ?_
  refine lv_iconst (v := nI 1) hx hb dX3_desk_14 (by decide) ?_
  refine lv_isub hx hb dX3_desk_15 ?_
  refine h_rdS (As := [.int (nI k), .int (nI 0), .int (nI (szR d) - nI 1)]) (rest := []) hF (c_X3_isIn l G (hput hp mo (eO 3 [.int (nI 0), .ref dk, .ref lv, .ref nb])) (nI k) (nI 0) ((nI (szR d) - nI 1))) 3 gX3_desk_X3_isIn rfl (by decide +kernel) ⟨Nat.le_of_ble_eq_true rfl, Nat.le_of_ble_eq_true rfl⟩ hK0 hV0 rfl hl.1 rfl (Nat.le_of_ble_eq_true rfl) (Nat.le_of_ble_eq_true rfl) (Nat.le_of_ble_eq_true rfl) dX3_desk_16 ?_
  refine h_if_eqB (tgt := 33) hx hb dX3_desk_19 (by decide) (fun c_19 => absurd ((isR_y hk (by omega)).symm.trans c_19) (by decide)) (fun c_19 => ?_)
  refine lv_aload_n hx hb dX3_desk_22 rfl (lv_at hl 0 rfl) ?_
  refine h_get (v := .ref dk) hx hb hts hi3 hown hK0 hV0 hm.cmo rfl 1 (by decide) hw1 rfl dX3_desk_23 ?_
  refine lv_iload_n hx hb dX3_desk_26 rfl (lv_at hl 1 rfl) ?_
  refine h_rdS (As := [.ref dk, .int (nI k)]) (rest := []) hF (c_X3_slipTold l G (hput hp mo (eO 3 [.int (nI 0), .ref dk, .ref lv, .ref nb])) dk d hm.cdk k (by omega)) 2 gX3_desk_X3_slipTold rfl (by decide +kernel) ⟨Nat.le_of_ble_eq_true rfl, Nat.le_of_ble_eq_true rfl⟩ hK0 hV0 rfl hl.1 rfl (Nat.le_of_ble_eq_true rfl) (Nat.le_of_ble_eq_true rfl) (Nat.le_of_ble_eq_true rfl) dX3_desk_27 ?_
  refine lv_goto (tgt := 38) hx hb dX3_desk_30 (by decide) ?_
  exact W.iret hx hb hr (h_qW ⟨rfl, dk, lv, nb, lvl, row, hm, hX, hD, hK⟩ hV0 hA0 hS) hS.2.2 dX3_desk_38 hlocks

set_option maxHeartbeats 1000000 in
set_option maxRecDepth 100000 in
theorem c_X3_levelL (l : Launch) (G : hG) (A : Nat → Prop) (hp : HP) (X : Nat → Prop) (mo dk lv nb : Nat) (lvl : Nat → Nat) (row : Nat → Nat → Nat) (th : Int32) (d : Row) (V : BV) (rm dt : Int32) (hm : mA mo dk lv nb lvl row th d V rm dt hp) (hX : mX X mo dk lv nb hp) (hD : mD dk row V) (y : Int32) (x : Int32) (hb0 : x < 0 ∨ nI 4 ≤ x) (hA0 : hIn A hp) : hWr l yX3_level wsX3_level 2 42 0 0 G A hp [.ref mo, .int x, .int y] (fun ro hp' => ro = some (.int (nI 0)) ∧ mP X mo (nI 1) d V rm dt hp hp') := by
  refine Met.ofW (cc := cX3_level) (maxL := 3) (ret := (some .int)) (by decide) rfl ?_
  intro p e s m args below meth c s₁ B hml hv
  obtain ⟨rfl, hV0, hK0, hA⟩ := hv
  have hx := B.exec
  have hb := B.bytes
  have hr := B.returns
  have hts := atoms_spec (ws := wsX3_level) B.pre
  have hown : s.vm.findClass RX3 = some m.cls := findClass_of_methodNamed B.named
  have hlocks := B.notSynchronized
  have hF : CallFix p m c cX3_level 3 s [.ref mo, .int x, .int y].toArray wsX3_level RX3 := ⟨hx, hb, hml, hown, hts⟩
  have hw0 := hts (.fieldLink RX3 27 "SlipLevelsModel" "thrown" "I") (by decide +kernel)
  have hi3 : ∀ w ∈ u_ws RX3 TX3 4, w ∈ wsX3_level := by
    intro w h
    unfold wsX3_level
    simp only [List.mem_cons, List.mem_append, h, true_or, or_true]
  have hS : va_S A s.heap s.heap [] := va_S.rf
  have hl := lv_entry ([.ref mo, .int x, .int y]) (n := 3) (Nat.le_of_ble_eq_true rfl)
  rw [lg_entry_eq]
  generalize (lg_sl ([.ref mo, .int x, .int y]) ++ List.replicate (3 - (lg_sl ([.ref mo, .int x, .int y])).length) Slot.unset).toArray = ls at hl ⊢
  replace hl : lv_has ls 3 [(0, .ref mo), (1, .int x), (2, .int y)] := hl
  have hn := hm.le
  have hK : mKp X hp hp := mKp.rf
  refine lv_aload_n hx hb dX3_level_0 rfl (lv_at hl 0 rfl) ?_
  refine lv_iconst (v := nI 0) hx hb dX3_level_1 (by decide) ?_
  refine h_put (v := .int (nI 0)) hx hb hts hi3 tyX3 tyX3_ok nmX3 hown hK0 hV0 hA0 hS hm.cmo rfl 0 (by decide) hw0 rfl (by rfl) (by rfl) (Nat.le_of_ble_eq_true rfl) dX3_level_2 (fun H locs hV0 hA0 hS => ?_)
  have hm : mA mo dk lv nb lvl row ((nI 0)) d V rm dt (hput hp mo (eO 3 [.int (nI 0), .ref dk, .ref lv, .ref nb])) := hm.setTh (nI 0)
  have hX : mX X mo dk lv nb (hput hp mo (eO 3 [.int (nI 0), .ref dk, .ref lv, .ref nb])) := hX.put _ _
  have hK : mKp X hp (hput hp mo (eO 3 [.int (nI 0), .ref dk, .ref lv, .ref nb])) := hK.put hX.1.1
  have hn := hm.le
  refine lv_iload_n hx hb dX3_level_5 rfl (lv_at hl 1 rfl) ?_
  refine h_rdS (As := [.int x]) (rest := []) hF (c_X3_isLevel l G (hput hp mo (eO 3 [.int (nI 0), .ref dk, .ref lv, .ref nb])) (x)) 1 gX3_level_X3_isLevel rfl (by decide +kernel) ⟨Nat.le_of_ble_eq_true rfl, Nat.le_of_ble_eq_true rfl⟩ hK0 hV0 rfl hl.1 rfl (Nat.le_of_ble_eq_true rfl) (Nat.le_of_ble_eq_true rfl) (Nat.le_of_ble_eq_true rfl) dX3_level_6 ?_
  refine h_if_eqB (tgt := 30) hx hb dX3_level_9 (by decide) (fun c_9 => ?_) (fun c_9 => absurd ((isN_n (c := 3) hb0 (by omega)).symm.trans c_9) (by decide))
  refine lv_aload_n hx hb dX3_level_30 rfl (lv_at hl 0 rfl) ?_
  refine lv_iconst (v := nI 1) hx hb dX3_level_31 (by decide) ?_
  refine h_wrV (As := [.int (nI 1)]) (rest := []) hF (c_X3_fail l G A (hput hp mo (eO 3 [.int (nI 0), .ref dk, .ref lv, .ref nb])) X mo dk lv nb lvl row ((nI 0)) d V rm dt hm hX 1 hD hA0) 1 gX3_level_X3_fail rfl (by decide +kernel) ⟨Nat.le_of_ble_eq_true rfl, Nat.le_of_ble_eq_true rfl⟩ hK0 hV0 hA hS hm.cmo rfl rfl rfl hl.1 rfl (Nat.le_of_ble_eq_true rfl) ⟨Nat.le_of_ble_eq_true rfl, Nat.le_of_ble_eq_true rfl⟩ dX3_level_32 (fun ro hp1 H locs hP1 hV0 hA0 hS => ?_)
  obtain ⟨rfl, lvl2, row2, hm2, hX2, hD2, hK2⟩ := hP1
  exact W.iret hx hb hr (h_qW ⟨rfl, dk, lv, nb, lvl2, row2, hm2, hX2, hD2, hK.tr hK2⟩ hV0 hA0 hS) hS.2.2 dX3_level_35 hlocks

set_option maxHeartbeats 1000000 in
set_option maxRecDepth 100000 in
theorem c_X3_levelW (l : Launch) (G : hG) (A : Nat → Prop) (hp : HP) (X : Nat → Prop) (mo dk lv nb : Nat) (lvl : Nat → Nat) (row : Nat → Nat → Nat) (th : Int32) (d : Row) (V : BV) (rm dt : Int32) (hm : mA mo dk lv nb lvl row th d V rm dt hp) (hX : mX X mo dk lv nb hp) (hD : mD dk row V) (lz : Nat) (hl4 : lz < 4) (y : Int32) (hb0 : y < 0 ∨ nI 3 ≤ y) (hA0 : hIn A hp) : hWr l yX3_level wsX3_level 2 42 0 0 G A hp [.ref mo, .int (nI lz), .int y] (fun ro hp' => ro = some (.int (nI 0)) ∧ mP X mo (nI 1) d V rm dt hp hp') := by
  refine Met.ofW (cc := cX3_level) (maxL := 3) (ret := (some .int)) (by decide) rfl ?_
  intro p e s m args below meth c s₁ B hml hv
  obtain ⟨rfl, hV0, hK0, hA⟩ := hv
  have hx := B.exec
  have hb := B.bytes
  have hr := B.returns
  have hts := atoms_spec (ws := wsX3_level) B.pre
  have hown : s.vm.findClass RX3 = some m.cls := findClass_of_methodNamed B.named
  have hlocks := B.notSynchronized
  have hF : CallFix p m c cX3_level 3 s [.ref mo, .int (nI lz), .int y].toArray wsX3_level RX3 := ⟨hx, hb, hml, hown, hts⟩
  have hw0 := hts (.fieldLink RX3 27 "SlipLevelsModel" "thrown" "I") (by decide +kernel)
  have hi3 : ∀ w ∈ u_ws RX3 TX3 4, w ∈ wsX3_level := by
    intro w h
    unfold wsX3_level
    simp only [List.mem_cons, List.mem_append, h, true_or, or_true]
  have hS : va_S A s.heap s.heap [] := va_S.rf
  have hl := lv_entry ([.ref mo, .int (nI lz), .int y]) (n := 3) (Nat.le_of_ble_eq_true rfl)
  rw [lg_entry_eq]
  generalize (lg_sl ([.ref mo, .int (nI lz), .int y]) ++ List.replicate (3 - (lg_sl ([.ref mo, .int (nI lz), .int y])).length) Slot.unset).toArray = ls at hl ⊢
  replace hl : lv_has ls 3 [(0, .ref mo), (1, .int (nI lz)), (2, .int y)] := hl
  have hn := hm.le
  have hK : mKp X hp hp := mKp.rf
  refine lv_aload_n hx hb dX3_level_0 rfl (lv_at hl 0 rfl) ?_
  refine lv_iconst (v := nI 0) hx hb dX3_level_1 (by decide) ?_
  refine h_put (v := .int (nI 0)) hx hb hts hi3 tyX3 tyX3_ok nmX3 hown hK0 hV0 hA0 hS hm.cmo rfl 0 (by decide) hw0 rfl (by rfl) (by rfl) (Nat.le_of_ble_eq_true rfl) dX3_level_2 (fun H locs hV0 hA0 hS => ?_)
  have hm : mA mo dk lv nb lvl row ((nI 0)) d V rm dt (hput hp mo (eO 3 [.int (nI 0), .ref dk, .ref lv, .ref nb])) := hm.setTh (nI 0)
  have hX : mX X mo dk lv nb (hput hp mo (eO 3 [.int (nI 0), .ref dk, .ref lv, .ref nb])) := hX.put _ _
  have hK : mKp X hp (hput hp mo (eO 3 [.int (nI 0), .ref dk, .ref lv, .ref nb])) := hK.put hX.1.1
  have hn := hm.le
  refine lv_iload_n hx hb dX3_level_5 rfl (lv_at hl 1 rfl) ?_
  refine h_rdS (As := [.int (nI lz)]) (rest := []) hF (c_X3_isLevel l G (hput hp mo (eO 3 [.int (nI 0), .ref dk, .ref lv, .ref nb])) (nI lz)) 1 gX3_level_X3_isLevel rfl (by decide +kernel) ⟨Nat.le_of_ble_eq_true rfl, Nat.le_of_ble_eq_true rfl⟩ hK0 hV0 rfl hl.1 rfl (Nat.le_of_ble_eq_true rfl) (Nat.le_of_ble_eq_true rfl) (Nat.le_of_ble_eq_true rfl) dX3_level_6 ?_
  refine h_if_eqB (tgt := 30) hx hb dX3_level_9 (by decide) (fun c_9 => absurd ((isN_y (x := lz) (c := 3) (by omega) (by omega)).symm.trans c_9) (by decide)) (fun c_9 => ?_)
  refine lv_iload_n hx hb dX3_level_12 rfl (lv_at hl 2 rfl) ?_
  refine lv_iconst (v := nI 0) hx hb dX3_level_13 (by decide) ?_
  refine lv_iconst (v := nI 2) hx hb dX3_level_14 (by decide) ?_
  refine h_rdS (As := [.int y, .int (nI 0), .int (nI 2)]) (rest := []) hF (c_X3_isIn l G (hput hp mo (eO 3 [.int (nI 0), .ref dk, .ref lv, .ref nb])) (y) (nI 0) (nI 2)) 3 gX3_level_X3_isIn rfl (by decide +kernel) ⟨Nat.le_of_ble_eq_true rfl, Nat.le_of_ble_eq_true rfl⟩ hK0 hV0 rfl hl.1 rfl (Nat.le_of_ble_eq_true rfl) (Nat.le_of_ble_eq_true rfl) (Nat.le_of_ble_eq_true rfl) dX3_level_15 ?_
  refine h_if_eqB (tgt := 30) hx hb dX3_level_18 (by decide) (fun c_18 => ?_) (fun c_18 => absurd ((isN_n (c := 2) hb0 (by omega)).symm.trans c_18) (by decide))
  refine lv_aload_n hx hb dX3_level_30 rfl (lv_at hl 0 rfl) ?_
  refine lv_iconst (v := nI 1) hx hb dX3_level_31 (by decide) ?_
  refine h_wrV (As := [.int (nI 1)]) (rest := []) hF (c_X3_fail l G A (hput hp mo (eO 3 [.int (nI 0), .ref dk, .ref lv, .ref nb])) X mo dk lv nb lvl row ((nI 0)) d V rm dt hm hX 1 hD hA0) 1 gX3_level_X3_fail rfl (by decide +kernel) ⟨Nat.le_of_ble_eq_true rfl, Nat.le_of_ble_eq_true rfl⟩ hK0 hV0 hA hS hm.cmo rfl rfl rfl hl.1 rfl (Nat.le_of_ble_eq_true rfl) ⟨Nat.le_of_ble_eq_true rfl, Nat.le_of_ble_eq_true rfl⟩ dX3_level_32 (fun ro hp1 H locs hP1 hV0 hA0 hS => ?_)
  obtain ⟨rfl, lvl2, row2, hm2, hX2, hD2, hK2⟩ := hP1
  exact W.iret hx hb hr (h_qW ⟨rfl, dk, lv, nb, lvl2, row2, hm2, hX2, hD2, hK.tr hK2⟩ hV0 hA0 hS) hS.2.2 dX3_level_35 hlocks

set_option maxHeartbeats 1000000 in
set_option maxRecDepth 100000 in
theorem c_X3_level0 (l : Launch) (G : hG) (A : Nat → Prop) (hp : HP) (X : Nat → Prop) (mo dk lv nb : Nat) (lvl : Nat → Nat) (row : Nat → Nat → Nat) (th : Int32) (d : Row) (V : BV) (rm dt : Int32) (hm : mA mo dk lv nb lvl row th d V rm dt hp) (hX : mX X mo dk lv nb hp) (hD : mD dk row V) (lz : Nat) (hl4 : lz < 4) (hA0 : hIn A hp) : hWr l yX3_level wsX3_level 2 42 0 0 G A hp [.ref mo, .int (nI lz), .int (nI 0)] (fun ro hp' => ro = some (.int (nI (ltS V lz 0))) ∧ mP X mo (nI 0) d V rm dt hp hp') := by
  refine Met.ofW (cc := cX3_level) (maxL := 3) (ret := (some .int)) (by decide) rfl ?_
  intro p e s m args below meth c s₁ B hml hv
  obtain ⟨rfl, hV0, hK0, hA⟩ := hv
  have hx := B.exec
  have hb := B.bytes
  have hr := B.returns
  have hts := atoms_spec (ws := wsX3_level) B.pre
  have hown : s.vm.findClass RX3 = some m.cls := findClass_of_methodNamed B.named
  have hlocks := B.notSynchronized
  have hF : CallFix p m c cX3_level 3 s [.ref mo, .int (nI lz), .int (nI 0)].toArray wsX3_level RX3 := ⟨hx, hb, hml, hown, hts⟩
  have hw0 := hts (.fieldLink RX3 27 "SlipLevelsModel" "thrown" "I") (by decide +kernel)
  have hi3 : ∀ w ∈ u_ws RX3 TX3 4, w ∈ wsX3_level := by
    intro w h
    unfold wsX3_level
    simp only [List.mem_cons, List.mem_append, h, true_or, or_true]
  have hS : va_S A s.heap s.heap [] := va_S.rf
  have hl := lv_entry ([.ref mo, .int (nI lz), .int (nI 0)]) (n := 3) (Nat.le_of_ble_eq_true rfl)
  rw [lg_entry_eq]
  generalize (lg_sl ([.ref mo, .int (nI lz), .int (nI 0)]) ++ List.replicate (3 - (lg_sl ([.ref mo, .int (nI lz), .int (nI 0)])).length) Slot.unset).toArray = ls at hl ⊢
  replace hl : lv_has ls 3 [(0, .ref mo), (1, .int (nI lz)), (2, .int (nI 0))] := hl
  have hn := hm.le
  have hK : mKp X hp hp := mKp.rf
  refine lv_aload_n hx hb dX3_level_0 rfl (lv_at hl 0 rfl) ?_
  refine lv_iconst (v := nI 0) hx hb dX3_level_1 (by decide) ?_
  refine h_put (v := .int (nI 0)) hx hb hts hi3 tyX3 tyX3_ok nmX3 hown hK0 hV0 hA0 hS hm.cmo rfl 0 (by decide) hw0 rfl (by rfl) (by rfl) (Nat.le_of_ble_eq_true rfl) dX3_level_2 (fun H locs hV0 hA0 hS => ?_)
  have hm : mA mo dk lv nb lvl row ((nI 0)) d V rm dt (hput hp mo (eO 3 [.int (nI 0), .ref dk, .ref lv, .ref nb])) := hm.setTh (nI 0)
  have hX : mX X mo dk lv nb (hput hp mo (eO 3 [.int (nI 0), .ref dk, .ref lv, .ref nb])) := hX.put _ _
  have hK : mKp X hp (hput hp mo (eO 3 [.int (nI 0), .ref dk, .ref lv, .ref nb])) := hK.put hX.1.1
  have hn := hm.le
  refine lv_iload_n hx hb dX3_level_5 rfl (lv_at hl 1 rfl) ?_
  refine h_rdS (As := [.int (nI lz)]) (rest := []) hF (c_X3_isLevel l G (hput hp mo (eO 3 [.int (nI 0), .ref dk, .ref lv, .ref nb])) (nI lz)) 1 gX3_level_X3_isLevel rfl (by decide +kernel) ⟨Nat.le_of_ble_eq_true rfl, Nat.le_of_ble_eq_true rfl⟩ hK0 hV0 rfl hl.1 rfl (Nat.le_of_ble_eq_true rfl) (Nat.le_of_ble_eq_true rfl) (Nat.le_of_ble_eq_true rfl) dX3_level_6 ?_
  refine h_if_eqB (tgt := 30) hx hb dX3_level_9 (by decide) (fun c_9 => absurd ((isN_y (x := lz) (c := 3) (by omega) (by omega)).symm.trans c_9) (by decide)) (fun c_9 => ?_)
  refine lv_iload_n hx hb dX3_level_12 rfl (lv_at hl 2 rfl) ?_
  refine lv_iconst (v := nI 0) hx hb dX3_level_13 (by decide) ?_
  refine lv_iconst (v := nI 2) hx hb dX3_level_14 (by decide) ?_
  refine h_rdS (As := [.int (nI 0), .int (nI 0), .int (nI 2)]) (rest := []) hF (c_X3_isIn l G (hput hp mo (eO 3 [.int (nI 0), .ref dk, .ref lv, .ref nb])) (nI 0) (nI 0) (nI 2)) 3 gX3_level_X3_isIn rfl (by decide +kernel) ⟨Nat.le_of_ble_eq_true rfl, Nat.le_of_ble_eq_true rfl⟩ hK0 hV0 rfl hl.1 rfl (Nat.le_of_ble_eq_true rfl) (Nat.le_of_ble_eq_true rfl) (Nat.le_of_ble_eq_true rfl) dX3_level_15 ?_
  refine h_if_eqB (tgt := 30) hx hb dX3_level_18 (by decide) (fun c_18 => absurd ((isN_y (x := 0) (c := 2) (by omega) (by omega)).symm.trans c_18) (by decide)) (fun c_18 => ?_)
  refine lv_aload_n hx hb dX3_level_21 rfl (lv_at hl 0 rfl) ?_
  refine lv_iload_n hx hb dX3_level_22 rfl (lv_at hl 1 rfl) ?_
  refine lv_iload_n hx hb dX3_level_23 rfl (lv_at hl 2 rfl) ?_
  refine h_rdV (As := [.int (nI lz), .int (nI 0)]) (rest := []) hF (c_X3_levelTold0 l G (hput hp mo (eO 3 [.int (nI 0), .ref dk, .ref lv, .ref nb])) mo dk lv nb lvl row ((nI 0)) d V rm dt hm lz (by omega)) 2 gX3_level_X3_levelTold rfl (by decide +kernel) ⟨Nat.le_of_ble_eq_true rfl, Nat.le_of_ble_eq_true rfl⟩ hK0 hV0 hm.cmo rfl rfl rfl hl.1 rfl (Nat.le_of_ble_eq_true rfl) (Nat.le_of_ble_eq_true rfl) (Nat.le_of_ble_eq_true rfl) dX3_level_24 ?_
  refine lv_goto (tgt := 35) hx hb dX3_level_27 (by decide) ?_
  exact W.iret hx hb hr (h_qW ⟨rfl, dk, lv, nb, lvl, row, hm, hX, hD, hK⟩ hV0 hA0 hS) hS.2.2 dX3_level_35 hlocks

set_option maxHeartbeats 1000000 in
set_option maxRecDepth 100000 in
theorem c_X3_level1 (l : Launch) (G : hG) (A : Nat → Prop) (hp : HP) (X : Nat → Prop) (mo dk lv nb : Nat) (lvl : Nat → Nat) (row : Nat → Nat → Nat) (th : Int32) (d : Row) (V : BV) (rm dt : Int32) (hm : mA mo dk lv nb lvl row th d V rm dt hp) (hX : mX X mo dk lv nb hp) (hD : mD dk row V) (lz : Nat) (hl4 : lz < 4) (hA0 : hIn A hp) : hWr l yX3_level wsX3_level 2 52 0 0 G A hp [.ref mo, .int (nI lz), .int (nI 1)] (fun ro hp' => ro = some (.int (nI (ltS V lz 1))) ∧ mP X mo (nI 0) d V rm dt hp hp') := by
  refine Met.ofW (cc := cX3_level) (maxL := 3) (ret := (some .int)) (by decide) rfl ?_
  intro p e s m args below meth c s₁ B hml hv
  obtain ⟨rfl, hV0, hK0, hA⟩ := hv
  have hx := B.exec
  have hb := B.bytes
  have hr := B.returns
  have hts := atoms_spec (ws := wsX3_level) B.pre
  have hown : s.vm.findClass RX3 = some m.cls := findClass_of_methodNamed B.named
  have hlocks := B.notSynchronized
  have hF : CallFix p m c cX3_level 3 s [.ref mo, .int (nI lz), .int (nI 1)].toArray wsX3_level RX3 := ⟨hx, hb, hml, hown, hts⟩
  have hw0 := hts (.fieldLink RX3 27 "SlipLevelsModel" "thrown" "I") (by decide +kernel)
  have hi3 : ∀ w ∈ u_ws RX3 TX3 4, w ∈ wsX3_level := by
    intro w h
    unfold wsX3_level
    simp only [List.mem_cons, List.mem_append, h, true_or, or_true]
  have hS : va_S A s.heap s.heap [] := va_S.rf
  have hl := lv_entry ([.ref mo, .int (nI lz), .int (nI 1)]) (n := 3) (Nat.le_of_ble_eq_true rfl)
  rw [lg_entry_eq]
  generalize (lg_sl ([.ref mo, .int (nI lz), .int (nI 1)]) ++ List.replicate (3 - (lg_sl ([.ref mo, .int (nI lz), .int (nI 1)])).length) Slot.unset).toArray = ls at hl ⊢
  replace hl : lv_has ls 3 [(0, .ref mo), (1, .int (nI lz)), (2, .int (nI 1))] := hl
  have hn := hm.le
  have hK : mKp X hp hp := mKp.rf
  refine lv_aload_n hx hb dX3_level_0 rfl (lv_at hl 0 rfl) ?_
  refine lv_iconst (v := nI 0) hx hb dX3_level_1 (by decide) ?_
  refine h_put (v := .int (nI 0)) hx hb hts hi3 tyX3 tyX3_ok nmX3 hown hK0 hV0 hA0 hS hm.cmo rfl 0 (by decide) hw0 rfl (by rfl) (by rfl) (Nat.le_of_ble_eq_true rfl) dX3_level_2 (fun H locs hV0 hA0 hS => ?_)
  have hm : mA mo dk lv nb lvl row ((nI 0)) d V rm dt (hput hp mo (eO 3 [.int (nI 0), .ref dk, .ref lv, .ref nb])) := hm.setTh (nI 0)
  have hX : mX X mo dk lv nb (hput hp mo (eO 3 [.int (nI 0), .ref dk, .ref lv, .ref nb])) := hX.put _ _
  have hK : mKp X hp (hput hp mo (eO 3 [.int (nI 0), .ref dk, .ref lv, .ref nb])) := hK.put hX.1.1
  have hn := hm.le
  refine lv_iload_n hx hb dX3_level_5 rfl (lv_at hl 1 rfl) ?_
  refine h_rdS (As := [.int (nI lz)]) (rest := []) hF (c_X3_isLevel l G (hput hp mo (eO 3 [.int (nI 0), .ref dk, .ref lv, .ref nb])) (nI lz)) 1 gX3_level_X3_isLevel rfl (by decide +kernel) ⟨Nat.le_of_ble_eq_true rfl, Nat.le_of_ble_eq_true rfl⟩ hK0 hV0 rfl hl.1 rfl (Nat.le_of_ble_eq_true rfl) (Nat.le_of_ble_eq_true rfl) (Nat.le_of_ble_eq_true rfl) dX3_level_6 ?_
  refine h_if_eqB (tgt := 30) hx hb dX3_level_9 (by decide) (fun c_9 => absurd ((isN_y (x := lz) (c := 3) (by omega) (by omega)).symm.trans c_9) (by decide)) (fun c_9 => ?_)
  refine lv_iload_n hx hb dX3_level_12 rfl (lv_at hl 2 rfl) ?_
  refine lv_iconst (v := nI 0) hx hb dX3_level_13 (by decide) ?_
  refine lv_iconst (v := nI 2) hx hb dX3_level_14 (by decide) ?_
  refine h_rdS (As := [.int (nI 1), .int (nI 0), .int (nI 2)]) (rest := []) hF (c_X3_isIn l G (hput hp mo (eO 3 [.int (nI 0), .ref dk, .ref lv, .ref nb])) (nI 1) (nI 0) (nI 2)) 3 gX3_level_X3_isIn rfl (by decide +kernel) ⟨Nat.le_of_ble_eq_true rfl, Nat.le_of_ble_eq_true rfl⟩ hK0 hV0 rfl hl.1 rfl (Nat.le_of_ble_eq_true rfl) (Nat.le_of_ble_eq_true rfl) (Nat.le_of_ble_eq_true rfl) dX3_level_15 ?_
  refine h_if_eqB (tgt := 30) hx hb dX3_level_18 (by decide) (fun c_18 => absurd ((isN_y (x := 1) (c := 2) (by omega) (by omega)).symm.trans c_18) (by decide)) (fun c_18 => ?_)
  refine lv_aload_n hx hb dX3_level_21 rfl (lv_at hl 0 rfl) ?_
  refine lv_iload_n hx hb dX3_level_22 rfl (lv_at hl 1 rfl) ?_
  refine lv_iload_n hx hb dX3_level_23 rfl (lv_at hl 2 rfl) ?_
  refine h_rdV (As := [.int (nI lz), .int (nI 1)]) (rest := []) hF (c_X3_levelTold1 l G (hput hp mo (eO 3 [.int (nI 0), .ref dk, .ref lv, .ref nb])) mo dk lv nb lvl row ((nI 0)) d V rm dt hm lz (by omega)) 2 gX3_level_X3_levelTold rfl (by decide +kernel) ⟨Nat.le_of_ble_eq_true rfl, Nat.le_of_ble_eq_true rfl⟩ hK0 hV0 hm.cmo rfl rfl rfl hl.1 rfl (Nat.le_of_ble_eq_true rfl) (Nat.le_of_ble_eq_true rfl) (Nat.le_of_ble_eq_true rfl) dX3_level_24 ?_
  refine lv_goto (tgt := 35) hx hb dX3_level_27 (by decide) ?_
  exact W.iret hx hb hr (h_qW ⟨rfl, dk, lv, nb, lvl, row, hm, hX, hD, hK⟩ hV0 hA0 hS) hS.2.2 dX3_level_35 hlocks

set_option maxHeartbeats 1000000 in
set_option maxRecDepth 100000 in
theorem c_X3_level2 (l : Launch) (G : hG) (A : Nat → Prop) (hp : HP) (X : Nat → Prop) (mo dk lv nb : Nat) (lvl : Nat → Nat) (row : Nat → Nat → Nat) (th : Int32) (d : Row) (V : BV) (rm dt : Int32) (hm : mA mo dk lv nb lvl row th d V rm dt hp) (hX : mX X mo dk lv nb hp) (hD : mD dk row V) (lz : Nat) (hl4 : lz < 4) (hA0 : hIn A hp) : hWr l yX3_level wsX3_level 2 52 0 0 G A hp [.ref mo, .int (nI lz), .int (nI 2)] (fun ro hp' => ro = some (.int (nI (ltS V lz 2))) ∧ mP X mo (nI 0) d V rm dt hp hp') := by
  refine Met.ofW (cc := cX3_level) (maxL := 3) (ret := (some .int)) (by decide) rfl ?_
  intro p e s m args below meth c s₁ B hml hv
  obtain ⟨rfl, hV0, hK0, hA⟩ := hv
  have hx := B.exec
  have hb := B.bytes
  have hr := B.returns
  have hts := atoms_spec (ws := wsX3_level) B.pre
  have hown : s.vm.findClass RX3 = some m.cls := findClass_of_methodNamed B.named
  have hlocks := B.notSynchronized
  have hF : CallFix p m c cX3_level 3 s [.ref mo, .int (nI lz), .int (nI 2)].toArray wsX3_level RX3 := ⟨hx, hb, hml, hown, hts⟩
  have hw0 := hts (.fieldLink RX3 27 "SlipLevelsModel" "thrown" "I") (by decide +kernel)
  have hi3 : ∀ w ∈ u_ws RX3 TX3 4, w ∈ wsX3_level := by
    intro w h
    unfold wsX3_level
    simp only [List.mem_cons, List.mem_append, h, true_or, or_true]
  have hS : va_S A s.heap s.heap [] := va_S.rf
  have hl := lv_entry ([.ref mo, .int (nI lz), .int (nI 2)]) (n := 3) (Nat.le_of_ble_eq_true rfl)
  rw [lg_entry_eq]
  generalize (lg_sl ([.ref mo, .int (nI lz), .int (nI 2)]) ++ List.replicate (3 - (lg_sl ([.ref mo, .int (nI lz), .int (nI 2)])).length) Slot.unset).toArray = ls at hl ⊢
  replace hl : lv_has ls 3 [(0, .ref mo), (1, .int (nI lz)), (2, .int (nI 2))] := hl
  have hn := hm.le
  have hK : mKp X hp hp := mKp.rf
  refine lv_aload_n hx hb dX3_level_0 rfl (lv_at hl 0 rfl) ?_
  refine lv_iconst (v := nI 0) hx hb dX3_level_1 (by decide) ?_
  refine h_put (v := .int (nI 0)) hx hb hts hi3 tyX3 tyX3_ok nmX3 hown hK0 hV0 hA0 hS hm.cmo rfl 0 (by decide) hw0 rfl (by rfl) (by rfl) (Nat.le_of_ble_eq_true rfl) dX3_level_2 (fun H locs hV0 hA0 hS => ?_)
  have hm : mA mo dk lv nb lvl row ((nI 0)) d V rm dt (hput hp mo (eO 3 [.int (nI 0), .ref dk, .ref lv, .ref nb])) := hm.setTh (nI 0)
  have hX : mX X mo dk lv nb (hput hp mo (eO 3 [.int (nI 0), .ref dk, .ref lv, .ref nb])) := hX.put _ _
  have hK : mKp X hp (hput hp mo (eO 3 [.int (nI 0), .ref dk, .ref lv, .ref nb])) := hK.put hX.1.1
  have hn := hm.le
  refine lv_iload_n hx hb dX3_level_5 rfl (lv_at hl 1 rfl) ?_
  refine h_rdS (As := [.int (nI lz)]) (rest := []) hF (c_X3_isLevel l G (hput hp mo (eO 3 [.int (nI 0), .ref dk, .ref lv, .ref nb])) (nI lz)) 1 gX3_level_X3_isLevel rfl (by decide +kernel) ⟨Nat.le_of_ble_eq_true rfl, Nat.le_of_ble_eq_true rfl⟩ hK0 hV0 rfl hl.1 rfl (Nat.le_of_ble_eq_true rfl) (Nat.le_of_ble_eq_true rfl) (Nat.le_of_ble_eq_true rfl) dX3_level_6 ?_
  refine h_if_eqB (tgt := 30) hx hb dX3_level_9 (by decide) (fun c_9 => absurd ((isN_y (x := lz) (c := 3) (by omega) (by omega)).symm.trans c_9) (by decide)) (fun c_9 => ?_)
  refine lv_iload_n hx hb dX3_level_12 rfl (lv_at hl 2 rfl) ?_
  refine lv_iconst (v := nI 0) hx hb dX3_level_13 (by decide) ?_
  refine lv_iconst (v := nI 2) hx hb dX3_level_14 (by decide) ?_
  refine h_rdS (As := [.int (nI 2), .int (nI 0), .int (nI 2)]) (rest := []) hF (c_X3_isIn l G (hput hp mo (eO 3 [.int (nI 0), .ref dk, .ref lv, .ref nb])) (nI 2) (nI 0) (nI 2)) 3 gX3_level_X3_isIn rfl (by decide +kernel) ⟨Nat.le_of_ble_eq_true rfl, Nat.le_of_ble_eq_true rfl⟩ hK0 hV0 rfl hl.1 rfl (Nat.le_of_ble_eq_true rfl) (Nat.le_of_ble_eq_true rfl) (Nat.le_of_ble_eq_true rfl) dX3_level_15 ?_
  refine h_if_eqB (tgt := 30) hx hb dX3_level_18 (by decide) (fun c_18 => absurd ((isN_y (x := 2) (c := 2) (by omega) (by omega)).symm.trans c_18) (by decide)) (fun c_18 => ?_)
  refine lv_aload_n hx hb dX3_level_21 rfl (lv_at hl 0 rfl) ?_
  refine lv_iload_n hx hb dX3_level_22 rfl (lv_at hl 1 rfl) ?_
  refine lv_iload_n hx hb dX3_level_23 rfl (lv_at hl 2 rfl) ?_
  refine h_rdV (As := [.int (nI lz), .int (nI 2)]) (rest := []) hF (c_X3_levelTold2 l G (hput hp mo (eO 3 [.int (nI 0), .ref dk, .ref lv, .ref nb])) mo dk lv nb lvl row ((nI 0)) d V rm dt hm lz (by omega)) 2 gX3_level_X3_levelTold rfl (by decide +kernel) ⟨Nat.le_of_ble_eq_true rfl, Nat.le_of_ble_eq_true rfl⟩ hK0 hV0 hm.cmo rfl rfl rfl hl.1 rfl (Nat.le_of_ble_eq_true rfl) (Nat.le_of_ble_eq_true rfl) (Nat.le_of_ble_eq_true rfl) dX3_level_24 ?_
  refine lv_goto (tgt := 35) hx hb dX3_level_27 (by decide) ?_
  exact W.iret hx hb hr (h_qW ⟨rfl, dk, lv, nb, lvl, row, hm, hX, hD, hK⟩ hV0 hA0 hS) hS.2.2 dX3_level_35 hlocks

set_option maxHeartbeats 1000000 in
set_option maxRecDepth 100000 in
theorem c_X3_countN (l : Launch) (G : hG) (A : Nat → Prop) (hp : HP) (X : Nat → Prop) (mo dk lv nb : Nat) (lvl : Nat → Nat) (row : Nat → Nat → Nat) (th : Int32) (d : Row) (V : BV) (rm dt : Int32) (hm : mA mo dk lv nb lvl row th d V rm dt hp) (hX : mX X mo dk lv nb hp) (hD : mD dk row V) (z : Int32) (hb0 : z < 0 ∨ nI 7 ≤ z) (hA0 : hIn A hp) : hWr l yX3_count wsX3_count 1 22 0 0 G A hp [.ref mo, .int z] (fun ro hp' => ro = some (.int (nI 0)) ∧ mP X mo (nI 1) d V rm dt hp hp') := by
  refine Met.ofW (cc := cX3_count) (maxL := 2) (ret := (some .int)) (by decide) rfl ?_
  intro p e s m args below meth c s₁ B hml hv
  obtain ⟨rfl, hV0, hK0, hA⟩ := hv
  have hx := B.exec
  have hb := B.bytes
  have hr := B.returns
  have hts := atoms_spec (ws := wsX3_count) B.pre
  have hown : s.vm.findClass RX3 = some m.cls := findClass_of_methodNamed B.named
  have hlocks := B.notSynchronized
  have hF : CallFix p m c cX3_count 2 s [.ref mo, .int z].toArray wsX3_count RX3 := ⟨hx, hb, hml, hown, hts⟩
  have hw0 := hts (.fieldLink RX3 27 "SlipLevelsModel" "thrown" "I") (by decide +kernel)
  have hi3 : ∀ w ∈ u_ws RX3 TX3 4, w ∈ wsX3_count := by
    intro w h
    unfold wsX3_count
    simp only [List.mem_cons, List.mem_append, h, true_or, or_true]
  have hS : va_S A s.heap s.heap [] := va_S.rf
  have hl := lv_entry ([.ref mo, .int z]) (n := 2) (Nat.le_of_ble_eq_true rfl)
  rw [lg_entry_eq]
  generalize (lg_sl ([.ref mo, .int z]) ++ List.replicate (2 - (lg_sl ([.ref mo, .int z])).length) Slot.unset).toArray = ls at hl ⊢
  replace hl : lv_has ls 2 [(0, .ref mo), (1, .int z)] := hl
  have hn := hm.le
  have hK : mKp X hp hp := mKp.rf
  refine lv_aload_n hx hb dX3_count_0 rfl (lv_at hl 0 rfl) ?_
  refine lv_iconst (v := nI 0) hx hb dX3_count_1 (by decide) ?_
  refine h_put (v := .int (nI 0)) hx hb hts hi3 tyX3 tyX3_ok nmX3 hown hK0 hV0 hA0 hS hm.cmo rfl 0 (by decide) hw0 rfl (by rfl) (by rfl) (Nat.le_of_ble_eq_true rfl) dX3_count_2 (fun H locs hV0 hA0 hS => ?_)
  have hm : mA mo dk lv nb lvl row ((nI 0)) d V rm dt (hput hp mo (eO 3 [.int (nI 0), .ref dk, .ref lv, .ref nb])) := hm.setTh (nI 0)
  have hX : mX X mo dk lv nb (hput hp mo (eO 3 [.int (nI 0), .ref dk, .ref lv, .ref nb])) := hX.put _ _
  have hK : mKp X hp (hput hp mo (eO 3 [.int (nI 0), .ref dk, .ref lv, .ref nb])) := hK.put hX.1.1
  have hn := hm.le
  refine lv_iload_n hx hb dX3_count_5 rfl (lv_at hl 1 rfl) ?_
  refine lv_iconst (v := nI 0) hx hb dX3_count_6 (by decide) ?_
  refine lv_bipush (v := nI 6) hx hb dX3_count_7 (by decide) ?_
  refine h_rdS (As := [.int z, .int (nI 0), .int (nI 6)]) (rest := []) hF (c_X3_isIn l G (hput hp mo (eO 3 [.int (nI 0), .ref dk, .ref lv, .ref nb])) (z) (nI 0) (nI 6)) 3 gX3_count_X3_isIn rfl (by decide +kernel) ⟨Nat.le_of_ble_eq_true rfl, Nat.le_of_ble_eq_true rfl⟩ hK0 hV0 rfl hl.1 rfl (Nat.le_of_ble_eq_true rfl) (Nat.le_of_ble_eq_true rfl) (Nat.le_of_ble_eq_true rfl) dX3_count_9 ?_
  refine h_if_eqB (tgt := 23) hx hb dX3_count_12 (by decide) (fun c_12 => ?_) (fun c_12 => absurd ((cnt_n hb0).symm.trans c_12) (by decide))
  refine lv_aload_n hx hb dX3_count_23 rfl (lv_at hl 0 rfl) ?_
  refine lv_iconst (v := nI 1) hx hb dX3_count_24 (by decide) ?_
  refine h_wrV (As := [.int (nI 1)]) (rest := []) hF (c_X3_fail l G A (hput hp mo (eO 3 [.int (nI 0), .ref dk, .ref lv, .ref nb])) X mo dk lv nb lvl row ((nI 0)) d V rm dt hm hX 1 hD hA0) 1 gX3_count_X3_fail rfl (by decide +kernel) ⟨Nat.le_of_ble_eq_true rfl, Nat.le_of_ble_eq_true rfl⟩ hK0 hV0 hA hS hm.cmo rfl rfl rfl hl.1 rfl (Nat.le_of_ble_eq_true rfl) ⟨Nat.le_of_ble_eq_true rfl, Nat.le_of_ble_eq_true rfl⟩ dX3_count_25 (fun ro hp1 H locs hP1 hV0 hA0 hS => ?_)
  obtain ⟨rfl, lvl2, row2, hm2, hX2, hD2, hK2⟩ := hP1
  exact W.iret hx hb hr (h_qW ⟨rfl, dk, lv, nb, lvl2, row2, hm2, hX2, hD2, hK.tr hK2⟩ hV0 hA0 hS) hS.2.2 dX3_count_28 hlocks

set_option maxHeartbeats 1000000 in
set_option maxRecDepth 100000 in
theorem c_X3_count (l : Launch) (G : hG) (A : Nat → Prop) (hp : HP) (X : Nat → Prop) (mo dk lv nb : Nat) (lvl : Nat → Nat) (row : Nat → Nat → Nat) (th : Int32) (d : Row) (V : BV) (rm dt : Int32) (hm : mA mo dk lv nb lvl row th d V rm dt hp) (hX : mX X mo dk lv nb hp) (hD : mD dk row V) (wh : Nat) (hw7 : wh < 7) (hA0 : hIn A hp) : hWr l yX3_count wsX3_count 4 97 0 0 G A hp [.ref mo, .int (nI wh)] (fun ro hp' => ro = some (.int (tlS d (bN V) (bG V) rm (bM V) dt (bK V) wh)) ∧ mP X mo (nI 0) d V rm dt hp hp') := by
  refine Met.ofW (cc := cX3_count) (maxL := 2) (ret := (some .int)) (by decide) rfl ?_
  intro p e s m args below meth c s₁ B hml hv
  obtain ⟨rfl, hV0, hK0, hA⟩ := hv
  have hx := B.exec
  have hb := B.bytes
  have hr := B.returns
  have hts := atoms_spec (ws := wsX3_count) B.pre
  have hown : s.vm.findClass RX3 = some m.cls := findClass_of_methodNamed B.named
  have hlocks := B.notSynchronized
  have hF : CallFix p m c cX3_count 2 s [.ref mo, .int (nI wh)].toArray wsX3_count RX3 := ⟨hx, hb, hml, hown, hts⟩
  have hw0 := hts (.fieldLink RX3 27 "SlipLevelsModel" "thrown" "I") (by decide +kernel)
  have hi3 : ∀ w ∈ u_ws RX3 TX3 4, w ∈ wsX3_count := by
    intro w h
    unfold wsX3_count
    simp only [List.mem_cons, List.mem_append, h, true_or, or_true]
  have hS : va_S A s.heap s.heap [] := va_S.rf
  have hl := lv_entry ([.ref mo, .int (nI wh)]) (n := 2) (Nat.le_of_ble_eq_true rfl)
  rw [lg_entry_eq]
  generalize (lg_sl ([.ref mo, .int (nI wh)]) ++ List.replicate (2 - (lg_sl ([.ref mo, .int (nI wh)])).length) Slot.unset).toArray = ls at hl ⊢
  replace hl : lv_has ls 2 [(0, .ref mo), (1, .int (nI wh))] := hl
  have hn := hm.le
  have hK : mKp X hp hp := mKp.rf
  refine lv_aload_n hx hb dX3_count_0 rfl (lv_at hl 0 rfl) ?_
  refine lv_iconst (v := nI 0) hx hb dX3_count_1 (by decide) ?_
  refine h_put (v := .int (nI 0)) hx hb hts hi3 tyX3 tyX3_ok nmX3 hown hK0 hV0 hA0 hS hm.cmo rfl 0 (by decide) hw0 rfl (by rfl) (by rfl) (Nat.le_of_ble_eq_true rfl) dX3_count_2 (fun H locs hV0 hA0 hS => ?_)
  have hm : mA mo dk lv nb lvl row ((nI 0)) d V rm dt (hput hp mo (eO 3 [.int (nI 0), .ref dk, .ref lv, .ref nb])) := hm.setTh (nI 0)
  have hX : mX X mo dk lv nb (hput hp mo (eO 3 [.int (nI 0), .ref dk, .ref lv, .ref nb])) := hX.put _ _
  have hK : mKp X hp (hput hp mo (eO 3 [.int (nI 0), .ref dk, .ref lv, .ref nb])) := hK.put hX.1.1
  have hn := hm.le
  refine lv_iload_n hx hb dX3_count_5 rfl (lv_at hl 1 rfl) ?_
  refine lv_iconst (v := nI 0) hx hb dX3_count_6 (by decide) ?_
  refine lv_bipush (v := nI 6) hx hb dX3_count_7 (by decide) ?_
  refine h_rdS (As := [.int (nI wh), .int (nI 0), .int (nI 6)]) (rest := []) hF (c_X3_isIn l G (hput hp mo (eO 3 [.int (nI 0), .ref dk, .ref lv, .ref nb])) (nI wh) (nI 0) (nI 6)) 3 gX3_count_X3_isIn rfl (by decide +kernel) ⟨Nat.le_of_ble_eq_true rfl, Nat.le_of_ble_eq_true rfl⟩ hK0 hV0 rfl hl.1 rfl (Nat.le_of_ble_eq_true rfl) (Nat.le_of_ble_eq_true rfl) (Nat.le_of_ble_eq_true rfl) dX3_count_9 ?_
  refine h_if_eqB (tgt := 23) hx hb dX3_count_12 (by decide) (fun c_12 => absurd ((isN_y (x := wh) (c := 6) (by omega) (by omega)).symm.trans c_12) (by decide)) (fun c_12 => ?_)
  refine lv_aload_n hx hb dX3_count_15 rfl (lv_at hl 0 rfl) ?_
  refine lv_iload_n hx hb dX3_count_16 rfl (lv_at hl 1 rfl) ?_
  refine h_rdV (As := [.int (nI wh)]) (rest := []) hF (c_X3_counted l G (hput hp mo (eO 3 [.int (nI 0), .ref dk, .ref lv, .ref nb])) mo dk lv nb lvl row ((nI 0)) d V rm dt hm wh (by omega)) 1 gX3_count_X3_counted rfl (by decide +kernel) ⟨Nat.le_of_ble_eq_true rfl, Nat.le_of_ble_eq_true rfl⟩ hK0 hV0 hm.cmo rfl rfl rfl hl.1 rfl (Nat.le_of_ble_eq_true rfl) (Nat.le_of_ble_eq_true rfl) (Nat.le_of_ble_eq_true rfl) dX3_count_17 ?_
  refine lv_goto (tgt := 28) hx hb dX3_count_20 (by decide) ?_
  exact W.iret hx hb hr (h_qW ⟨rfl, dk, lv, nb, lvl, row, hm, hX, hD, hK⟩ hV0 hA0 hS) hS.2.2 dX3_count_28 hlocks

set_option maxHeartbeats 1000000 in
set_option maxRecDepth 100000 in
theorem c_X3_mean (l : Launch) (G : hG) (A : Nat → Prop) (hp : HP) (X : Nat → Prop) (mo dk lv nb : Nat) (lvl : Nat → Nat) (row : Nat → Nat → Nat) (th : Int32) (d : Row) (V : BV) (rm dt : Int32) (hm : mA mo dk lv nb lvl row th d V rm dt hp) (hX : mX X mo dk lv nb hp) (hD : mD dk row V) (hA0 : hIn A hp) : hWr l yX3_mean wsX3_mean 3 75 0 0 G A hp [.ref mo] (fun ro hp' => ro = some (.double (mnV (allD d (bN V) (bG V)))) ∧ mP X mo (nI 0) d V rm dt hp hp') := by
  refine Met.ofW (cc := cX3_mean) (maxL := 1) (ret := (some .double)) (by decide) rfl ?_
  intro p e s m args below meth c s₁ B hml hv
  obtain ⟨rfl, hV0, hK0, hA⟩ := hv
  have hx := B.exec
  have hb := B.bytes
  have hr := B.returns
  have hts := atoms_spec (ws := wsX3_mean) B.pre
  have hown : s.vm.findClass RX3 = some m.cls := findClass_of_methodNamed B.named
  have hlocks := B.notSynchronized
  have hF : CallFix p m c cX3_mean 1 s [.ref mo].toArray wsX3_mean RX3 := ⟨hx, hb, hml, hown, hts⟩
  have hw0 := hts (.fieldLink RX3 27 "SlipLevelsModel" "thrown" "I") (by decide +kernel)
  have hw1 := hts (.constantDouble RX3 140 (4634204016564240384)) (by decide +kernel)
  have hi3 : ∀ w ∈ u_ws RX3 TX3 4, w ∈ wsX3_mean := by
    intro w h
    unfold wsX3_mean
    simp only [List.mem_cons, List.mem_append, h, true_or, or_true]
  have hS : va_S A s.heap s.heap [] := va_S.rf
  have hl := lv_entry ([.ref mo]) (n := 1) (Nat.le_of_ble_eq_true rfl)
  rw [lg_entry_eq]
  generalize (lg_sl ([.ref mo]) ++ List.replicate (1 - (lg_sl ([.ref mo])).length) Slot.unset).toArray = ls at hl ⊢
  replace hl : lv_has ls 1 [(0, .ref mo)] := hl
  have hn := hm.le
  have hK : mKp X hp hp := mKp.rf
  have hle := allD_le (d := d) (g := bG V) hm.le
  have hnan := (mnV_ok ⟨allD d (bN V) (bG V), by omega⟩).1
  refine lv_aload_n hx hb dX3_mean_0 rfl (lv_at hl 0 rfl) ?_
  refine lv_iconst (v := nI 0) hx hb dX3_mean_1 (by decide) ?_
  refine h_put (v := .int (nI 0)) hx hb hts hi3 tyX3 tyX3_ok nmX3 hown hK0 hV0 hA0 hS hm.cmo rfl 0 (by decide) hw0 rfl (by rfl) (by rfl) (Nat.le_of_ble_eq_true rfl) dX3_mean_2 (fun H locs hV0 hA0 hS => ?_)
  have hm : mA mo dk lv nb lvl row ((nI 0)) d V rm dt (hput hp mo (eO 3 [.int (nI 0), .ref dk, .ref lv, .ref nb])) := hm.setTh (nI 0)
  have hX : mX X mo dk lv nb (hput hp mo (eO 3 [.int (nI 0), .ref dk, .ref lv, .ref nb])) := hX.put _ _
  have hK : mKp X hp (hput hp mo (eO 3 [.int (nI 0), .ref dk, .ref lv, .ref nb])) := hK.put hX.1.1
  have hn := hm.le
  refine lv_aload_n hx hb dX3_mean_5 rfl (lv_at hl 0 rfl) ?_
  refine h_rdV (As := []) (rest := []) hF (c_X3_allOpened l G (hput hp mo (eO 3 [.int (nI 0), .ref dk, .ref lv, .ref nb])) mo dk lv nb lvl row ((nI 0)) d V rm dt hm) 0 gX3_mean_X3_allOpened rfl (by decide +kernel) ⟨Nat.le_of_ble_eq_true rfl, Nat.le_of_ble_eq_true rfl⟩ hK0 hV0 hm.cmo rfl rfl rfl hl.1 rfl (Nat.le_of_ble_eq_true rfl) (Nat.le_of_ble_eq_true rfl) (Nat.le_of_ble_eq_true rfl) dX3_mean_6 ?_
  refine lv_i2d hx hb dX3_mean_9 ?_
  refine lv_ldc2d hx hb hown hw1 dX3_mean_10 ?_
  refine lv_ddiv hx hb dX3_mean_13 hnan ?_
  exact W.dret hx hb hr (h_qW ⟨rfl, dk, lv, nb, lvl, row, hm, hX, hD, hK⟩ hV0 hA0 hS) hS.2.2 dX3_mean_14 hlocks

set_option maxHeartbeats 1000000 in
set_option maxRecDepth 100000 in
theorem c_X3_digest (l : Launch) (G : hG) (A : Nat → Prop) (hp : HP) (X : Nat → Prop) (mo dk lv nb : Nat) (lvl : Nat → Nat) (row : Nat → Nat → Nat) (th : Int32) (d : Row) (V : BV) (rm dt : Int32) (hm : mA mo dk lv nb lvl row th d V rm dt hp) (hX : mX X mo dk lv nb hp) (hD : mD dk row V) (hA0 : hIn A hp) : hWr l yX3_digest wsX3_digest 4 97 0 0 G A hp [.ref mo] (fun ro hp' => ro = some (.long (dgS d (bN V) (bG V) rm (bM V) dt (bK V))) ∧ mP X mo (nI 0) d V rm dt hp hp') := by
  refine Met.ofW (cc := cX3_digest) (maxL := 6) (ret := (some .long)) (by decide) rfl ?_
  intro p e s m args below meth c s₁ B hml hv
  obtain ⟨rfl, hV0, hK0, hA⟩ := hv
  have hx := B.exec
  have hb := B.bytes
  have hr := B.returns
  have hts := atoms_spec (ws := wsX3_digest) B.pre
  have hown : s.vm.findClass RX3 = some m.cls := findClass_of_methodNamed B.named
  have hlocks := B.notSynchronized
  have hF : CallFix p m c cX3_digest 6 s [.ref mo].toArray wsX3_digest RX3 := ⟨hx, hb, hml, hown, hts⟩
  have hw0 := hts (.fieldLink RX3 27 "SlipLevelsModel" "thrown" "I") (by decide +kernel)
  have hw1 := hts (.constantLong RX3 142 (1493)) (by decide +kernel)
  have hw2 := hts (.fieldLink RX3 13 "SlipLevelsModel" "desk" "[I") (by decide +kernel)
  have hw3 := hts (.constantLong RX3 144 (31)) (by decide +kernel)
  have hw4 := hts (.fieldLink RX3 20 "SlipLevelsModel" "levels" "[[[I") (by decide +kernel)
  have hi3 : ∀ w ∈ u_ws RX3 TX3 4, w ∈ wsX3_digest := by
    intro w h
    unfold wsX3_digest
    simp only [List.mem_cons, List.mem_append, h, true_or, or_true]
  have hS : va_S A s.heap s.heap [] := va_S.rf
  have hl := lv_entry ([.ref mo]) (n := 6) (Nat.le_of_ble_eq_true rfl)
  rw [lg_entry_eq]
  generalize (lg_sl ([.ref mo]) ++ List.replicate (6 - (lg_sl ([.ref mo])).length) Slot.unset).toArray = ls at hl ⊢
  replace hl : lv_has ls 6 [(0, .ref mo)] := hl
  have hn := hm.le
  have hK : mKp X hp hp := mKp.rf
  have hz9 := szR_le d
  refine lv_aload_n hx hb dX3_digest_0 rfl (lv_at hl 0 rfl) ?_
  refine lv_iconst (v := nI 0) hx hb dX3_digest_1 (by decide) ?_
  refine h_put (v := .int (nI 0)) hx hb hts hi3 tyX3 tyX3_ok nmX3 hown hK0 hV0 hA0 hS hm.cmo rfl 0 (by decide) hw0 rfl (by rfl) (by rfl) (Nat.le_of_ble_eq_true rfl) dX3_digest_2 (fun H locs hV0 hA0 hS => ?_)
  have hm : mA mo dk lv nb lvl row ((nI 0)) d V rm dt (hput hp mo (eO 3 [.int (nI 0), .ref dk, .ref lv, .ref nb])) := hm.setTh (nI 0)
  have hX : mX X mo dk lv nb (hput hp mo (eO 3 [.int (nI 0), .ref dk, .ref lv, .ref nb])) := hX.put _ _
  have hK : mKp X hp (hput hp mo (eO 3 [.int (nI 0), .ref dk, .ref lv, .ref nb])) := hK.put hX.1.1
  have hn := hm.le
  refine lv_ldc2 hx hb hown hw1 dX3_digest_5 ?_
  refine lv_lstore_n (lv' := [(1, .long (1493)), (0, .ref mo)]) hx hb dX3_digest_8 rfl hl (by decide) rfl (fun ls hl => ?_)
  refine lv_iconst (v := nI 0) hx hb dX3_digest_9 (by decide) ?_
  refine lv_istore_n (lv' := [(3, .int (nI 0)), (1, .long (1493)), (0, .ref mo)]) hx hb dX3_digest_10 rfl hl (by decide) rfl (fun ls hl => ?_)
  replace hl : lv_has ls 6 [(3, .int (nI 0)), (1, .long (dgW (tlS d (bN V) (bG V) rm (bM V) dt (bK V)) 1493 0)), (0, .ref mo)] := lv_sub hl [0, 1, 2] rfl
  revert ls
  refine h_loop 7 (fun i => [(3, .int (nI i)), (1, .long (dgW (tlS d (bN V) (bG V) rm (bM V) dt (bK V)) 1493 i)), (0, .ref mo)]) (fun i => True) (fun i hi11 hI11 ih11 ls hl => ?_) 0 (Nat.zero_le _) trivial
  refine lv_iload_n hx hb dX3_digest_11 rfl (lv_at hl 0 rfl) ?_
  refine lv_bipush (v := nI 7) hx hb dX3_digest_12 (by decide) ?_
  refine h_icmp_ge (a := i) (b := 7) (tgt := 36) hx hb dX3_digest_14 (by decide) (by omega) (by omega) (fun c_14 => ?_) (fun c_14 => ?_)
  · obtain rfl : i = 7 := by omega
    refine lv_iconst (v := nI 0) hx hb dX3_digest_36 (by decide) ?_
    refine lv_istore_n (lv' := [(3, .int (nI 0)), (1, .long (dgW (tlS d (bN V) (bG V) rm (bM V) dt (bK V)) 1493 7)), (0, .ref mo)]) hx hb dX3_digest_37 rfl hl (by decide) rfl (fun ls hl => ?_)
    replace hl : lv_has ls 6 [(3, .int (nI 0)), (1, .long (dgN d (dgW (tlS d (bN V) (bG V) rm (bM V) dt (bK V)) 1493 7) 0)), (0, .ref mo)] := lv_sub hl [0, 1, 2] rfl
    revert ls
    refine h_loop (szR d) (fun u => [(3, .int (nI u)), (1, .long (dgN d (dgW (tlS d (bN V) (bG V) rm (bM V) dt (bK V)) 1493 7) u)), (0, .ref mo)]) (fun u => True) (fun u hi38 hI38 ih38 ls hl => ?_) 0 (Nat.zero_le _) trivial
    refine lv_iload_n hx hb dX3_digest_38 rfl (lv_at hl 0 rfl) ?_
    refine lv_aload_n hx hb dX3_digest_39 rfl (lv_at hl 2 rfl) ?_
    refine h_get (v := .ref dk) hx hb hts hi3 hown hK0 hV0 hm.cmo rfl 1 (by decide) hw2 rfl dX3_digest_40 ?_
    refine h_rdS (As := [.ref dk]) (rest := [.int (nI u)]) hF (c_X3_size l G (hput hp mo (eO 3 [.int (nI 0), .ref dk, .ref lv, .ref nb])) dk d hm.cdk) 1 gX3_digest_X3_size rfl (by decide +kernel) ⟨Nat.le_of_ble_eq_true rfl, Nat.le_of_ble_eq_true rfl⟩ hK0 hV0 rfl hl.1 rfl (Nat.le_of_ble_eq_true rfl) (Nat.le_of_ble_eq_true rfl) (Nat.le_of_ble_eq_true rfl) dX3_digest_43 ?_
    refine h_icmp_ge (a := u) (b := szR d) (tgt := 71) hx hb dX3_digest_46 (by decide) (by omega) (by omega) (fun c_46 => ?_) (fun c_46 => ?_)
    · have hu9 : u = szR d := by omega
      have hde := dgN_e d (dgW (tlS d (bN V) (bG V) rm (bM V) dt (bK V)) 1493 7)
      rw [hu9] at hl
      replace hl : lv_has ls 6 [(3, .int (nI (szR d))), (1, .long (dgF d (dgW (tlS d (bN V) (bG V) rm (bM V) dt (bK V)) 1493 7) 64)), (0, .ref mo)] := by rw [← hde]; exact hl
      refine lv_iconst (v := nI 0) hx hb dX3_digest_71 (by decide) ?_
      refine lv_istore_n (lv' := [(3, .int (nI 0)), (1, .long (dgF d (dgW (tlS d (bN V) (bG V) rm (bM V) dt (bK V)) 1493 7) 64)), (0, .ref mo)]) hx hb dX3_digest_72 rfl hl (by decide) rfl (fun ls hl => ?_)
      replace hl : lv_has ls 6 [(3, .int (nI 0)), (1, .long (dgL d (bN V) (bG V) (dgF d (dgW (tlS d (bN V) (bG V) rm (bM V) dt (bK V)) 1493 7) 64) 0)), (0, .ref mo)] := lv_sub hl [0, 1, 2] rfl
      revert ls
      refine h_loop 4 (fun j => [(3, .int (nI j)), (1, .long (dgL d (bN V) (bG V) (dgF d (dgW (tlS d (bN V) (bG V) rm (bM V) dt (bK V)) 1493 7) 64) j)), (0, .ref mo)]) (fun j => True) (fun j hi73 hI73 ih73 ls hl => ?_) 0 (Nat.zero_le _) trivial
      refine lv_iload_n hx hb dX3_digest_73 rfl (lv_at hl 0 rfl) ?_
      refine lv_iconst (v := nI 4) hx hb dX3_digest_74 (by decide) ?_
      refine h_icmp_ge (a := j) (b := 4) (tgt := 201) hx hb dX3_digest_75 (by decide) (by omega) (by omega) (fun c_75 => ?_) (fun c_75 => ?_)
      · obtain rfl : j = 4 := by omega
        refine lv_iconst (v := nI 0) hx hb dX3_digest_201 (by decide) ?_
        refine lv_istore_n (lv' := [(3, .int (nI 0)), (1, .long (dgL d (bN V) (bG V) (dgF d (dgW (tlS d (bN V) (bG V) rm (bM V) dt (bK V)) 1493 7) 64) 4)), (0, .ref mo)]) hx hb dX3_digest_202 rfl hl (by decide) rfl (fun ls hl => ?_)
        replace hl : lv_has ls 6 [(3, .int (nI 0)), (1, .long (dgW (wdS d (bN V) (bG V)) (dgL d (bN V) (bG V) (dgF d (dgW (tlS d (bN V) (bG V) rm (bM V) dt (bK V)) 1493 7) 64) 4) 0)), (0, .ref mo)] := lv_sub hl [0, 1, 2] rfl
        revert ls
        refine h_loop 64 (fun k => [(3, .int (nI k)), (1, .long (dgW (wdS d (bN V) (bG V)) (dgL d (bN V) (bG V) (dgF d (dgW (tlS d (bN V) (bG V) rm (bM V) dt (bK V)) 1493 7) 64) 4) k)), (0, .ref mo)]) (fun k => True) (fun k hi203 hI203 ih203 ls hl => ?_) 0 (Nat.zero_le _) trivial
        refine lv_iload_n hx hb dX3_digest_203 rfl (lv_at hl 0 rfl) ?_
        refine lv_bipush (v := nI 64) hx hb dX3_digest_204 (by decide) ?_
        refine h_icmp_ge (a := k) (b := 64) (tgt := 228) hx hb dX3_digest_206 (by decide) (by omega) (by omega) (fun c_206 => ?_) (fun c_206 => ?_)
        · refine lv_lload_n hx hb dX3_digest_228 rfl (lv_at hl 1 rfl) ?_
          exact W.lret hx hb hr (h_qW ⟨by rw [show k = 64 by omega]; rfl, dk, lv, nb, lvl, row, hm, hX, hD, hK⟩ hV0 hA0 hS) hS.2.2 dX3_digest_229 hlocks
        · refine lv_lload_n hx hb dX3_digest_209 rfl (lv_at hl 1 rfl) ?_
          refine lv_ldc2 hx hb hown hw3 dX3_digest_210 ?_
          refine lv_lmul hx hb dX3_digest_213 ?_
          refine lv_aload_n hx hb dX3_digest_214 rfl (lv_at hl 2 rfl) ?_
          refine lv_iload_n hx hb dX3_digest_215 rfl (lv_at hl 0 rfl) ?_
          refine h_rdV (As := [.int (nI k)]) (rest := [.long ((dgW (wdS d (bN V) (bG V)) (dgL d (bN V) (bG V) (dgF d (dgW (tlS d (bN V) (bG V) rm (bM V) dt (bK V)) 1493 7) 64) 4) k) * (31))]) hF (c_X3_word l G (hput hp mo (eO 3 [.int (nI 0), .ref dk, .ref lv, .ref nb])) mo dk lv nb lvl row ((nI 0)) d V rm dt hm k (by omega)) 1 gX3_digest_X3_word rfl (by decide +kernel) ⟨Nat.le_of_ble_eq_true rfl, Nat.le_of_ble_eq_true rfl⟩ hK0 hV0 hm.cmo rfl rfl rfl hl.1 rfl (Nat.le_of_ble_eq_true rfl) (Nat.le_of_ble_eq_true rfl) (Nat.le_of_ble_eq_true rfl) dX3_digest_216 ?_
          refine lv_i2l (v := ((wdS d (bN V) (bG V) k)).toInt64) hx hb dX3_digest_219 rfl ?_
          refine lv_ladd hx hb dX3_digest_220 ?_
          refine lv_lstore_n (lv' := [(1, .long (((dgW (wdS d (bN V) (bG V)) (dgL d (bN V) (bG V) (dgF d (dgW (tlS d (bN V) (bG V) rm (bM V) dt (bK V)) 1493 7) 64) 4) k) * (31)) + (((wdS d (bN V) (bG V) k)).toInt64))), (3, .int (nI k)), (0, .ref mo)]) hx hb dX3_digest_221 rfl hl (by decide) rfl (fun ls hl => ?_)
          refine lv_iinc (v := nI (k + 1)) (lv' := [(3, .int (nI (k + 1))), (1, .long (((dgW (wdS d (bN V) (bG V)) (dgL d (bN V) (bG V) (dgF d (dgW (tlS d (bN V) (bG V) rm (bM V) dt (bK V)) 1493 7) 64) 4) k) * (31)) + (((wdS d (bN V) (bG V) k)).toInt64))), (0, .ref mo)]) hx hb dX3_digest_222 hl (k := 1) rfl (nI_add (k) 1) (by decide) rfl (fun ls hl => ?_)
          refine lv_goto (tgt := 203) hx hb dX3_digest_225 (by decide) ?_
          exact ih203 (by omega) trivial ls (lv_sub hl [0, 1, 2] rfl)
      · have hnj := hn j
        refine lv_lload_n hx hb dX3_digest_78 rfl (lv_at hl 1 rfl) ?_
        refine lv_ldc2 hx hb hown hw3 dX3_digest_79 ?_
        refine lv_lmul hx hb dX3_digest_82 ?_
        refine lv_aload_n hx hb dX3_digest_83 rfl (lv_at hl 2 rfl) ?_
        refine h_get (v := .ref lv) hx hb hts hi3 hown hK0 hV0 hm.cmo rfl 2 (by decide) hw4 rfl dX3_digest_84 ?_
        refine lv_iload_n hx hb dX3_digest_87 rfl (lv_at hl 0 rfl) ?_
        refine h_aaldE (i := j) hm.clv hx hb hK0 hV0 rfl rfl (by omega) (by omega) dX3_digest_88 ?_
        refine h_alenQ (hm.clvl (l := j) (by omega)) hx hb hK0 hV0 rfl dX3_digest_89 ?_
        refine lv_i2l (v := (nI (bN V j)).toInt64) hx hb dX3_digest_90 rfl ?_
        refine lv_ladd hx hb dX3_digest_91 ?_
        refine lv_lstore_n (lv' := [(1, .long (((dgL d (bN V) (bG V) (dgF d (dgW (tlS d (bN V) (bG V) rm (bM V) dt (bK V)) 1493 7) 64) j) * (31)) + ((nI (bN V j)).toInt64))), (3, .int (nI j)), (0, .ref mo)]) hx hb dX3_digest_92 rfl hl (by decide) rfl (fun ls hl => ?_)
        refine lv_iconst (v := nI 0) hx hb dX3_digest_93 (by decide) ?_
        refine lv_istore (lv' := [(4, .int (nI 0)), (1, .long (((dgL d (bN V) (bG V) (dgF d (dgW (tlS d (bN V) (bG V) rm (bM V) dt (bK V)) 1493 7) 64) j) * (31)) + ((nI (bN V j)).toInt64))), (3, .int (nI j)), (0, .ref mo)]) hx hb dX3_digest_94 hl (by decide) rfl (fun ls hl => ?_)
        replace hl : lv_has ls 6 [(4, .int (nI 0)), (1, .long (dgR (bG V j) (sdS d (bN V) (bG V) j) ((dgL d (bN V) (bG V) (dgF d (dgW (tlS d (bN V) (bG V) rm (bM V) dt (bK V)) 1493 7) 64) j) * (31) + (nI (bN V j)).toInt64) 0)), (3, .int (nI j)), (0, .ref mo)] := lv_sub hl [0, 1, 2, 3] rfl
        revert ls
        refine h_loop (bN V j) (fun v => [(4, .int (nI v)), (1, .long (dgR (bG V j) (sdS d (bN V) (bG V) j) ((dgL d (bN V) (bG V) (dgF d (dgW (tlS d (bN V) (bG V) rm (bM V) dt (bK V)) 1493 7) 64) j) * (31) + (nI (bN V j)).toInt64) v)), (3, .int (nI j)), (0, .ref mo)]) (fun v => True) (fun v hi96 hI96 ih96 ls hl => ?_) 0 (Nat.zero_le _) trivial
        refine lv_iload hx hb dX3_digest_96 (lv_at hl 0 rfl) ?_
        refine lv_aload_n hx hb dX3_digest_98 rfl (lv_at hl 3 rfl) ?_
        refine h_get (v := .ref lv) hx hb hts hi3 hown hK0 hV0 hm.cmo rfl 2 (by decide) hw4 rfl dX3_digest_99 ?_
        refine lv_iload_n hx hb dX3_digest_102 rfl (lv_at hl 2 rfl) ?_
        refine h_aaldE (i := j) hm.clv hx hb hK0 hV0 rfl rfl (by omega) (by omega) dX3_digest_103 ?_
        refine h_alenQ (hm.clvl (l := j) (by omega)) hx hb hK0 hV0 rfl dX3_digest_104 ?_
        refine h_icmp_ge (a := v) (b := bN V j) (tgt := 195) hx hb dX3_digest_105 (by decide) (by omega) (by omega) (fun c_105 => ?_) (fun c_105 => ?_)
        · refine lv_iinc (v := nI (j + 1)) (lv' := [(3, .int (nI (j + 1))), (4, .int (nI v)), (1, .long (dgR (bG V j) (sdS d (bN V) (bG V) j) ((dgL d (bN V) (bG V) (dgF d (dgW (tlS d (bN V) (bG V) rm (bM V) dt (bK V)) 1493 7) 64) j) * (31) + (nI (bN V j)).toInt64) v)), (0, .ref mo)]) hx hb dX3_digest_195 hl (k := 2) rfl (nI_add (j) 1) (by decide) rfl (fun ls hl => ?_)
          refine lv_goto (tgt := 73) hx hb dX3_digest_198 (by decide) ?_
          have hDL : dgL d (bN V) (bG V) (dgF d (dgW (tlS d (bN V) (bG V) rm (bM V) dt (bK V)) 1493 7) 64) (j + 1) = dgR (bG V j) (sdS d (bN V) (bG V) j) ((dgL d (bN V) (bG V) (dgF d (dgW (tlS d (bN V) (bG V) rm (bM V) dt (bK V)) 1493 7) 64) j) * (31) + (nI (bN V j)).toInt64) v := by rw [show v = bN V j by omega]; rfl
          exact ih73 (by omega) trivial ls (by show lv_has ls 6 [(3, .int (nI (j + 1))), (1, .long (dgL d (bN V) (bG V) (dgF d (dgW (tlS d (bN V) (bG V) rm (bM V) dt (bK V)) 1493 7) 64) (j + 1))), (0, .ref mo)]; rw [hDL]; exact lv_sub hl [0, 2, 3] rfl)
        · refine lv_iconst (v := nI 0) hx hb dX3_digest_108 (by decide) ?_
          refine lv_istore (lv' := [(5, .int (nI 0)), (4, .int (nI v)), (1, .long (dgR (bG V j) (sdS d (bN V) (bG V) j) ((dgL d (bN V) (bG V) (dgF d (dgW (tlS d (bN V) (bG V) rm (bM V) dt (bK V)) 1493 7) 64) j) * (31) + (nI (bN V j)).toInt64) v)), (3, .int (nI j)), (0, .ref mo)]) hx hb dX3_digest_109 hl (by decide) rfl (fun ls hl => ?_)
          replace hl : lv_has ls 6 [(5, .int (nI 0)), (1, .long (dgW (fcS (bG V j v) (sdS d (bN V) (bG V) j v)) (dgR (bG V j) (sdS d (bN V) (bG V) j) ((dgL d (bN V) (bG V) (dgF d (dgW (tlS d (bN V) (bG V) rm (bM V) dt (bK V)) 1493 7) 64) j) * (31) + (nI (bN V j)).toInt64) v) 0)), (4, .int (nI v)), (3, .int (nI j)), (0, .ref mo)] := lv_sub hl [0, 2, 1, 3, 4] rfl
          revert ls
          refine h_loop 6 (fun q9 => [(5, .int (nI q9)), (1, .long (dgW (fcS (bG V j v) (sdS d (bN V) (bG V) j v)) (dgR (bG V j) (sdS d (bN V) (bG V) j) ((dgL d (bN V) (bG V) (dgF d (dgW (tlS d (bN V) (bG V) rm (bM V) dt (bK V)) 1493 7) 64) j) * (31) + (nI (bN V j)).toInt64) v) q9)), (4, .int (nI v)), (3, .int (nI j)), (0, .ref mo)]) (fun q9 => True) (fun q9 hi111 hI111 ih111 ls hl => ?_) 0 (Nat.zero_le _) trivial
          refine lv_iload hx hb dX3_digest_111 (lv_at hl 0 rfl) ?_
          refine lv_bipush (v := nI 6) hx hb dX3_digest_113 (by decide) ?_
          refine h_icmp_ge (a := q9) (b := 6) (tgt := 141) hx hb dX3_digest_115 (by decide) (by omega) (by omega) (fun c_115 => ?_) (fun c_115 => ?_)
          · obtain rfl : q9 = 6 := by omega
            have hz9 := szR_le (bG V j v)
            refine lv_iconst (v := nI 0) hx hb dX3_digest_141 (by decide) ?_
            refine lv_istore (lv' := [(5, .int (nI 0)), (1, .long (dgW (fcS (bG V j v) (sdS d (bN V) (bG V) j v)) (dgR (bG V j) (sdS d (bN V) (bG V) j) ((dgL d (bN V) (bG V) (dgF d (dgW (tlS d (bN V) (bG V) rm (bM V) dt (bK V)) 1493 7) 64) j) * (31) + (nI (bN V j)).toInt64) v) 6)), (4, .int (nI v)), (3, .int (nI j)), (0, .ref mo)]) hx hb dX3_digest_142 hl (by decide) rfl (fun ls hl => ?_)
            replace hl : lv_has ls 6 [(5, .int (nI 0)), (1, .long (dgN (bG V j v) (dgW (fcS (bG V j v) (sdS d (bN V) (bG V) j v)) (dgR (bG V j) (sdS d (bN V) (bG V) j) ((dgL d (bN V) (bG V) (dgF d (dgW (tlS d (bN V) (bG V) rm (bM V) dt (bK V)) 1493 7) 64) j) * (31) + (nI (bN V j)).toInt64) v) 6) 0)), (4, .int (nI v)), (3, .int (nI j)), (0, .ref mo)] := lv_sub hl [0, 1, 2, 3, 4] rfl
            revert ls
            refine h_loop (szR (bG V j v)) (fun t9 => [(5, .int (nI t9)), (1, .long (dgN (bG V j v) (dgW (fcS (bG V j v) (sdS d (bN V) (bG V) j v)) (dgR (bG V j) (sdS d (bN V) (bG V) j) ((dgL d (bN V) (bG V) (dgF d (dgW (tlS d (bN V) (bG V) rm (bM V) dt (bK V)) 1493 7) 64) j) * (31) + (nI (bN V j)).toInt64) v) 6) t9)), (4, .int (nI v)), (3, .int (nI j)), (0, .ref mo)]) (fun t9 => True) (fun t9 hi144 hI144 ih144 ls hl => ?_) 0 (Nat.zero_le _) trivial
            refine lv_iload hx hb dX3_digest_144 (lv_at hl 0 rfl) ?_
            refine lv_aload_n hx hb dX3_digest_146 rfl (lv_at hl 4 rfl) ?_
            refine h_get (v := .ref lv) hx hb hts hi3 hown hK0 hV0 hm.cmo rfl 2 (by decide) hw4 rfl dX3_digest_147 ?_
            refine lv_iload_n hx hb dX3_digest_150 rfl (lv_at hl 3 rfl) ?_
            refine h_aaldE (i := j) hm.clv hx hb hK0 hV0 rfl rfl (by omega) (by omega) dX3_digest_151 ?_
            refine lv_iload hx hb dX3_digest_152 (lv_at hl 2 rfl) ?_
            refine h_aaldE (i := v) (hm.clvl (l := j) (by omega)) hx hb hK0 hV0 rfl rfl (by omega) (by omega) dX3_digest_154 ?_
            refine h_rdS (As := [.ref (row j v)]) (rest := [.int (nI t9)]) hF (c_X3_size l G (hput hp mo (eO 3 [.int (nI 0), .ref dk, .ref lv, .ref nb])) (row j v) (bG V j v) (hm.crow (l := j) (r := v) (by omega) (by omega))) 1 gX3_digest_X3_size rfl (by decide +kernel) ⟨Nat.le_of_ble_eq_true rfl, Nat.le_of_ble_eq_true rfl⟩ hK0 hV0 rfl hl.1 rfl (Nat.le_of_ble_eq_true rfl) (Nat.le_of_ble_eq_true rfl) (Nat.le_of_ble_eq_true rfl) dX3_digest_155 ?_
            refine h_icmp_ge (a := t9) (b := szR (bG V j v)) (tgt := 189) hx hb dX3_digest_158 (by decide) (by omega) (by omega) (fun c_158 => ?_) (fun c_158 => ?_)
            · refine lv_iinc (v := nI (v + 1)) (lv' := [(4, .int (nI (v + 1))), (5, .int (nI t9)), (1, .long (dgN (bG V j v) (dgW (fcS (bG V j v) (sdS d (bN V) (bG V) j v)) (dgR (bG V j) (sdS d (bN V) (bG V) j) ((dgL d (bN V) (bG V) (dgF d (dgW (tlS d (bN V) (bG V) rm (bM V) dt (bK V)) 1493 7) 64) j) * (31) + (nI (bN V j)).toInt64) v) 6) t9)), (3, .int (nI j)), (0, .ref mo)]) hx hb dX3_digest_189 hl (k := 2) rfl (nI_add (v) 1) (by decide) rfl (fun ls hl => ?_)
              refine lv_goto (tgt := 96) hx hb dX3_digest_192 (by decide) ?_
              have hDR : dgR (bG V j) (sdS d (bN V) (bG V) j) ((dgL d (bN V) (bG V) (dgF d (dgW (tlS d (bN V) (bG V) rm (bM V) dt (bK V)) 1493 7) 64) j) * (31) + (nI (bN V j)).toInt64) (v + 1) = dgN (bG V j v) (dgW (fcS (bG V j v) (sdS d (bN V) (bG V) j v)) (dgR (bG V j) (sdS d (bN V) (bG V) j) ((dgL d (bN V) (bG V) (dgF d (dgW (tlS d (bN V) (bG V) rm (bM V) dt (bK V)) 1493 7) 64) j) * (31) + (nI (bN V j)).toInt64) v) 6) t9 := by rw [show t9 = szR (bG V j v) by omega, dgN_e]; rfl
              exact ih96 (by omega) trivial ls (by show lv_has ls 6 [(4, .int (nI (v + 1))), (1, .long (dgR (bG V j) (sdS d (bN V) (bG V) j) ((dgL d (bN V) (bG V) (dgF d (dgW (tlS d (bN V) (bG V) rm (bM V) dt (bK V)) 1493 7) 64) j) * (31) + (nI (bN V j)).toInt64) (v + 1))), (3, .int (nI j)), (0, .ref mo)]; rw [hDR]; exact lv_sub hl [0, 2, 3, 4] rfl)
            · refine lv_lload_n hx hb dX3_digest_161 rfl (lv_at hl 1 rfl) ?_
              refine lv_ldc2 hx hb hown hw3 dX3_digest_162 ?_
              refine lv_lmul hx hb dX3_digest_165 ?_
              refine lv_aload_n hx hb dX3_digest_166 rfl (lv_at hl 4 rfl) ?_
              refine h_get (v := .ref lv) hx hb hts hi3 hown hK0 hV0 hm.cmo rfl 2 (by decide) hw4 rfl dX3_digest_167 ?_
              refine lv_iload_n hx hb dX3_digest_170 rfl (lv_at hl 3 rfl) ?_
              refine h_aaldE (i := j) hm.clv hx hb hK0 hV0 rfl rfl (by omega) (by omega) dX3_digest_171 ?_
              refine lv_iload hx hb dX3_digest_172 (lv_at hl 2 rfl) ?_
              refine h_aaldE (i := v) (hm.clvl (l := j) (by omega)) hx hb hK0 hV0 rfl rfl (by omega) (by omega) dX3_digest_174 ?_
              refine lv_iload hx hb dX3_digest_175 (lv_at hl 0 rfl) ?_
              refine h_rdS (As := [.ref (row j v), .int (nI t9)]) (rest := [.long ((dgN (bG V j v) (dgW (fcS (bG V j v) (sdS d (bN V) (bG V) j v)) (dgR (bG V j) (sdS d (bN V) (bG V) j) ((dgL d (bN V) (bG V) (dgF d (dgW (tlS d (bN V) (bG V) rm (bM V) dt (bK V)) 1493 7) 64) j) * (31) + (nI (bN V j)).toInt64) v) 6) t9) * (31))]) hF (c_X3_slipTold l G (hput hp mo (eO 3 [.int (nI 0), .ref dk, .ref lv, .ref nb])) (row j v) (bG V j v) (hm.crow (l := j) (r := v) (by omega) (by omega)) t9 (by omega)) 2 gX3_digest_X3_slipTold rfl (by decide +kernel) ⟨Nat.le_of_ble_eq_true rfl, Nat.le_of_ble_eq_true rfl⟩ hK0 hV0 rfl hl.1 rfl (Nat.le_of_ble_eq_true rfl) (Nat.le_of_ble_eq_true rfl) (Nat.le_of_ble_eq_true rfl) dX3_digest_177 ?_
              refine lv_i2l (v := ((toldR (bG V j v) (nthR (bG V j v) t9))).toInt64) hx hb dX3_digest_180 rfl ?_
              refine lv_ladd hx hb dX3_digest_181 ?_
              refine lv_lstore_n (lv' := [(1, .long (((dgN (bG V j v) (dgW (fcS (bG V j v) (sdS d (bN V) (bG V) j v)) (dgR (bG V j) (sdS d (bN V) (bG V) j) ((dgL d (bN V) (bG V) (dgF d (dgW (tlS d (bN V) (bG V) rm (bM V) dt (bK V)) 1493 7) 64) j) * (31) + (nI (bN V j)).toInt64) v) 6) t9) * (31)) + (((toldR (bG V j v) (nthR (bG V j v) t9))).toInt64))), (5, .int (nI t9)), (4, .int (nI v)), (3, .int (nI j)), (0, .ref mo)]) hx hb dX3_digest_182 rfl hl (by decide) rfl (fun ls hl => ?_)
              refine lv_iinc (v := nI (t9 + 1)) (lv' := [(5, .int (nI (t9 + 1))), (1, .long (((dgN (bG V j v) (dgW (fcS (bG V j v) (sdS d (bN V) (bG V) j v)) (dgR (bG V j) (sdS d (bN V) (bG V) j) ((dgL d (bN V) (bG V) (dgF d (dgW (tlS d (bN V) (bG V) rm (bM V) dt (bK V)) 1493 7) 64) j) * (31) + (nI (bN V j)).toInt64) v) 6) t9) * (31)) + (((toldR (bG V j v) (nthR (bG V j v) t9))).toInt64))), (4, .int (nI v)), (3, .int (nI j)), (0, .ref mo)]) hx hb dX3_digest_183 hl (k := 1) rfl (nI_add (t9) 1) (by decide) rfl (fun ls hl => ?_)
              refine lv_goto (tgt := 144) hx hb dX3_digest_186 (by decide) ?_
              exact ih144 (by omega) trivial ls (lv_sub hl [0, 1, 2, 3, 4] rfl)
          · refine lv_lload_n hx hb dX3_digest_118 rfl (lv_at hl 1 rfl) ?_
            refine lv_ldc2 hx hb hown hw3 dX3_digest_119 ?_
            refine lv_lmul hx hb dX3_digest_122 ?_
            refine lv_aload_n hx hb dX3_digest_123 rfl (lv_at hl 4 rfl) ?_
            refine lv_iload_n hx hb dX3_digest_124 rfl (lv_at hl 3 rfl) ?_
            refine lv_iload hx hb dX3_digest_125 (lv_at hl 2 rfl) ?_
            refine lv_iload hx hb dX3_digest_127 (lv_at hl 0 rfl) ?_
            refine h_rdV (As := [.int (nI j), .int (nI v), .int (nI q9)]) (rest := [.long ((dgW (fcS (bG V j v) (sdS d (bN V) (bG V) j v)) (dgR (bG V j) (sdS d (bN V) (bG V) j) ((dgL d (bN V) (bG V) (dgF d (dgW (tlS d (bN V) (bG V) rm (bM V) dt (bK V)) 1493 7) 64) j) * (31) + (nI (bN V j)).toInt64) v) q9) * (31))]) hF (c_X3_runTold l G (hput hp mo (eO 3 [.int (nI 0), .ref dk, .ref lv, .ref nb])) mo dk lv nb lvl row ((nI 0)) d V rm dt hm j v (by omega) (by omega) q9 (by omega)) 3 gX3_digest_X3_runTold rfl (by decide +kernel) ⟨Nat.le_of_ble_eq_true rfl, Nat.le_of_ble_eq_true rfl⟩ hK0 hV0 hm.cmo rfl rfl rfl hl.1 rfl (Nat.le_of_ble_eq_true rfl) (Nat.le_of_ble_eq_true rfl) (Nat.le_of_ble_eq_true rfl) dX3_digest_129 ?_
            refine lv_i2l (v := ((fcS (bG V j v) (sdS d (bN V) (bG V) j v) q9)).toInt64) hx hb dX3_digest_132 rfl ?_
            refine lv_ladd hx hb dX3_digest_133 ?_
            refine lv_lstore_n (lv' := [(1, .long (((dgW (fcS (bG V j v) (sdS d (bN V) (bG V) j v)) (dgR (bG V j) (sdS d (bN V) (bG V) j) ((dgL d (bN V) (bG V) (dgF d (dgW (tlS d (bN V) (bG V) rm (bM V) dt (bK V)) 1493 7) 64) j) * (31) + (nI (bN V j)).toInt64) v) q9) * (31)) + (((fcS (bG V j v) (sdS d (bN V) (bG V) j v) q9)).toInt64))), (5, .int (nI q9)), (4, .int (nI v)), (3, .int (nI j)), (0, .ref mo)]) hx hb dX3_digest_134 rfl hl (by decide) rfl (fun ls hl => ?_)
            refine lv_iinc (v := nI (q9 + 1)) (lv' := [(5, .int (nI (q9 + 1))), (1, .long (((dgW (fcS (bG V j v) (sdS d (bN V) (bG V) j v)) (dgR (bG V j) (sdS d (bN V) (bG V) j) ((dgL d (bN V) (bG V) (dgF d (dgW (tlS d (bN V) (bG V) rm (bM V) dt (bK V)) 1493 7) 64) j) * (31) + (nI (bN V j)).toInt64) v) q9) * (31)) + (((fcS (bG V j v) (sdS d (bN V) (bG V) j v) q9)).toInt64))), (4, .int (nI v)), (3, .int (nI j)), (0, .ref mo)]) hx hb dX3_digest_135 hl (k := 1) rfl (nI_add (q9) 1) (by decide) rfl (fun ls hl => ?_)
            refine lv_goto (tgt := 111) hx hb dX3_digest_138 (by decide) ?_
            exact ih111 (by omega) trivial ls (lv_sub hl [0, 1, 2, 3, 4] rfl)
    · refine lv_lload_n hx hb dX3_digest_49 rfl (lv_at hl 1 rfl) ?_
      refine lv_ldc2 hx hb hown hw3 dX3_digest_50 ?_
      refine lv_lmul hx hb dX3_digest_53 ?_
      refine lv_aload_n hx hb dX3_digest_54 rfl (lv_at hl 2 rfl) ?_
      refine h_get (v := .ref dk) hx hb hts hi3 hown hK0 hV0 hm.cmo rfl 1 (by decide) hw2 rfl dX3_digest_55 ?_
      refine lv_iload_n hx hb dX3_digest_58 rfl (lv_at hl 0 rfl) ?_
      refine h_rdS (As := [.ref dk, .int (nI u)]) (rest := [.long ((dgN d (dgW (tlS d (bN V) (bG V) rm (bM V) dt (bK V)) 1493 7) u) * (31))]) hF (c_X3_slipTold l G (hput hp mo (eO 3 [.int (nI 0), .ref dk, .ref lv, .ref nb])) dk d hm.cdk u (by omega)) 2 gX3_digest_X3_slipTold rfl (by decide +kernel) ⟨Nat.le_of_ble_eq_true rfl, Nat.le_of_ble_eq_true rfl⟩ hK0 hV0 rfl hl.1 rfl (Nat.le_of_ble_eq_true rfl) (Nat.le_of_ble_eq_true rfl) (Nat.le_of_ble_eq_true rfl) dX3_digest_59 ?_
      refine lv_i2l (v := ((toldR d (nthR d u))).toInt64) hx hb dX3_digest_62 rfl ?_
      refine lv_ladd hx hb dX3_digest_63 ?_
      refine lv_lstore_n (lv' := [(1, .long (((dgN d (dgW (tlS d (bN V) (bG V) rm (bM V) dt (bK V)) 1493 7) u) * (31)) + (((toldR d (nthR d u))).toInt64))), (3, .int (nI u)), (0, .ref mo)]) hx hb dX3_digest_64 rfl hl (by decide) rfl (fun ls hl => ?_)
      refine lv_iinc (v := nI (u + 1)) (lv' := [(3, .int (nI (u + 1))), (1, .long (((dgN d (dgW (tlS d (bN V) (bG V) rm (bM V) dt (bK V)) 1493 7) u) * (31)) + (((toldR d (nthR d u))).toInt64))), (0, .ref mo)]) hx hb dX3_digest_65 hl (k := 1) rfl (nI_add (u) 1) (by decide) rfl (fun ls hl => ?_)
      refine lv_goto (tgt := 38) hx hb dX3_digest_68 (by decide) ?_
      exact ih38 (by omega) trivial ls (lv_sub hl [0, 1, 2] rfl)
  · refine lv_lload_n hx hb dX3_digest_17 rfl (lv_at hl 1 rfl) ?_
    refine lv_ldc2 hx hb hown hw3 dX3_digest_18 ?_
    refine lv_lmul hx hb dX3_digest_21 ?_
    refine lv_aload_n hx hb dX3_digest_22 rfl (lv_at hl 2 rfl) ?_
    refine lv_iload_n hx hb dX3_digest_23 rfl (lv_at hl 0 rfl) ?_
    refine h_rdV (As := [.int (nI i)]) (rest := [.long ((dgW (tlS d (bN V) (bG V) rm (bM V) dt (bK V)) 1493 i) * (31))]) hF (c_X3_counted l G (hput hp mo (eO 3 [.int (nI 0), .ref dk, .ref lv, .ref nb])) mo dk lv nb lvl row ((nI 0)) d V rm dt hm i (by omega)) 1 gX3_digest_X3_counted rfl (by decide +kernel) ⟨Nat.le_of_ble_eq_true rfl, Nat.le_of_ble_eq_true rfl⟩ hK0 hV0 hm.cmo rfl rfl rfl hl.1 rfl (Nat.le_of_ble_eq_true rfl) (Nat.le_of_ble_eq_true rfl) (Nat.le_of_ble_eq_true rfl) dX3_digest_24 ?_
    refine lv_i2l (v := ((tlS d (bN V) (bG V) rm (bM V) dt (bK V) i)).toInt64) hx hb dX3_digest_27 rfl ?_
    refine lv_ladd hx hb dX3_digest_28 ?_
    refine lv_lstore_n (lv' := [(1, .long (((dgW (tlS d (bN V) (bG V) rm (bM V) dt (bK V)) 1493 i) * (31)) + (((tlS d (bN V) (bG V) rm (bM V) dt (bK V) i)).toInt64))), (3, .int (nI i)), (0, .ref mo)]) hx hb dX3_digest_29 rfl hl (by decide) rfl (fun ls hl => ?_)
    refine lv_iinc (v := nI (i + 1)) (lv' := [(3, .int (nI (i + 1))), (1, .long (((dgW (tlS d (bN V) (bG V) rm (bM V) dt (bK V)) 1493 i) * (31)) + (((tlS d (bN V) (bG V) rm (bM V) dt (bK V) i)).toInt64))), (0, .ref mo)]) hx hb dX3_digest_30 hl (k := 1) rfl (nI_add (i) 1) (by decide) rfl (fun ls hl => ?_)
    refine lv_goto (tgt := 11) hx hb dX3_digest_33 (by decide) ?_
    exact ih11 (by omega) trivial ls (lv_sub hl [0, 1, 2] rfl)

set_option maxHeartbeats 1000000 in
set_option maxRecDepth 100000 in
theorem c_X3_thrown (l : Launch) (G : hG) (hp : HP) (mo dk lv nb : Nat) (lvl : Nat → Nat) (row : Nat → Nat → Nat) (th : Int32) (d : Row) (V : BV) (rm dt : Int32) (hm : mA mo dk lv nb lvl row th d V rm dt hp) : hRd l yX3_thrown wsX3_thrown 0 0 G hp [.ref mo] (some (.int th)) := by
  refine Met.ofW (cc := cX3_thrown) (maxL := 1) (ret := (some .int)) (by decide) rfl ?_
  intro p e s m args below meth c s₁ B hml hv
  obtain ⟨rfl, hV0, hK0⟩ := hv
  have hx := B.exec
  have hb := B.bytes
  have hr := B.returns
  have hts := atoms_spec (ws := wsX3_thrown) B.pre
  have hown : s.vm.findClass RX3 = some m.cls := findClass_of_methodNamed B.named
  have hlocks := B.notSynchronized
  have hF : CallFix p m c cX3_thrown 1 s [.ref mo].toArray wsX3_thrown RX3 := ⟨hx, hb, hml, hown, hts⟩
  have hw0 := hts (.fieldLink RX3 27 "SlipLevelsModel" "thrown" "I") (by decide +kernel)
  have hi3 : ∀ w ∈ u_ws RX3 TX3 4, w ∈ wsX3_thrown := by
    intro w h
    unfold wsX3_thrown
    simp only [List.mem_cons, List.mem_append, h, true_or, or_true]
  have hl := lv_entry ([.ref mo]) (n := 1) (Nat.le_of_ble_eq_true rfl)
  rw [lg_entry_eq]
  generalize (lg_sl ([.ref mo]) ++ List.replicate (1 - (lg_sl ([.ref mo])).length) Slot.unset).toArray = ls at hl ⊢
  replace hl : lv_has ls 1 [(0, .ref mo)] := hl
  refine lv_aload_n hx hb dX3_thrown_0 rfl (lv_at hl 0 rfl) ?_
  refine h_get (v := .int th) hx hb hts hi3 hown hK0 hV0 hm.cmo rfl 0 (by decide) hw0 rfl dX3_thrown_1 ?_
  exact h_iretR hx hb hr hlocks (by first | rfl | assumption) dX3_thrown_4
