/-! SlipLevels: what throws -/
set_option maxHeartbeats 1000000 in
set_option maxRecDepth 100000 in
theorem t_needNumber (l : Launch) (hlt : l.stackTraces = false) (G : hG) (A : Nat → Prop) (hp : HP) (x : Int32) (hb0 : x < 0 ∨ nI 64 ≤ x) : hTh l yX2_needNumber wsX2_needNumber 6 82 1 6 G A hp [.int x] IOE := by
  refine vx_ofW (cc := cX2_needNumber) (maxL := 1) (ret := none) (by decide) rfl ?_
  intro p e s m args below meth c s₁ B hml hout hv
  obtain ⟨rfl, hV0, hK0, hA, hZ0⟩ := hv
  have hx := B.exec
  have hb := B.bytes
  have hr := B.returns
  have hts := atoms_spec (ws := wsX2_needNumber) B.pre
  have hown : s.vm.findClass RX2 = some m.cls := findClass_of_methodNamed B.named
  have hlocks := B.notSynchronized
  have hF : CallFix p m c cX2_needNumber 1 s [.int x].toArray wsX2_needNumber RX2 := ⟨hx, hb, hml, hown, hts⟩
  have hw0 := hts (.classLink RX2 94 IOE) (by decide +kernel)
  have hw1 := hts (.initialized IOE) (by decide +kernel)
  have hS : va_S A s.heap s.heap [] := va_S.rf
  have hl := lv_entry ([.int x]) (n := 1) (Nat.le_of_ble_eq_true rfl)
  rw [lg_entry_eq]
  generalize (lg_sl ([.int x]) ++ List.replicate (1 - (lg_sl ([.int x])).length) Slot.unset).toArray = ls at hl ⊢
  replace hl : lv_has ls 1 [(0, .int x)] := hl
  refine lv_iload_n hx hb dX2_needNumber_0 rfl (lv_at hl 0 rfl) ?_
  refine lv_if_lt (tgt := 10) hx hb dX2_needNumber_1 (by decide) (fun c_1 => ?_) (fun c_1 => ?_)
  · exact h_throw hx hb hlt (is := 146) (text := "the number is not 0 to 63") (ik := 94) (ic := 98) hown fitE.1 hw0 hw1 (by decide) (at98 hZ0.2.2.2 (fun q hq => hts q ((by decide +kernel : ∀ w ∈ (vx_atS RX2 98 IOE nm2).filter goodWord, w ∈ wsX2_needNumber) q hq))) ot98 hZ0 hV0 hS (hl.1.trans hml.symm) dX2_needNumber_10 dX2_needNumber_13 dX2_needNumber_14 dX2_needNumber_16 dX2_needNumber_19 hout (Nat.le_of_ble_eq_true rfl) (Nat.le_of_ble_eq_true rfl) (Nat.le_of_ble_eq_true rfl) (Nat.le_of_ble_eq_true rfl) hlocks (Nat.le_of_ble_eq_true rfl) (Nat.le_of_ble_eq_true rfl)
  · refine lv_iload_n hx hb dX2_needNumber_4 rfl (lv_at hl 0 rfl) ?_
    refine lv_bipush (v := nI 64) hx hb dX2_needNumber_5 (by decide) ?_
    refine lv_icmp_lt (tgt := 20) hx hb dX2_needNumber_7 (by decide) (fun c_7 => absurd c_7 (by rcases hb0 with h | h; exact absurd h c_1; exact Int32.not_lt.mpr h)) (fun c_7 => ?_)
    exact h_throw hx hb hlt (is := 146) (text := "the number is not 0 to 63") (ik := 94) (ic := 98) hown fitE.1 hw0 hw1 (by decide) (at98 hZ0.2.2.2 (fun q hq => hts q ((by decide +kernel : ∀ w ∈ (vx_atS RX2 98 IOE nm2).filter goodWord, w ∈ wsX2_needNumber) q hq))) ot98 hZ0 hV0 hS (hl.1.trans hml.symm) dX2_needNumber_10 dX2_needNumber_13 dX2_needNumber_14 dX2_needNumber_16 dX2_needNumber_19 hout (Nat.le_of_ble_eq_true rfl) (Nat.le_of_ble_eq_true rfl) (Nat.le_of_ble_eq_true rfl) (Nat.le_of_ble_eq_true rfl) hlocks (Nat.le_of_ble_eq_true rfl) (Nat.le_of_ble_eq_true rfl)

set_option maxHeartbeats 1000000 in
set_option maxRecDepth 100000 in
theorem t_needLevel (l : Launch) (hlt : l.stackTraces = false) (G : hG) (A : Nat → Prop) (hp : HP) (x : Int32) (hb0 : x < 0 ∨ nI 4 ≤ x) : hTh l yX2_needLevel wsX2_needLevel 6 82 1 6 G A hp [.int x] IOE := by
  refine vx_ofW (cc := cX2_needLevel) (maxL := 1) (ret := none) (by decide) rfl ?_
  intro p e s m args below meth c s₁ B hml hout hv
  obtain ⟨rfl, hV0, hK0, hA, hZ0⟩ := hv
  have hx := B.exec
  have hb := B.bytes
  have hr := B.returns
  have hts := atoms_spec (ws := wsX2_needLevel) B.pre
  have hown : s.vm.findClass RX2 = some m.cls := findClass_of_methodNamed B.named
  have hlocks := B.notSynchronized
  have hF : CallFix p m c cX2_needLevel 1 s [.int x].toArray wsX2_needLevel RX2 := ⟨hx, hb, hml, hown, hts⟩
  have hw0 := hts (.classLink RX2 94 IOE) (by decide +kernel)
  have hw1 := hts (.initialized IOE) (by decide +kernel)
  have hS : va_S A s.heap s.heap [] := va_S.rf
  have hl := lv_entry ([.int x]) (n := 1) (Nat.le_of_ble_eq_true rfl)
  rw [lg_entry_eq]
  generalize (lg_sl ([.int x]) ++ List.replicate (1 - (lg_sl ([.int x])).length) Slot.unset).toArray = ls at hl ⊢
  replace hl : lv_has ls 1 [(0, .int x)] := hl
  refine lv_iload_n hx hb dX2_needLevel_0 rfl (lv_at hl 0 rfl) ?_
  refine lv_if_lt (tgt := 9) hx hb dX2_needLevel_1 (by decide) (fun c_1 => ?_) (fun c_1 => ?_)
  · exact h_throw hx hb hlt (is := 148) (text := "the level is not 0 to 3") (ik := 94) (ic := 98) hown fitE.1 hw0 hw1 (by decide) (at98 hZ0.2.2.2 (fun q hq => hts q ((by decide +kernel : ∀ w ∈ (vx_atS RX2 98 IOE nm2).filter goodWord, w ∈ wsX2_needLevel) q hq))) ot98 hZ0 hV0 hS (hl.1.trans hml.symm) dX2_needLevel_9 dX2_needLevel_12 dX2_needLevel_13 dX2_needLevel_15 dX2_needLevel_18 hout (Nat.le_of_ble_eq_true rfl) (Nat.le_of_ble_eq_true rfl) (Nat.le_of_ble_eq_true rfl) (Nat.le_of_ble_eq_true rfl) hlocks (Nat.le_of_ble_eq_true rfl) (Nat.le_of_ble_eq_true rfl)
  · refine lv_iload_n hx hb dX2_needLevel_4 rfl (lv_at hl 0 rfl) ?_
    refine lv_iconst (v := nI 4) hx hb dX2_needLevel_5 (by decide) ?_
    refine lv_icmp_lt (tgt := 19) hx hb dX2_needLevel_6 (by decide) (fun c_6 => absurd c_6 (by rcases hb0 with h | h; exact absurd h c_1; exact Int32.not_lt.mpr h)) (fun c_6 => ?_)
    exact h_throw hx hb hlt (is := 148) (text := "the level is not 0 to 3") (ik := 94) (ic := 98) hown fitE.1 hw0 hw1 (by decide) (at98 hZ0.2.2.2 (fun q hq => hts q ((by decide +kernel : ∀ w ∈ (vx_atS RX2 98 IOE nm2).filter goodWord, w ∈ wsX2_needLevel) q hq))) ot98 hZ0 hV0 hS (hl.1.trans hml.symm) dX2_needLevel_9 dX2_needLevel_12 dX2_needLevel_13 dX2_needLevel_15 dX2_needLevel_18 hout (Nat.le_of_ble_eq_true rfl) (Nat.le_of_ble_eq_true rfl) (Nat.le_of_ble_eq_true rfl) (Nat.le_of_ble_eq_true rfl) hlocks (Nat.le_of_ble_eq_true rfl) (Nat.le_of_ble_eq_true rfl)

set_option maxHeartbeats 1000000 in
set_option maxRecDepth 100000 in
theorem t_slipAt (l : Launch) (hlt : l.stackTraces = false) (G : hG) (A : Nat → Prop) (hp : HP) (a w : Nat) (f : Row) (he : slAt hp a w f) (x : Int32) (hb0 : x < 0 ∨ nI (szR f) ≤ x) : hTh l yX2_slipAt wsX2_slipAt 6 82 1 6 G A hp [.ref a, .int x] IOE := by
  refine vx_ofW (cc := cX2_slipAt) (maxL := 3) (ret := (some .int)) (by decide) rfl ?_
  intro p e s m args below meth c s₁ B hml hout hv
  obtain ⟨rfl, hV0, hK0, hA, hZ0⟩ := hv
  have hx := B.exec
  have hb := B.bytes
  have hr := B.returns
  have hts := atoms_spec (ws := wsX2_slipAt) B.pre
  have hown : s.vm.findClass RX2 = some m.cls := findClass_of_methodNamed B.named
  have hlocks := B.notSynchronized
  have hF : CallFix p m c cX2_slipAt 3 s [.ref a, .int x].toArray wsX2_slipAt RX2 := ⟨hx, hb, hml, hown, hts⟩
  have hw0 := hts (.classLink RX2 94 IOE) (by decide +kernel)
  have hw1 := hts (.initialized IOE) (by decide +kernel)
  have hS : va_S A s.heap s.heap [] := va_S.rf
  have hl := lv_entry ([.ref a, .int x]) (n := 3) (Nat.le_of_ble_eq_true rfl)
  rw [lg_entry_eq]
  generalize (lg_sl ([.ref a, .int x]) ++ List.replicate (3 - (lg_sl ([.ref a, .int x])).length) Slot.unset).toArray = ls at hl ⊢
  replace hl : lv_has ls 3 [(0, .ref a), (1, .int x)] := hl
  refine lv_aload_n hx hb dX2_slipAt_0 rfl (lv_at hl 0 rfl) ?_
  refine lv_iload_n hx hb dX2_slipAt_1 rfl (lv_at hl 1 rfl) ?_
  refine h_rdV (As := [.int x]) (rest := []) hF (c_X1_numberAtN l G _ (a) w f he (x) hb0) 1 gX2_slipAt_X1_numberAt rfl (by decide +kernel) ⟨Nat.le_of_ble_eq_true rfl, Nat.le_of_ble_eq_true rfl⟩ hK0 hV0 he.1 rfl rfl rfl hl.1 rfl (Nat.le_of_ble_eq_true rfl) (Nat.le_of_ble_eq_true rfl) (Nat.le_of_ble_eq_true rfl) dX2_slipAt_2 ?_
  refine lv_istore_n (lv' := [(2, .int (-1)), (0, .ref a), (1, .int x)]) hx hb dX2_slipAt_5 rfl hl (by decide) rfl (fun ls hl => ?_)
  refine lv_iload_n hx hb dX2_slipAt_6 rfl (lv_at hl 0 rfl) ?_
  refine lv_if_ge (tgt := 20) hx hb dX2_slipAt_7 (by decide) (fun c_7 => absurd c_7 (by decide)) (fun c_7 => ?_)
  exact h_throw hx hb hlt (is := 153) (text := "there is no such place") (ik := 94) (ic := 98) hown fitE.1 hw0 hw1 (by decide) (at98 hZ0.2.2.2 (fun q hq => hts q ((by decide +kernel : ∀ w ∈ (vx_atS RX2 98 IOE nm2).filter goodWord, w ∈ wsX2_slipAt) q hq))) ot98 hZ0 hV0 hS (hl.1.trans hml.symm) dX2_slipAt_10 dX2_slipAt_13 dX2_slipAt_14 dX2_slipAt_16 dX2_slipAt_19 hout (Nat.le_of_ble_eq_true rfl) (Nat.le_of_ble_eq_true rfl) (Nat.le_of_ble_eq_true rfl) (Nat.le_of_ble_eq_true rfl) hlocks (Nat.le_of_ble_eq_true rfl) (Nat.le_of_ble_eq_true rfl)

set_option maxHeartbeats 1000000 in
set_option maxRecDepth 100000 in
theorem t_write (l : Launch) (hlt : l.stackTraces = false) (G : hG) (A : Nat → Prop) (hp : HP) (ad : Nat → Nat) (S : CS) (hC : cW ad S hp) (y : Int32) (x : Int32) (hb0 : x < 0 ∨ nI 64 ≤ x) : hTh l yX2_write wsX2_write 7 102 1 6 G A hp [.ref (aX ad), .int x, .int y] IOE := by
  refine vx_ofW (cc := cX2_write) (maxL := 3) (ret := (some .boolean)) (by decide) rfl ?_
  intro p e s m args below meth c s₁ B hml hout hv
  obtain ⟨rfl, hV0, hK0, hA, hZ0⟩ := hv
  have hx := B.exec
  have hb := B.bytes
  have hr := B.returns
  have hts := atoms_spec (ws := wsX2_write) B.pre
  have hown : s.vm.findClass RX2 = some m.cls := findClass_of_methodNamed B.named
  have hlocks := B.notSynchronized
  have hF : CallFix p m c cX2_write 3 s [.ref (aX ad), .int x, .int y].toArray wsX2_write RX2 := ⟨hx, hb, hml, hown, hts⟩
  have hS : va_S A s.heap s.heap [] := va_S.rf
  have hl := lv_entry ([.ref (aX ad), .int x, .int y]) (n := 3) (Nat.le_of_ble_eq_true rfl)
  rw [lg_entry_eq]
  generalize (lg_sl ([.ref (aX ad), .int x, .int y]) ++ List.replicate (3 - (lg_sl ([.ref (aX ad), .int x, .int y])).length) Slot.unset).toArray = ls at hl ⊢
  replace hl : lv_has ls 3 [(0, .ref (aX ad)), (1, .int x), (2, .int y)] := hl
  refine lv_iload_n hx hb dX2_write_0 rfl (lv_at hl 1 rfl) ?_
  exact h_thS (As := [.int x]) (rest := []) hF (t_needNumber l hlt G A _ (x) hb0) 1 gX2_write_X2_needNumber rfl (by decide +kernel) ⟨Nat.le_of_ble_eq_true rfl, Nat.le_of_ble_eq_true rfl⟩ hK0 hV0 hA hZ0 hS rfl hl.1 rfl (Nat.le_of_ble_eq_true rfl) ⟨Nat.le_of_ble_eq_true rfl, Nat.le_of_ble_eq_true rfl⟩ dX2_write_1 (fun q9 ce H1 locs1 hV1 hS1 hce hcv hcl => h_out hout hlocks hV1 hS1 hce hcv hcl (Nat.le_of_ble_eq_true rfl) (Nat.le_of_ble_eq_true rfl))

set_option maxHeartbeats 1000000 in
set_option maxRecDepth 100000 in
theorem t_writeW (l : Launch) (hlt : l.stackTraces = false) (G : hG) (A : Nat → Prop) (hp : HP) (ad : Nat → Nat) (S : CS) (hC : cW ad S hp) (x : Nat) (hx6 : x < 64) (y : Int32) (hb0 : y < 0 ∨ nI 100 ≤ y) : hTh l yX2_write wsX2_write 6 82 1 6 G A hp [.ref (aX ad), .int (nI x), .int y] IAE := by
  refine vx_ofW (cc := cX2_write) (maxL := 3) (ret := (some .boolean)) (by decide) rfl ?_
  intro p e s m args below meth c s₁ B hml hout hv
  obtain ⟨rfl, hV0, hK0, hA, hZ0⟩ := hv
  have hx := B.exec
  have hb := B.bytes
  have hr := B.returns
  have hts := atoms_spec (ws := wsX2_write) B.pre
  have hown : s.vm.findClass RX2 = some m.cls := findClass_of_methodNamed B.named
  have hlocks := B.notSynchronized
  have hF : CallFix p m c cX2_write 3 s [.ref (aX ad), .int (nI x), .int y].toArray wsX2_write RX2 := ⟨hx, hb, hml, hown, hts⟩
  have hw0 := hts (.classLink RX2 37 IAE) (by decide +kernel)
  have hw1 := hts (.initialized IAE) (by decide +kernel)
  have hS : va_S A s.heap s.heap [] := va_S.rf
  have hl := lv_entry ([.ref (aX ad), .int (nI x), .int y]) (n := 3) (Nat.le_of_ble_eq_true rfl)
  rw [lg_entry_eq]
  generalize (lg_sl ([.ref (aX ad), .int (nI x), .int y]) ++ List.replicate (3 - (lg_sl ([.ref (aX ad), .int (nI x), .int y])).length) Slot.unset).toArray = ls at hl ⊢
  replace hl : lv_has ls 3 [(0, .ref (aX ad)), (1, .int (nI x)), (2, .int y)] := hl
  refine lv_iload_n hx hb dX2_write_0 rfl (lv_at hl 1 rfl) ?_
  refine h_rdS (As := [.int (nI x)]) (rest := []) hF (c_X2_needNumber l G _ x (by omega)) 1 gX2_write_X2_needNumber rfl (by decide +kernel) ⟨Nat.le_of_ble_eq_true rfl, Nat.le_of_ble_eq_true rfl⟩ hK0 hV0 rfl hl.1 rfl (Nat.le_of_ble_eq_true rfl) (Nat.le_of_ble_eq_true rfl) (Nat.le_of_ble_eq_true rfl) dX2_write_1 ?_
  refine lv_iload_n hx hb dX2_write_4 rfl (lv_at hl 2 rfl) ?_
  refine lv_if_lt (tgt := 14) hx hb dX2_write_5 (by decide) (fun c_5 => ?_) (fun c_5 => ?_)
  · exact h_throw hx hb hlt (is := 39) (text := "the word is not 0 to 99") (ik := 37) (ic := 41) hown fitE.2.1 hw0 hw1 (by decide) (at41 hZ0.2.2.2 (fun q hq => hts q ((by decide +kernel : ∀ w ∈ (vx_atS RX2 41 IAE nm2).filter goodWord, w ∈ wsX2_write) q hq))) ot41 hZ0 hV0 hS (hl.1.trans hml.symm) dX2_write_14 dX2_write_17 dX2_write_18 dX2_write_20 dX2_write_23 hout (Nat.le_of_ble_eq_true rfl) (Nat.le_of_ble_eq_true rfl) (Nat.le_of_ble_eq_true rfl) (Nat.le_of_ble_eq_true rfl) hlocks (Nat.le_of_ble_eq_true rfl) (Nat.le_of_ble_eq_true rfl)
  · refine lv_iload_n hx hb dX2_write_8 rfl (lv_at hl 2 rfl) ?_
    refine lv_bipush (v := nI 100) hx hb dX2_write_9 (by decide) ?_
    refine lv_icmp_lt (tgt := 24) hx hb dX2_write_11 (by decide) (fun c_11 => absurd c_11 (by rcases hb0 with h | h; exact absurd h c_5; exact Int32.not_lt.mpr h)) (fun c_11 => ?_)
    exact h_throw hx hb hlt (is := 39) (text := "the word is not 0 to 99") (ik := 37) (ic := 41) hown fitE.2.1 hw0 hw1 (by decide) (at41 hZ0.2.2.2 (fun q hq => hts q ((by decide +kernel : ∀ w ∈ (vx_atS RX2 41 IAE nm2).filter goodWord, w ∈ wsX2_write) q hq))) ot41 hZ0 hV0 hS (hl.1.trans hml.symm) dX2_write_14 dX2_write_17 dX2_write_18 dX2_write_20 dX2_write_23 hout (Nat.le_of_ble_eq_true rfl) (Nat.le_of_ble_eq_true rfl) (Nat.le_of_ble_eq_true rfl) (Nat.le_of_ble_eq_true rfl) hlocks (Nat.le_of_ble_eq_true rfl) (Nat.le_of_ble_eq_true rfl)

set_option maxHeartbeats 1000000 in
set_option maxRecDepth 100000 in
theorem t_strike (l : Launch) (hlt : l.stackTraces = false) (G : hG) (A : Nat → Prop) (hp : HP) (ad : Nat → Nat) (S : CS) (hC : cW ad S hp) (x : Int32) (hb0 : x < 0 ∨ nI 64 ≤ x) : hTh l yX2_strike wsX2_strike 7 102 1 6 G A hp [.ref (aX ad), .int x] IOE := by
  refine vx_ofW (cc := cX2_strike) (maxL := 2) (ret := (some .boolean)) (by decide) rfl ?_
  intro p e s m args below meth c s₁ B hml hout hv
  obtain ⟨rfl, hV0, hK0, hA, hZ0⟩ := hv
  have hx := B.exec
  have hb := B.bytes
  have hr := B.returns
  have hts := atoms_spec (ws := wsX2_strike) B.pre
  have hown : s.vm.findClass RX2 = some m.cls := findClass_of_methodNamed B.named
  have hlocks := B.notSynchronized
  have hF : CallFix p m c cX2_strike 2 s [.ref (aX ad), .int x].toArray wsX2_strike RX2 := ⟨hx, hb, hml, hown, hts⟩
  have hS : va_S A s.heap s.heap [] := va_S.rf
  have hl := lv_entry ([.ref (aX ad), .int x]) (n := 2) (Nat.le_of_ble_eq_true rfl)
  rw [lg_entry_eq]
  generalize (lg_sl ([.ref (aX ad), .int x]) ++ List.replicate (2 - (lg_sl ([.ref (aX ad), .int x])).length) Slot.unset).toArray = ls at hl ⊢
  replace hl : lv_has ls 2 [(0, .ref (aX ad)), (1, .int x)] := hl
  refine lv_iload_n hx hb dX2_strike_0 rfl (lv_at hl 1 rfl) ?_
  exact h_thS (As := [.int x]) (rest := []) hF (t_needNumber l hlt G A _ (x) hb0) 1 gX2_strike_X2_needNumber rfl (by decide +kernel) ⟨Nat.le_of_ble_eq_true rfl, Nat.le_of_ble_eq_true rfl⟩ hK0 hV0 hA hZ0 hS rfl hl.1 rfl (Nat.le_of_ble_eq_true rfl) ⟨Nat.le_of_ble_eq_true rfl, Nat.le_of_ble_eq_true rfl⟩ dX2_strike_1 (fun q9 ce H1 locs1 hV1 hS1 hce hcv hcl => h_out hout hlocks hV1 hS1 hce hcv hcl (Nat.le_of_ble_eq_true rfl) (Nat.le_of_ble_eq_true rfl))

set_option maxHeartbeats 1000000 in
set_option maxRecDepth 100000 in
theorem t_merge (l : Launch) (hlt : l.stackTraces = false) (G : hG) (A : Nat → Prop) (hp : HP) (ad : Nat → Nat) (S : CS) (hC : cW ad S hp) (x : Int32) (hb0 : x < 0 ∨ nI 4 ≤ x) : hTh l yX2_merge wsX2_merge 7 102 1 6 G A hp [.ref (aX ad), .int x] IOE := by
  refine vx_ofW (cc := cX2_merge) (maxL := 3) (ret := (some .int)) (by decide) rfl ?_
  intro p e s m args below meth c s₁ B hml hout hv
  obtain ⟨rfl, hV0, hK0, hA, hZ0⟩ := hv
  have hx := B.exec
  have hb := B.bytes
  have hr := B.returns
  have hts := atoms_spec (ws := wsX2_merge) B.pre
  have hown : s.vm.findClass RX2 = some m.cls := findClass_of_methodNamed B.named
  have hlocks := B.notSynchronized
  have hF : CallFix p m c cX2_merge 3 s [.ref (aX ad), .int x].toArray wsX2_merge RX2 := ⟨hx, hb, hml, hown, hts⟩
  have hS : va_S A s.heap s.heap [] := va_S.rf
  have hl := lv_entry ([.ref (aX ad), .int x]) (n := 3) (Nat.le_of_ble_eq_true rfl)
  rw [lg_entry_eq]
  generalize (lg_sl ([.ref (aX ad), .int x]) ++ List.replicate (3 - (lg_sl ([.ref (aX ad), .int x])).length) Slot.unset).toArray = ls at hl ⊢
  replace hl : lv_has ls 3 [(0, .ref (aX ad)), (1, .int x)] := hl
  refine lv_iload_n hx hb dX2_merge_0 rfl (lv_at hl 1 rfl) ?_
  exact h_thS (As := [.int x]) (rest := []) hF (t_needLevel l hlt G A _ (x) hb0) 1 gX2_merge_X2_needLevel rfl (by decide +kernel) ⟨Nat.le_of_ble_eq_true rfl, Nat.le_of_ble_eq_true rfl⟩ hK0 hV0 hA hZ0 hS rfl hl.1 rfl (Nat.le_of_ble_eq_true rfl) ⟨Nat.le_of_ble_eq_true rfl, Nat.le_of_ble_eq_true rfl⟩ dX2_merge_1 (fun q9 ce H1 locs1 hV1 hS1 hce hcv hcl => h_out hout hlocks hV1 hS1 hce hcv hcl (Nat.le_of_ble_eq_true rfl) (Nat.le_of_ble_eq_true rfl))

set_option maxHeartbeats 1000000 in
set_option maxRecDepth 100000 in
theorem t_mergeN (l : Launch) (hlt : l.stackTraces = false) (G : hG) (A : Nat → Prop) (hp : HP) (ad : Nat → Nat) (S : CS) (hC : cW ad S hp) (lv : Nat) (hl4 : lv < 4) (hr0 : sN S 0 lv = 0) : hTh l yX2_merge wsX2_merge 6 82 1 6 G A hp [.ref (aX ad), .int (nI lv)] ISE := by
  refine vx_ofW (cc := cX2_merge) (maxL := 3) (ret := (some .int)) (by decide) rfl ?_
  intro p e s m args below meth c s₁ B hml hout hv
  obtain ⟨rfl, hV0, hK0, hA, hZ0⟩ := hv
  have hx := B.exec
  have hb := B.bytes
  have hr := B.returns
  have hts := atoms_spec (ws := wsX2_merge) B.pre
  have hown : s.vm.findClass RX2 = some m.cls := findClass_of_methodNamed B.named
  have hlocks := B.notSynchronized
  have hF : CallFix p m c cX2_merge 3 s [.ref (aX ad), .int (nI lv)].toArray wsX2_merge RX2 := ⟨hx, hb, hml, hown, hts⟩
  have hw0 := hts (.fieldLink RX2 19 "SlipLevels" "binder" "LSlipLevels$Binder;") (by decide +kernel)
  have hw1 := hts (.classLink RX2 58 ISE) (by decide +kernel)
  have hw2 := hts (.initialized ISE) (by decide +kernel)
  have hi2 : ∀ w ∈ u_ws RX2 TX2 5, w ∈ wsX2_merge := by
    intro w h
    unfold wsX2_merge
    simp only [List.mem_cons, List.mem_append, h, true_or, or_true]
  have hS : va_S A s.heap s.heap [] := va_S.rf
  have hl := lv_entry ([.ref (aX ad), .int (nI lv)]) (n := 3) (Nat.le_of_ble_eq_true rfl)
  rw [lg_entry_eq]
  generalize (lg_sl ([.ref (aX ad), .int (nI lv)]) ++ List.replicate (3 - (lg_sl ([.ref (aX ad), .int (nI lv)])).length) Slot.unset).toArray = ls at hl ⊢
  replace hl : lv_has ls 3 [(0, .ref (aX ad)), (1, .int (nI lv))] := hl
  have hn := hC.ok.2.1 0 lv
  refine lv_iload_n hx hb dX2_merge_0 rfl (lv_at hl 1 rfl) ?_
  refine h_rdS (As := [.int (nI lv)]) (rest := []) hF (c_X2_needLevel l G _ lv (by omega)) 1 gX2_merge_X2_needLevel rfl (by decide +kernel) ⟨Nat.le_of_ble_eq_true rfl, Nat.le_of_ble_eq_true rfl⟩ hK0 hV0 rfl hl.1 rfl (Nat.le_of_ble_eq_true rfl) (Nat.le_of_ble_eq_true rfl) (Nat.le_of_ble_eq_true rfl) dX2_merge_1 ?_
  refine lv_aload_n hx hb dX2_merge_4 rfl (lv_at hl 0 rfl) ?_
  refine h_get (v := .ref (aB ad 0)) hx hb hts hi2 hown hK0 hV0 hC.xo rfl 1 (by decide) hw0 rfl dX2_merge_5 ?_
  refine lv_iload_n hx hb dX2_merge_8 rfl (lv_at hl 1 rfl) ?_
  refine h_rdV (As := [.int (nI lv)]) (rest := []) hF (c_X0_runsOf l G _ ad S hC 0 (by decide) lv (by omega)) 1 gX2_merge_X0_runsOf rfl (by decide +kernel) ⟨Nat.le_of_ble_eq_true rfl, Nat.le_of_ble_eq_true rfl⟩ hK0 hV0 (hC.bo (by decide)) rfl rfl rfl hl.1 rfl (Nat.le_of_ble_eq_true rfl) (Nat.le_of_ble_eq_true rfl) (Nat.le_of_ble_eq_true rfl) dX2_merge_9 ?_
  refine h_if_ne (a := sN S 0 lv) (tgt := 25) hx hb dX2_merge_12 (by decide) (by omega) (fun c_12 => absurd hr0 c_12) (fun c_12 => ?_)
  exact h_throw hx hb hlt (is := 60) (text := "the level has no runs") (ik := 58) (ic := 62) hown fitE.2.2.1 hw1 hw2 (by decide) (at62 hZ0.2.2.2 (fun q hq => hts q ((by decide +kernel : ∀ w ∈ (vx_atS RX2 62 ISE nm2).filter goodWord, w ∈ wsX2_merge) q hq))) ot62 hZ0 hV0 hS (hl.1.trans hml.symm) dX2_merge_15 dX2_merge_18 dX2_merge_19 dX2_merge_21 dX2_merge_24 hout (Nat.le_of_ble_eq_true rfl) (Nat.le_of_ble_eq_true rfl) (Nat.le_of_ble_eq_true rfl) (Nat.le_of_ble_eq_true rfl) hlocks (Nat.le_of_ble_eq_true rfl) (Nat.le_of_ble_eq_true rfl)

set_option maxHeartbeats 1000000 in
set_option maxRecDepth 100000 in
theorem t_setRoom (l : Launch) (hlt : l.stackTraces = false) (G : hG) (A : Nat → Prop) (hp : HP) (ad : Nat → Nat) (S : CS) (hC : cW ad S hp) (x : Int32) (hb0 : x < nI 1 ∨ nI 8 < x) : hTh l yX2_setRoom wsX2_setRoom 6 82 1 6 G A hp [.ref (aX ad), .int x] IAE := by
  refine vx_ofW (cc := cX2_setRoom) (maxL := 3) (ret := (some .int)) (by decide) rfl ?_
  intro p e s m args below meth c s₁ B hml hout hv
  obtain ⟨rfl, hV0, hK0, hA, hZ0⟩ := hv
  have hx := B.exec
  have hb := B.bytes
  have hr := B.returns
  have hts := atoms_spec (ws := wsX2_setRoom) B.pre
  have hown : s.vm.findClass RX2 = some m.cls := findClass_of_methodNamed B.named
  have hlocks := B.notSynchronized
  have hF : CallFix p m c cX2_setRoom 3 s [.ref (aX ad), .int x].toArray wsX2_setRoom RX2 := ⟨hx, hb, hml, hown, hts⟩
  have hw0 := hts (.classLink RX2 37 IAE) (by decide +kernel)
  have hw1 := hts (.initialized IAE) (by decide +kernel)
  have hS : va_S A s.heap s.heap [] := va_S.rf
  have hl := lv_entry ([.ref (aX ad), .int x]) (n := 3) (Nat.le_of_ble_eq_true rfl)
  rw [lg_entry_eq]
  generalize (lg_sl ([.ref (aX ad), .int x]) ++ List.replicate (3 - (lg_sl ([.ref (aX ad), .int x])).length) Slot.unset).toArray = ls at hl ⊢
  replace hl : lv_has ls 3 [(0, .ref (aX ad)), (1, .int x)] := hl
  refine lv_iload_n hx hb dX2_setRoom_0 rfl (lv_at hl 1 rfl) ?_
  refine lv_iconst (v := nI 1) hx hb dX2_setRoom_1 (by decide) ?_
  refine lv_icmp_lt (tgt := 11) hx hb dX2_setRoom_2 (by decide) (fun c_2 => ?_) (fun c_2 => ?_)
  · exact h_throw hx hb hlt (is := 73) (text := "the room is not 1 to 8") (ik := 37) (ic := 41) hown fitE.2.1 hw0 hw1 (by decide) (at41 hZ0.2.2.2 (fun q hq => hts q ((by decide +kernel : ∀ w ∈ (vx_atS RX2 41 IAE nm2).filter goodWord, w ∈ wsX2_setRoom) q hq))) ot41 hZ0 hV0 hS (hl.1.trans hml.symm) dX2_setRoom_11 dX2_setRoom_14 dX2_setRoom_15 dX2_setRoom_17 dX2_setRoom_20 hout (Nat.le_of_ble_eq_true rfl) (Nat.le_of_ble_eq_true rfl) (Nat.le_of_ble_eq_true rfl) (Nat.le_of_ble_eq_true rfl) hlocks (Nat.le_of_ble_eq_true rfl) (Nat.le_of_ble_eq_true rfl)
  · refine lv_iload_n hx hb dX2_setRoom_5 rfl (lv_at hl 1 rfl) ?_
    refine lv_bipush (v := nI 8) hx hb dX2_setRoom_6 (by decide) ?_
    refine lv_icmp_le (tgt := 21) hx hb dX2_setRoom_8 (by decide) (fun c_8 => absurd c_8 (by rcases hb0 with h | h; exact absurd h c_2; exact Int32.not_le.mpr h)) (fun c_8 => ?_)
    exact h_throw hx hb hlt (is := 73) (text := "the room is not 1 to 8") (ik := 37) (ic := 41) hown fitE.2.1 hw0 hw1 (by decide) (at41 hZ0.2.2.2 (fun q hq => hts q ((by decide +kernel : ∀ w ∈ (vx_atS RX2 41 IAE nm2).filter goodWord, w ∈ wsX2_setRoom) q hq))) ot41 hZ0 hV0 hS (hl.1.trans hml.symm) dX2_setRoom_11 dX2_setRoom_14 dX2_setRoom_15 dX2_setRoom_17 dX2_setRoom_20 hout (Nat.le_of_ble_eq_true rfl) (Nat.le_of_ble_eq_true rfl) (Nat.le_of_ble_eq_true rfl) (Nat.le_of_ble_eq_true rfl) hlocks (Nat.le_of_ble_eq_true rfl) (Nat.le_of_ble_eq_true rfl)

set_option maxHeartbeats 1000000 in
set_option maxRecDepth 100000 in
theorem t_read (l : Launch) (hlt : l.stackTraces = false) (G : hG) (A : Nat → Prop) (hp : HP) (ad : Nat → Nat) (S : CS) (hC : cW ad S hp) (x : Int32) (hb0 : x < 0 ∨ nI 64 ≤ x) : hTh l yX2_read wsX2_read 7 102 1 6 G A hp [.ref (aX ad), .int x] IOE := by
  refine vx_ofW (cc := cX2_read) (maxL := 2) (ret := (some .int)) (by decide) rfl ?_
  intro p e s m args below meth c s₁ B hml hout hv
  obtain ⟨rfl, hV0, hK0, hA, hZ0⟩ := hv
  have hx := B.exec
  have hb := B.bytes
  have hr := B.returns
  have hts := atoms_spec (ws := wsX2_read) B.pre
  have hown : s.vm.findClass RX2 = some m.cls := findClass_of_methodNamed B.named
  have hlocks := B.notSynchronized
  have hF : CallFix p m c cX2_read 2 s [.ref (aX ad), .int x].toArray wsX2_read RX2 := ⟨hx, hb, hml, hown, hts⟩
  have hS : va_S A s.heap s.heap [] := va_S.rf
  have hl := lv_entry ([.ref (aX ad), .int x]) (n := 2) (Nat.le_of_ble_eq_true rfl)
  rw [lg_entry_eq]
  generalize (lg_sl ([.ref (aX ad), .int x]) ++ List.replicate (2 - (lg_sl ([.ref (aX ad), .int x])).length) Slot.unset).toArray = ls at hl ⊢
  replace hl : lv_has ls 2 [(0, .ref (aX ad)), (1, .int x)] := hl
  refine lv_iload_n hx hb dX2_read_0 rfl (lv_at hl 1 rfl) ?_
  exact h_thS (As := [.int x]) (rest := []) hF (t_needNumber l hlt G A _ (x) hb0) 1 gX2_read_X2_needNumber rfl (by decide +kernel) ⟨Nat.le_of_ble_eq_true rfl, Nat.le_of_ble_eq_true rfl⟩ hK0 hV0 hA hZ0 hS rfl hl.1 rfl (Nat.le_of_ble_eq_true rfl) ⟨Nat.le_of_ble_eq_true rfl, Nat.le_of_ble_eq_true rfl⟩ dX2_read_1 (fun q9 ce H1 locs1 hV1 hS1 hce hcv hcl => h_out hout hlocks hV1 hS1 hce hcv hcl (Nat.le_of_ble_eq_true rfl) (Nat.le_of_ble_eq_true rfl))

set_option maxHeartbeats 1000000 in
set_option maxRecDepth 100000 in
theorem t_detours (l : Launch) (hlt : l.stackTraces = false) (G : hG) (A : Nat → Prop) (hp : HP) (ad : Nat → Nat) (S : CS) (hC : cW ad S hp) (x : Int32) (hb0 : x < 0 ∨ nI 64 ≤ x) : hTh l yX2_detours wsX2_detours 7 102 1 6 G A hp [.ref (aX ad), .int x] IOE := by
  refine vx_ofW (cc := cX2_detours) (maxL := 2) (ret := (some .int)) (by decide) rfl ?_
  intro p e s m args below meth c s₁ B hml hout hv
  obtain ⟨rfl, hV0, hK0, hA, hZ0⟩ := hv
  have hx := B.exec
  have hb := B.bytes
  have hr := B.returns
  have hts := atoms_spec (ws := wsX2_detours) B.pre
  have hown : s.vm.findClass RX2 = some m.cls := findClass_of_methodNamed B.named
  have hlocks := B.notSynchronized
  have hF : CallFix p m c cX2_detours 2 s [.ref (aX ad), .int x].toArray wsX2_detours RX2 := ⟨hx, hb, hml, hown, hts⟩
  have hS : va_S A s.heap s.heap [] := va_S.rf
  have hl := lv_entry ([.ref (aX ad), .int x]) (n := 2) (Nat.le_of_ble_eq_true rfl)
  rw [lg_entry_eq]
  generalize (lg_sl ([.ref (aX ad), .int x]) ++ List.replicate (2 - (lg_sl ([.ref (aX ad), .int x])).length) Slot.unset).toArray = ls at hl ⊢
  replace hl : lv_has ls 2 [(0, .ref (aX ad)), (1, .int x)] := hl
  refine lv_iload_n hx hb dX2_detours_0 rfl (lv_at hl 1 rfl) ?_
  exact h_thS (As := [.int x]) (rest := []) hF (t_needNumber l hlt G A _ (x) hb0) 1 gX2_detours_X2_needNumber rfl (by decide +kernel) ⟨Nat.le_of_ble_eq_true rfl, Nat.le_of_ble_eq_true rfl⟩ hK0 hV0 hA hZ0 hS rfl hl.1 rfl (Nat.le_of_ble_eq_true rfl) ⟨Nat.le_of_ble_eq_true rfl, Nat.le_of_ble_eq_true rfl⟩ dX2_detours_1 (fun q9 ce H1 locs1 hV1 hS1 hce hcv hcl => h_out hout hlocks hV1 hS1 hce hcv hcl (Nat.le_of_ble_eq_true rfl) (Nat.le_of_ble_eq_true rfl))

set_option maxHeartbeats 1000000 in
set_option maxRecDepth 100000 in
theorem t_next (l : Launch) (hlt : l.stackTraces = false) (G : hG) (A : Nat → Prop) (hp : HP) (ad : Nat → Nat) (S : CS) (hC : cW ad S hp) (x : Int32) (hb0 : x < 0 ∨ nI 64 ≤ x) : hTh l yX2_next wsX2_next 7 102 1 6 G A hp [.ref (aX ad), .int x] IOE := by
  refine vx_ofW (cc := cX2_next) (maxL := 3) (ret := (some .int)) (by decide) rfl ?_
  intro p e s m args below meth c s₁ B hml hout hv
  obtain ⟨rfl, hV0, hK0, hA, hZ0⟩ := hv
  have hx := B.exec
  have hb := B.bytes
  have hr := B.returns
  have hts := atoms_spec (ws := wsX2_next) B.pre
  have hown : s.vm.findClass RX2 = some m.cls := findClass_of_methodNamed B.named
  have hlocks := B.notSynchronized
  have hF : CallFix p m c cX2_next 3 s [.ref (aX ad), .int x].toArray wsX2_next RX2 := ⟨hx, hb, hml, hown, hts⟩
  have hS : va_S A s.heap s.heap [] := va_S.rf
  have hl := lv_entry ([.ref (aX ad), .int x]) (n := 3) (Nat.le_of_ble_eq_true rfl)
  rw [lg_entry_eq]
  generalize (lg_sl ([.ref (aX ad), .int x]) ++ List.replicate (3 - (lg_sl ([.ref (aX ad), .int x])).length) Slot.unset).toArray = ls at hl ⊢
  replace hl : lv_has ls 3 [(0, .ref (aX ad)), (1, .int x)] := hl
  refine lv_iload_n hx hb dX2_next_0 rfl (lv_at hl 1 rfl) ?_
  exact h_thS (As := [.int x]) (rest := []) hF (t_needNumber l hlt G A _ (x) hb0) 1 gX2_next_X2_needNumber rfl (by decide +kernel) ⟨Nat.le_of_ble_eq_true rfl, Nat.le_of_ble_eq_true rfl⟩ hK0 hV0 hA hZ0 hS rfl hl.1 rfl (Nat.le_of_ble_eq_true rfl) ⟨Nat.le_of_ble_eq_true rfl, Nat.le_of_ble_eq_true rfl⟩ dX2_next_1 (fun q9 ce H1 locs1 hV1 hS1 hce hcv hcl => h_out hout hlocks hV1 hS1 hce hcv hcl (Nat.le_of_ble_eq_true rfl) (Nat.le_of_ble_eq_true rfl))

set_option maxHeartbeats 1000000 in
set_option maxRecDepth 100000 in
theorem t_sumA (l : Launch) (hlt : l.stackTraces = false) (G : hG) (A : Nat → Prop) (hp : HP) (ad : Nat → Nat) (S : CS) (hC : cW ad S hp) (y : Int32) (x : Int32) (hb0 : x < 0 ∨ nI 64 ≤ x) : hTh l yX2_sum wsX2_sum 7 102 1 6 G A hp [.ref (aX ad), .int x, .int y] IOE := by
  refine vx_ofW (cc := cX2_sum) (maxL := 5) (ret := (some .int)) (by decide) rfl ?_
  intro p e s m args below meth c s₁ B hml hout hv
  obtain ⟨rfl, hV0, hK0, hA, hZ0⟩ := hv
  have hx := B.exec
  have hb := B.bytes
  have hr := B.returns
  have hts := atoms_spec (ws := wsX2_sum) B.pre
  have hown : s.vm.findClass RX2 = some m.cls := findClass_of_methodNamed B.named
  have hlocks := B.notSynchronized
  have hF : CallFix p m c cX2_sum 5 s [.ref (aX ad), .int x, .int y].toArray wsX2_sum RX2 := ⟨hx, hb, hml, hown, hts⟩
  have hS : va_S A s.heap s.heap [] := va_S.rf
  have hl := lv_entry ([.ref (aX ad), .int x, .int y]) (n := 5) (Nat.le_of_ble_eq_true rfl)
  rw [lg_entry_eq]
  generalize (lg_sl ([.ref (aX ad), .int x, .int y]) ++ List.replicate (5 - (lg_sl ([.ref (aX ad), .int x, .int y])).length) Slot.unset).toArray = ls at hl ⊢
  replace hl : lv_has ls 5 [(0, .ref (aX ad)), (1, .int x), (2, .int y)] := hl
  refine lv_iload_n hx hb dX2_sum_0 rfl (lv_at hl 1 rfl) ?_
  exact h_thS (As := [.int x]) (rest := []) hF (t_needNumber l hlt G A _ (x) hb0) 1 gX2_sum_X2_needNumber rfl (by decide +kernel) ⟨Nat.le_of_ble_eq_true rfl, Nat.le_of_ble_eq_true rfl⟩ hK0 hV0 hA hZ0 hS rfl hl.1 rfl (Nat.le_of_ble_eq_true rfl) ⟨Nat.le_of_ble_eq_true rfl, Nat.le_of_ble_eq_true rfl⟩ dX2_sum_1 (fun q9 ce H1 locs1 hV1 hS1 hce hcv hcl => h_out hout hlocks hV1 hS1 hce hcv hcl (Nat.le_of_ble_eq_true rfl) (Nat.le_of_ble_eq_true rfl))

set_option maxHeartbeats 1000000 in
set_option maxRecDepth 100000 in
theorem t_sumB (l : Launch) (hlt : l.stackTraces = false) (G : hG) (A : Nat → Prop) (hp : HP) (ad : Nat → Nat) (S : CS) (hC : cW ad S hp) (x : Nat) (hx6 : x < 64) (y : Int32) (hb0 : y < 0 ∨ nI 64 ≤ y) : hTh l yX2_sum wsX2_sum 7 102 1 6 G A hp [.ref (aX ad), .int (nI x), .int y] IOE := by
  refine vx_ofW (cc := cX2_sum) (maxL := 5) (ret := (some .int)) (by decide) rfl ?_
  intro p e s m args below meth c s₁ B hml hout hv
  obtain ⟨rfl, hV0, hK0, hA, hZ0⟩ := hv
  have hx := B.exec
  have hb := B.bytes
  have hr := B.returns
  have hts := atoms_spec (ws := wsX2_sum) B.pre
  have hown : s.vm.findClass RX2 = some m.cls := findClass_of_methodNamed B.named
  have hlocks := B.notSynchronized
  have hF : CallFix p m c cX2_sum 5 s [.ref (aX ad), .int (nI x), .int y].toArray wsX2_sum RX2 := ⟨hx, hb, hml, hown, hts⟩
  have hS : va_S A s.heap s.heap [] := va_S.rf
  have hl := lv_entry ([.ref (aX ad), .int (nI x), .int y]) (n := 5) (Nat.le_of_ble_eq_true rfl)
  rw [lg_entry_eq]
  generalize (lg_sl ([.ref (aX ad), .int (nI x), .int y]) ++ List.replicate (5 - (lg_sl ([.ref (aX ad), .int (nI x), .int y])).length) Slot.unset).toArray = ls at hl ⊢
  replace hl : lv_has ls 5 [(0, .ref (aX ad)), (1, .int (nI x)), (2, .int y)] := hl
  refine lv_iload_n hx hb dX2_sum_0 rfl (lv_at hl 1 rfl) ?_
  refine h_rdS (As := [.int (nI x)]) (rest := []) hF (c_X2_needNumber l G _ x (by omega)) 1 gX2_sum_X2_needNumber rfl (by decide +kernel) ⟨Nat.le_of_ble_eq_true rfl, Nat.le_of_ble_eq_true rfl⟩ hK0 hV0 rfl hl.1 rfl (Nat.le_of_ble_eq_true rfl) (Nat.le_of_ble_eq_true rfl) (Nat.le_of_ble_eq_true rfl) dX2_sum_1 ?_
  refine lv_iload_n hx hb dX2_sum_4 rfl (lv_at hl 2 rfl) ?_
  exact h_thS (As := [.int y]) (rest := []) hF (t_needNumber l hlt G A _ (y) hb0) 1 gX2_sum_X2_needNumber rfl (by decide +kernel) ⟨Nat.le_of_ble_eq_true rfl, Nat.le_of_ble_eq_true rfl⟩ hK0 hV0 hA hZ0 hS rfl hl.1 rfl (Nat.le_of_ble_eq_true rfl) ⟨Nat.le_of_ble_eq_true rfl, Nat.le_of_ble_eq_true rfl⟩ dX2_sum_5 (fun q9 ce H1 locs1 hV1 hS1 hce hcv hcl => h_out hout hlocks hV1 hS1 hce hcv hcl (Nat.le_of_ble_eq_true rfl) (Nat.le_of_ble_eq_true rfl))

set_option maxHeartbeats 1000000 in
set_option maxRecDepth 100000 in
theorem t_sumC (l : Launch) (hlt : l.stackTraces = false) (G : hG) (A : Nat → Prop) (hp : HP) (ad : Nat → Nat) (S : CS) (hC : cW ad S hp) (x y : Nat) (hx6 : x < 64) (hy6 : y < 64) (hxy : y < x) : hTh l yX2_sum wsX2_sum 6 82 1 6 G A hp [.ref (aX ad), .int (nI x), .int (nI y)] IAE := by
  refine vx_ofW (cc := cX2_sum) (maxL := 5) (ret := (some .int)) (by decide) rfl ?_
  intro p e s m args below meth c s₁ B hml hout hv
  obtain ⟨rfl, hV0, hK0, hA, hZ0⟩ := hv
  have hx := B.exec
  have hb := B.bytes
  have hr := B.returns
  have hts := atoms_spec (ws := wsX2_sum) B.pre
  have hown : s.vm.findClass RX2 = some m.cls := findClass_of_methodNamed B.named
  have hlocks := B.notSynchronized
  have hF : CallFix p m c cX2_sum 5 s [.ref (aX ad), .int (nI x), .int (nI y)].toArray wsX2_sum RX2 := ⟨hx, hb, hml, hown, hts⟩
  have hw0 := hts (.classLink RX2 37 IAE) (by decide +kernel)
  have hw1 := hts (.initialized IAE) (by decide +kernel)
  have hS : va_S A s.heap s.heap [] := va_S.rf
  have hl := lv_entry ([.ref (aX ad), .int (nI x), .int (nI y)]) (n := 5) (Nat.le_of_ble_eq_true rfl)
  rw [lg_entry_eq]
  generalize (lg_sl ([.ref (aX ad), .int (nI x), .int (nI y)]) ++ List.replicate (5 - (lg_sl ([.ref (aX ad), .int (nI x), .int (nI y)])).length) Slot.unset).toArray = ls at hl ⊢
  replace hl : lv_has ls 5 [(0, .ref (aX ad)), (1, .int (nI x)), (2, .int (nI y))] := hl
  refine lv_iload_n hx hb dX2_sum_0 rfl (lv_at hl 1 rfl) ?_
  refine h_rdS (As := [.int (nI x)]) (rest := []) hF (c_X2_needNumber l G _ x (by omega)) 1 gX2_sum_X2_needNumber rfl (by decide +kernel) ⟨Nat.le_of_ble_eq_true rfl, Nat.le_of_ble_eq_true rfl⟩ hK0 hV0 rfl hl.1 rfl (Nat.le_of_ble_eq_true rfl) (Nat.le_of_ble_eq_true rfl) (Nat.le_of_ble_eq_true rfl) dX2_sum_1 ?_
  refine lv_iload_n hx hb dX2_sum_4 rfl (lv_at hl 2 rfl) ?_
  refine h_rdS (As := [.int (nI y)]) (rest := []) hF (c_X2_needNumber l G _ y (by omega)) 1 gX2_sum_X2_needNumber rfl (by decide +kernel) ⟨Nat.le_of_ble_eq_true rfl, Nat.le_of_ble_eq_true rfl⟩ hK0 hV0 rfl hl.1 rfl (Nat.le_of_ble_eq_true rfl) (Nat.le_of_ble_eq_true rfl) (Nat.le_of_ble_eq_true rfl) dX2_sum_5 ?_
  refine lv_iload_n hx hb dX2_sum_8 rfl (lv_at hl 1 rfl) ?_
  refine lv_iload_n hx hb dX2_sum_9 rfl (lv_at hl 2 rfl) ?_
  refine h_icmp_le (a := x) (b := y) (tgt := 23) hx hb dX2_sum_10 (by decide) (by omega) (by omega) (fun c_10 => absurd c_10 (by omega)) (fun c_10 => ?_)
  exact h_throw hx hb hlt (is := 82) (text := "from is greater than to") (ik := 37) (ic := 41) hown fitE.2.1 hw0 hw1 (by decide) (at41 hZ0.2.2.2 (fun q hq => hts q ((by decide +kernel : ∀ w ∈ (vx_atS RX2 41 IAE nm2).filter goodWord, w ∈ wsX2_sum) q hq))) ot41 hZ0 hV0 hS (hl.1.trans hml.symm) dX2_sum_13 dX2_sum_16 dX2_sum_17 dX2_sum_19 dX2_sum_22 hout (Nat.le_of_ble_eq_true rfl) (Nat.le_of_ble_eq_true rfl) (Nat.le_of_ble_eq_true rfl) (Nat.le_of_ble_eq_true rfl) hlocks (Nat.le_of_ble_eq_true rfl) (Nat.le_of_ble_eq_true rfl)

set_option maxHeartbeats 1000000 in
set_option maxRecDepth 100000 in
theorem t_run (l : Launch) (hlt : l.stackTraces = false) (G : hG) (A : Nat → Prop) (hp : HP) (ad : Nat → Nat) (S : CS) (hC : cW ad S hp) (y z : Int32) (x : Int32) (hb0 : x < 0 ∨ nI 4 ≤ x) : hTh l yX2_run wsX2_run 7 102 1 6 G A hp [.ref (aX ad), .int x, .int y, .int z] IOE := by
  refine vx_ofW (cc := cX2_run) (maxL := 5) (ret := (some .int)) (by decide) rfl ?_
  intro p e s m args below meth c s₁ B hml hout hv
  obtain ⟨rfl, hV0, hK0, hA, hZ0⟩ := hv
  have hx := B.exec
  have hb := B.bytes
  have hr := B.returns
  have hts := atoms_spec (ws := wsX2_run) B.pre
  have hown : s.vm.findClass RX2 = some m.cls := findClass_of_methodNamed B.named
  have hlocks := B.notSynchronized
  have hF : CallFix p m c cX2_run 5 s [.ref (aX ad), .int x, .int y, .int z].toArray wsX2_run RX2 := ⟨hx, hb, hml, hown, hts⟩
  have hS : va_S A s.heap s.heap [] := va_S.rf
  have hl := lv_entry ([.ref (aX ad), .int x, .int y, .int z]) (n := 5) (Nat.le_of_ble_eq_true rfl)
  rw [lg_entry_eq]
  generalize (lg_sl ([.ref (aX ad), .int x, .int y, .int z]) ++ List.replicate (5 - (lg_sl ([.ref (aX ad), .int x, .int y, .int z])).length) Slot.unset).toArray = ls at hl ⊢
  replace hl : lv_has ls 5 [(0, .ref (aX ad)), (1, .int x), (2, .int y), (3, .int z)] := hl
  refine lv_iload_n hx hb dX2_run_0 rfl (lv_at hl 1 rfl) ?_
  exact h_thS (As := [.int x]) (rest := []) hF (t_needLevel l hlt G A _ (x) hb0) 1 gX2_run_X2_needLevel rfl (by decide +kernel) ⟨Nat.le_of_ble_eq_true rfl, Nat.le_of_ble_eq_true rfl⟩ hK0 hV0 hA hZ0 hS rfl hl.1 rfl (Nat.le_of_ble_eq_true rfl) ⟨Nat.le_of_ble_eq_true rfl, Nat.le_of_ble_eq_true rfl⟩ dX2_run_1 (fun q9 ce H1 locs1 hV1 hS1 hce hcv hcl => h_out hout hlocks hV1 hS1 hce hcv hcl (Nat.le_of_ble_eq_true rfl) (Nat.le_of_ble_eq_true rfl))

set_option maxHeartbeats 1000000 in
set_option maxRecDepth 100000 in
theorem t_runR (l : Launch) (hlt : l.stackTraces = false) (G : hG) (A : Nat → Prop) (hp : HP) (ad : Nat → Nat) (S : CS) (hC : cW ad S hp) (lv : Nat) (hl4 : lv < 4) (y z : Int32) (hb0 : y < 0 ∨ nI (sN S 0 lv) ≤ y) : hTh l yX2_run wsX2_run 6 82 1 6 G A hp [.ref (aX ad), .int (nI lv), .int y, .int z] IOE := by
  refine vx_ofW (cc := cX2_run) (maxL := 5) (ret := (some .int)) (by decide) rfl ?_
  intro p e s m args below meth c s₁ B hml hout hv
  obtain ⟨rfl, hV0, hK0, hA, hZ0⟩ := hv
  have hx := B.exec
  have hb := B.bytes
  have hr := B.returns
  have hts := atoms_spec (ws := wsX2_run) B.pre
  have hown : s.vm.findClass RX2 = some m.cls := findClass_of_methodNamed B.named
  have hlocks := B.notSynchronized
  have hF : CallFix p m c cX2_run 5 s [.ref (aX ad), .int (nI lv), .int y, .int z].toArray wsX2_run RX2 := ⟨hx, hb, hml, hown, hts⟩
  have hw0 := hts (.fieldLink RX2 19 "SlipLevels" "binder" "LSlipLevels$Binder;") (by decide +kernel)
  have hw1 := hts (.classLink RX2 94 IOE) (by decide +kernel)
  have hw2 := hts (.initialized IOE) (by decide +kernel)
  have hi2 : ∀ w ∈ u_ws RX2 TX2 5, w ∈ wsX2_run := by
    intro w h
    unfold wsX2_run
    simp only [List.mem_cons, List.mem_append, h, true_or, or_true]
  have hS : va_S A s.heap s.heap [] := va_S.rf
  have hl := lv_entry ([.ref (aX ad), .int (nI lv), .int y, .int z]) (n := 5) (Nat.le_of_ble_eq_true rfl)
  rw [lg_entry_eq]
  generalize (lg_sl ([.ref (aX ad), .int (nI lv), .int y, .int z]) ++ List.replicate (5 - (lg_sl ([.ref (aX ad), .int (nI lv), .int y, .int z])).length) Slot.unset).toArray = ls at hl ⊢
  replace hl : lv_has ls 5 [(0, .ref (aX ad)), (1, .int (nI lv)), (2, .int y), (3, .int z)] := hl
  have hn := hC.ok.2.1 0 lv
  refine lv_iload_n hx hb dX2_run_0 rfl (lv_at hl 1 rfl) ?_
  refine h_rdS (As := [.int (nI lv)]) (rest := []) hF (c_X2_needLevel l G _ lv (by omega)) 1 gX2_run_X2_needLevel rfl (by decide +kernel) ⟨Nat.le_of_ble_eq_true rfl, Nat.le_of_ble_eq_true rfl⟩ hK0 hV0 rfl hl.1 rfl (Nat.le_of_ble_eq_true rfl) (Nat.le_of_ble_eq_true rfl) (Nat.le_of_ble_eq_true rfl) dX2_run_1 ?_
  refine lv_aload_n hx hb dX2_run_4 rfl (lv_at hl 0 rfl) ?_
  refine h_get (v := .ref (aB ad 0)) hx hb hts hi2 hown hK0 hV0 hC.xo rfl 1 (by decide) hw0 rfl dX2_run_5 ?_
  refine lv_iload_n hx hb dX2_run_8 rfl (lv_at hl 1 rfl) ?_
  refine lv_iload_n hx hb dX2_run_9 rfl (lv_at hl 2 rfl) ?_
  refine h_rdV (As := [.int (nI lv), .int y]) (rest := []) hF (c_X0_runAtN l G _ ad S hC 0 (by decide) lv (by omega) (y) hb0) 2 gX2_run_X0_runAt rfl (by decide +kernel) ⟨Nat.le_of_ble_eq_true rfl, Nat.le_of_ble_eq_true rfl⟩ hK0 hV0 (hC.bo (by decide)) rfl rfl rfl hl.1 rfl (Nat.le_of_ble_eq_true rfl) (Nat.le_of_ble_eq_true rfl) (Nat.le_of_ble_eq_true rfl) dX2_run_10 ?_
  refine lv_astoreN (lv' := [(4, .null), (0, .ref (aX ad)), (1, .int (nI lv)), (2, .int y), (3, .int z)]) hx hb dX2_run_13 hl (by decide) rfl (fun ls hl => ?_)
  refine lv_aloadN hx hb dX2_run_15 (lv_at hl 0 rfl) ?_
  refine lv_ifnonnullN hx hb dX2_run_17 ?_
  exact h_throw hx hb hlt (is := 96) (text := "there is no such run") (ik := 94) (ic := 98) hown fitE.1 hw1 hw2 (by decide) (at98 hZ0.2.2.2 (fun q hq => hts q ((by decide +kernel : ∀ w ∈ (vx_atS RX2 98 IOE nm2).filter goodWord, w ∈ wsX2_run) q hq))) ot98 hZ0 hV0 hS (hl.1.trans hml.symm) dX2_run_20 dX2_run_23 dX2_run_24 dX2_run_26 dX2_run_29 hout (Nat.le_of_ble_eq_true rfl) (Nat.le_of_ble_eq_true rfl) (Nat.le_of_ble_eq_true rfl) (Nat.le_of_ble_eq_true rfl) hlocks (Nat.le_of_ble_eq_true rfl) (Nat.le_of_ble_eq_true rfl)

set_option maxHeartbeats 1000000 in
set_option maxRecDepth 100000 in
theorem t_runW (l : Launch) (hlt : l.stackTraces = false) (G : hG) (A : Nat → Prop) (hp : HP) (ad : Nat → Nat) (S : CS) (hC : cW ad S hp) (lv : Nat) (hl4 : lv < 4) (r : Nat) (hr0 : r < sN S 0 lv) (z : Int32) (hb0 : z < 0 ∨ nI 6 ≤ z) : hTh l yX2_run wsX2_run 6 82 1 6 G A hp [.ref (aX ad), .int (nI lv), .int (nI r), .int z] IOE := by
  refine vx_ofW (cc := cX2_run) (maxL := 5) (ret := (some .int)) (by decide) rfl ?_
  intro p e s m args below meth c s₁ B hml hout hv
  obtain ⟨rfl, hV0, hK0, hA, hZ0⟩ := hv
  have hx := B.exec
  have hb := B.bytes
  have hr := B.returns
  have hts := atoms_spec (ws := wsX2_run) B.pre
  have hown : s.vm.findClass RX2 = some m.cls := findClass_of_methodNamed B.named
  have hlocks := B.notSynchronized
  have hF : CallFix p m c cX2_run 5 s [.ref (aX ad), .int (nI lv), .int (nI r), .int z].toArray wsX2_run RX2 := ⟨hx, hb, hml, hown, hts⟩
  have hw0 := hts (.fieldLink RX2 19 "SlipLevels" "binder" "LSlipLevels$Binder;") (by decide +kernel)
  have hw1 := hts (.classLink RX2 94 IOE) (by decide +kernel)
  have hw2 := hts (.initialized IOE) (by decide +kernel)
  have hi2 : ∀ w ∈ u_ws RX2 TX2 5, w ∈ wsX2_run := by
    intro w h
    unfold wsX2_run
    simp only [List.mem_cons, List.mem_append, h, true_or, or_true]
  have hS : va_S A s.heap s.heap [] := va_S.rf
  have hl := lv_entry ([.ref (aX ad), .int (nI lv), .int (nI r), .int z]) (n := 5) (Nat.le_of_ble_eq_true rfl)
  rw [lg_entry_eq]
  generalize (lg_sl ([.ref (aX ad), .int (nI lv), .int (nI r), .int z]) ++ List.replicate (5 - (lg_sl ([.ref (aX ad), .int (nI lv), .int (nI r), .int z])).length) Slot.unset).toArray = ls at hl ⊢
  replace hl : lv_has ls 5 [(0, .ref (aX ad)), (1, .int (nI lv)), (2, .int (nI r)), (3, .int z)] := hl
  have hn := hC.ok.2.1 0 lv
  refine lv_iload_n hx hb dX2_run_0 rfl (lv_at hl 1 rfl) ?_
  refine h_rdS (As := [.int (nI lv)]) (rest := []) hF (c_X2_needLevel l G _ lv (by omega)) 1 gX2_run_X2_needLevel rfl (by decide +kernel) ⟨Nat.le_of_ble_eq_true rfl, Nat.le_of_ble_eq_true rfl⟩ hK0 hV0 rfl hl.1 rfl (Nat.le_of_ble_eq_true rfl) (Nat.le_of_ble_eq_true rfl) (Nat.le_of_ble_eq_true rfl) dX2_run_1 ?_
  refine lv_aload_n hx hb dX2_run_4 rfl (lv_at hl 0 rfl) ?_
  refine h_get (v := .ref (aB ad 0)) hx hb hts hi2 hown hK0 hV0 hC.xo rfl 1 (by decide) hw0 rfl dX2_run_5 ?_
  refine lv_iload_n hx hb dX2_run_8 rfl (lv_at hl 1 rfl) ?_
  refine lv_iload_n hx hb dX2_run_9 rfl (lv_at hl 2 rfl) ?_
  refine h_rdV (As := [.int (nI lv), .int (nI r)]) (rest := []) hF (c_X0_runAt l G _ ad S hC 0 (by decide) lv r (by omega) (by omega)) 2 gX2_run_X0_runAt rfl (by decide +kernel) ⟨Nat.le_of_ble_eq_true rfl, Nat.le_of_ble_eq_true rfl⟩ hK0 hV0 (hC.bo (by decide)) rfl rfl rfl hl.1 rfl (Nat.le_of_ble_eq_true rfl) (Nat.le_of_ble_eq_true rfl) (Nat.le_of_ble_eq_true rfl) dX2_run_10 ?_
  refine lv_astore (lv' := [(4, .ref (aS ad (iR S 0 lv r))), (0, .ref (aX ad)), (1, .int (nI lv)), (2, .int (nI r)), (3, .int z)]) hx hb dX2_run_13 hl (by decide) rfl (fun ls hl => ?_)
  refine lv_aload hx hb dX2_run_15 (lv_at hl 0 rfl) ?_
  refine lv_ifnonnull (tgt := 30) hx hb dX2_run_17 (by decide) ?_
  refine lv_iload_n hx hb dX2_run_30 rfl (lv_at hl 4 rfl) ?_
  refine lv_if_lt (tgt := 40) hx hb dX2_run_31 (by decide) (fun c_31 => ?_) (fun c_31 => ?_)
  · exact h_throw hx hb hlt (is := 99) (text := "what is not 0 to 5") (ik := 94) (ic := 98) hown fitE.1 hw1 hw2 (by decide) (at98 hZ0.2.2.2 (fun q hq => hts q ((by decide +kernel : ∀ w ∈ (vx_atS RX2 98 IOE nm2).filter goodWord, w ∈ wsX2_run) q hq))) ot98 hZ0 hV0 hS (hl.1.trans hml.symm) dX2_run_40 dX2_run_43 dX2_run_44 dX2_run_46 dX2_run_49 hout (Nat.le_of_ble_eq_true rfl) (Nat.le_of_ble_eq_true rfl) (Nat.le_of_ble_eq_true rfl) (Nat.le_of_ble_eq_true rfl) hlocks (Nat.le_of_ble_eq_true rfl) (Nat.le_of_ble_eq_true rfl)
  · refine lv_iload_n hx hb dX2_run_34 rfl (lv_at hl 4 rfl) ?_
    refine lv_bipush (v := nI 6) hx hb dX2_run_35 (by decide) ?_
    refine lv_icmp_lt (tgt := 50) hx hb dX2_run_37 (by decide) (fun c_37 => absurd c_37 (by rcases hb0 with h | h; exact absurd h c_31; exact Int32.not_lt.mpr h)) (fun c_37 => ?_)
    exact h_throw hx hb hlt (is := 99) (text := "what is not 0 to 5") (ik := 94) (ic := 98) hown fitE.1 hw1 hw2 (by decide) (at98 hZ0.2.2.2 (fun q hq => hts q ((by decide +kernel : ∀ w ∈ (vx_atS RX2 98 IOE nm2).filter goodWord, w ∈ wsX2_run) q hq))) ot98 hZ0 hV0 hS (hl.1.trans hml.symm) dX2_run_40 dX2_run_43 dX2_run_44 dX2_run_46 dX2_run_49 hout (Nat.le_of_ble_eq_true rfl) (Nat.le_of_ble_eq_true rfl) (Nat.le_of_ble_eq_true rfl) (Nat.le_of_ble_eq_true rfl) hlocks (Nat.le_of_ble_eq_true rfl) (Nat.le_of_ble_eq_true rfl)

set_option maxHeartbeats 1000000 in
set_option maxRecDepth 100000 in
theorem t_slip (l : Launch) (hlt : l.stackTraces = false) (G : hG) (A : Nat → Prop) (hp : HP) (ad : Nat → Nat) (S : CS) (hC : cW ad S hp) (y z : Int32) (x : Int32) (hb0 : x < 0 ∨ nI 4 ≤ x) : hTh l yX2_slip wsX2_slip 7 102 1 6 G A hp [.ref (aX ad), .int x, .int y, .int z] IOE := by
  refine vx_ofW (cc := cX2_slip) (maxL := 5) (ret := (some .int)) (by decide) rfl ?_
  intro p e s m args below meth c s₁ B hml hout hv
  obtain ⟨rfl, hV0, hK0, hA, hZ0⟩ := hv
  have hx := B.exec
  have hb := B.bytes
  have hr := B.returns
  have hts := atoms_spec (ws := wsX2_slip) B.pre
  have hown : s.vm.findClass RX2 = some m.cls := findClass_of_methodNamed B.named
  have hlocks := B.notSynchronized
  have hF : CallFix p m c cX2_slip 5 s [.ref (aX ad), .int x, .int y, .int z].toArray wsX2_slip RX2 := ⟨hx, hb, hml, hown, hts⟩
  have hS : va_S A s.heap s.heap [] := va_S.rf
  have hl := lv_entry ([.ref (aX ad), .int x, .int y, .int z]) (n := 5) (Nat.le_of_ble_eq_true rfl)
  rw [lg_entry_eq]
  generalize (lg_sl ([.ref (aX ad), .int x, .int y, .int z]) ++ List.replicate (5 - (lg_sl ([.ref (aX ad), .int x, .int y, .int z])).length) Slot.unset).toArray = ls at hl ⊢
  replace hl : lv_has ls 5 [(0, .ref (aX ad)), (1, .int x), (2, .int y), (3, .int z)] := hl
  refine lv_iload_n hx hb dX2_slip_0 rfl (lv_at hl 1 rfl) ?_
  exact h_thS (As := [.int x]) (rest := []) hF (t_needLevel l hlt G A _ (x) hb0) 1 gX2_slip_X2_needLevel rfl (by decide +kernel) ⟨Nat.le_of_ble_eq_true rfl, Nat.le_of_ble_eq_true rfl⟩ hK0 hV0 hA hZ0 hS rfl hl.1 rfl (Nat.le_of_ble_eq_true rfl) ⟨Nat.le_of_ble_eq_true rfl, Nat.le_of_ble_eq_true rfl⟩ dX2_slip_1 (fun q9 ce H1 locs1 hV1 hS1 hce hcv hcl => h_out hout hlocks hV1 hS1 hce hcv hcl (Nat.le_of_ble_eq_true rfl) (Nat.le_of_ble_eq_true rfl))

set_option maxHeartbeats 1000000 in
set_option maxRecDepth 100000 in
theorem t_slipR (l : Launch) (hlt : l.stackTraces = false) (G : hG) (A : Nat → Prop) (hp : HP) (ad : Nat → Nat) (S : CS) (hC : cW ad S hp) (lv : Nat) (hl4 : lv < 4) (y z : Int32) (hb0 : y < 0 ∨ nI (sN S 0 lv) ≤ y) : hTh l yX2_slip wsX2_slip 6 82 1 6 G A hp [.ref (aX ad), .int (nI lv), .int y, .int z] IOE := by
  refine vx_ofW (cc := cX2_slip) (maxL := 5) (ret := (some .int)) (by decide) rfl ?_
  intro p e s m args below meth c s₁ B hml hout hv
  obtain ⟨rfl, hV0, hK0, hA, hZ0⟩ := hv
  have hx := B.exec
  have hb := B.bytes
  have hr := B.returns
  have hts := atoms_spec (ws := wsX2_slip) B.pre
  have hown : s.vm.findClass RX2 = some m.cls := findClass_of_methodNamed B.named
  have hlocks := B.notSynchronized
  have hF : CallFix p m c cX2_slip 5 s [.ref (aX ad), .int (nI lv), .int y, .int z].toArray wsX2_slip RX2 := ⟨hx, hb, hml, hown, hts⟩
  have hw0 := hts (.fieldLink RX2 19 "SlipLevels" "binder" "LSlipLevels$Binder;") (by decide +kernel)
  have hw1 := hts (.classLink RX2 94 IOE) (by decide +kernel)
  have hw2 := hts (.initialized IOE) (by decide +kernel)
  have hi2 : ∀ w ∈ u_ws RX2 TX2 5, w ∈ wsX2_slip := by
    intro w h
    unfold wsX2_slip
    simp only [List.mem_cons, List.mem_append, h, true_or, or_true]
  have hS : va_S A s.heap s.heap [] := va_S.rf
  have hl := lv_entry ([.ref (aX ad), .int (nI lv), .int y, .int z]) (n := 5) (Nat.le_of_ble_eq_true rfl)
  rw [lg_entry_eq]
  generalize (lg_sl ([.ref (aX ad), .int (nI lv), .int y, .int z]) ++ List.replicate (5 - (lg_sl ([.ref (aX ad), .int (nI lv), .int y, .int z])).length) Slot.unset).toArray = ls at hl ⊢
  replace hl : lv_has ls 5 [(0, .ref (aX ad)), (1, .int (nI lv)), (2, .int y), (3, .int z)] := hl
  have hn := hC.ok.2.1 0 lv
  refine lv_iload_n hx hb dX2_slip_0 rfl (lv_at hl 1 rfl) ?_
  refine h_rdS (As := [.int (nI lv)]) (rest := []) hF (c_X2_needLevel l G _ lv (by omega)) 1 gX2_slip_X2_needLevel rfl (by decide +kernel) ⟨Nat.le_of_ble_eq_true rfl, Nat.le_of_ble_eq_true rfl⟩ hK0 hV0 rfl hl.1 rfl (Nat.le_of_ble_eq_true rfl) (Nat.le_of_ble_eq_true rfl) (Nat.le_of_ble_eq_true rfl) dX2_slip_1 ?_
  refine lv_aload_n hx hb dX2_slip_4 rfl (lv_at hl 0 rfl) ?_
  refine h_get (v := .ref (aB ad 0)) hx hb hts hi2 hown hK0 hV0 hC.xo rfl 1 (by decide) hw0 rfl dX2_slip_5 ?_
  refine lv_iload_n hx hb dX2_slip_8 rfl (lv_at hl 1 rfl) ?_
  refine lv_iload_n hx hb dX2_slip_9 rfl (lv_at hl 2 rfl) ?_
  refine h_rdV (As := [.int (nI lv), .int y]) (rest := []) hF (c_X0_runAtN l G _ ad S hC 0 (by decide) lv (by omega) (y) hb0) 2 gX2_slip_X0_runAt rfl (by decide +kernel) ⟨Nat.le_of_ble_eq_true rfl, Nat.le_of_ble_eq_true rfl⟩ hK0 hV0 (hC.bo (by decide)) rfl rfl rfl hl.1 rfl (Nat.le_of_ble_eq_true rfl) (Nat.le_of_ble_eq_true rfl) (Nat.le_of_ble_eq_true rfl) dX2_slip_10 ?_
  refine lv_astoreN (lv' := [(4, .null), (0, .ref (aX ad)), (1, .int (nI lv)), (2, .int y), (3, .int z)]) hx hb dX2_slip_13 hl (by decide) rfl (fun ls hl => ?_)
  refine lv_aloadN hx hb dX2_slip_15 (lv_at hl 0 rfl) ?_
  refine lv_ifnonnullN hx hb dX2_slip_17 ?_
  exact h_throw hx hb hlt (is := 96) (text := "there is no such run") (ik := 94) (ic := 98) hown fitE.1 hw1 hw2 (by decide) (at98 hZ0.2.2.2 (fun q hq => hts q ((by decide +kernel : ∀ w ∈ (vx_atS RX2 98 IOE nm2).filter goodWord, w ∈ wsX2_slip) q hq))) ot98 hZ0 hV0 hS (hl.1.trans hml.symm) dX2_slip_20 dX2_slip_23 dX2_slip_24 dX2_slip_26 dX2_slip_29 hout (Nat.le_of_ble_eq_true rfl) (Nat.le_of_ble_eq_true rfl) (Nat.le_of_ble_eq_true rfl) (Nat.le_of_ble_eq_true rfl) hlocks (Nat.le_of_ble_eq_true rfl) (Nat.le_of_ble_eq_true rfl)

set_option maxHeartbeats 1000000 in
set_option maxRecDepth 100000 in
theorem t_slipP (l : Launch) (hlt : l.stackTraces = false) (G : hG) (A : Nat → Prop) (hp : HP) (ad : Nat → Nat) (S : CS) (hC : cW ad S hp) (lv : Nat) (hl4 : lv < 4) (r : Nat) (hr0 : r < sN S 0 lv) (z : Int32) (hb0 : z < 0 ∨ nI (szR (gC S 0 lv r)) ≤ z) : hTh l yX2_slip wsX2_slip 7 104 1 6 G A hp [.ref (aX ad), .int (nI lv), .int (nI r), .int z] IOE := by
  refine vx_ofW (cc := cX2_slip) (maxL := 5) (ret := (some .int)) (by decide) rfl ?_
  intro p e s m args below meth c s₁ B hml hout hv
  obtain ⟨rfl, hV0, hK0, hA, hZ0⟩ := hv
  have hx := B.exec
  have hb := B.bytes
  have hr := B.returns
  have hts := atoms_spec (ws := wsX2_slip) B.pre
  have hown : s.vm.findClass RX2 = some m.cls := findClass_of_methodNamed B.named
  have hlocks := B.notSynchronized
  have hF : CallFix p m c cX2_slip 5 s [.ref (aX ad), .int (nI lv), .int (nI r), .int z].toArray wsX2_slip RX2 := ⟨hx, hb, hml, hown, hts⟩
  have hw0 := hts (.fieldLink RX2 19 "SlipLevels" "binder" "LSlipLevels$Binder;") (by decide +kernel)
  have hi2 : ∀ w ∈ u_ws RX2 TX2 5, w ∈ wsX2_slip := by
    intro w h
    unfold wsX2_slip
    simp only [List.mem_cons, List.mem_append, h, true_or, or_true]
  have hS : va_S A s.heap s.heap [] := va_S.rf
  have hl := lv_entry ([.ref (aX ad), .int (nI lv), .int (nI r), .int z]) (n := 5) (Nat.le_of_ble_eq_true rfl)
  rw [lg_entry_eq]
  generalize (lg_sl ([.ref (aX ad), .int (nI lv), .int (nI r), .int z]) ++ List.replicate (5 - (lg_sl ([.ref (aX ad), .int (nI lv), .int (nI r), .int z])).length) Slot.unset).toArray = ls at hl ⊢
  replace hl : lv_has ls 5 [(0, .ref (aX ad)), (1, .int (nI lv)), (2, .int (nI r)), (3, .int z)] := hl
  have hn := hC.ok.2.1 0 lv
  refine lv_iload_n hx hb dX2_slip_0 rfl (lv_at hl 1 rfl) ?_
  refine h_rdS (As := [.int (nI lv)]) (rest := []) hF (c_X2_needLevel l G _ lv (by omega)) 1 gX2_slip_X2_needLevel rfl (by decide +kernel) ⟨Nat.le_of_ble_eq_true rfl, Nat.le_of_ble_eq_true rfl⟩ hK0 hV0 rfl hl.1 rfl (Nat.le_of_ble_eq_true rfl) (Nat.le_of_ble_eq_true rfl) (Nat.le_of_ble_eq_true rfl) dX2_slip_1 ?_
  refine lv_aload_n hx hb dX2_slip_4 rfl (lv_at hl 0 rfl) ?_
  refine h_get (v := .ref (aB ad 0)) hx hb hts hi2 hown hK0 hV0 hC.xo rfl 1 (by decide) hw0 rfl dX2_slip_5 ?_
  refine lv_iload_n hx hb dX2_slip_8 rfl (lv_at hl 1 rfl) ?_
  refine lv_iload_n hx hb dX2_slip_9 rfl (lv_at hl 2 rfl) ?_
  refine h_rdV (As := [.int (nI lv), .int (nI r)]) (rest := []) hF (c_X0_runAt l G _ ad S hC 0 (by decide) lv r (by omega) (by omega)) 2 gX2_slip_X0_runAt rfl (by decide +kernel) ⟨Nat.le_of_ble_eq_true rfl, Nat.le_of_ble_eq_true rfl⟩ hK0 hV0 (hC.bo (by decide)) rfl rfl rfl hl.1 rfl (Nat.le_of_ble_eq_true rfl) (Nat.le_of_ble_eq_true rfl) (Nat.le_of_ble_eq_true rfl) dX2_slip_10 ?_
  refine lv_astore (lv' := [(4, .ref (aS ad (iR S 0 lv r))), (0, .ref (aX ad)), (1, .int (nI lv)), (2, .int (nI r)), (3, .int z)]) hx hb dX2_slip_13 hl (by decide) rfl (fun ls hl => ?_)
  refine lv_aload hx hb dX2_slip_15 (lv_at hl 0 rfl) ?_
  refine lv_ifnonnull (tgt := 30) hx hb dX2_slip_17 (by decide) ?_
  refine lv_aload hx hb dX2_slip_30 (lv_at hl 0 rfl) ?_
  refine lv_iload_n hx hb dX2_slip_32 rfl (lv_at hl 4 rfl) ?_
  exact h_thS (As := [.ref (aS ad (iR S 0 lv r)), .int z]) (rest := []) hF (t_slipAt l hlt G A _ (aS ad (iR S 0 lv r)) (aW ad (iR S 0 lv r)) (gC S 0 lv r) (hC.run (by decide) (by omega) (by omega)) (z) hb0) 2 gX2_slip_X2_slipAt rfl (by decide +kernel) ⟨Nat.le_of_ble_eq_true rfl, Nat.le_of_ble_eq_true rfl⟩ hK0 hV0 hA hZ0 hS rfl hl.1 rfl (Nat.le_of_ble_eq_true rfl) ⟨Nat.le_of_ble_eq_true rfl, Nat.le_of_ble_eq_true rfl⟩ dX2_slip_33 (fun q9 ce H1 locs1 hV1 hS1 hce hcv hcl => h_out hout hlocks hV1 hS1 hce hcv hcl (Nat.le_of_ble_eq_true rfl) (Nat.le_of_ble_eq_true rfl))

set_option maxHeartbeats 1000000 in
set_option maxRecDepth 100000 in
theorem t_desk (l : Launch) (hlt : l.stackTraces = false) (G : hG) (A : Nat → Prop) (hp : HP) (ad : Nat → Nat) (S : CS) (hC : cW ad S hp) (z : Int32) (hb0 : z < 0 ∨ nI (szR (sF S 0)) ≤ z) : hTh l yX2_desk wsX2_desk 7 104 1 6 G A hp [.ref (aX ad), .int z] IOE := by
  refine vx_ofW (cc := cX2_desk) (maxL := 2) (ret := (some .int)) (by decide) rfl ?_
  intro p e s m args below meth c s₁ B hml hout hv
  obtain ⟨rfl, hV0, hK0, hA, hZ0⟩ := hv
  have hx := B.exec
  have hb := B.bytes
  have hr := B.returns
  have hts := atoms_spec (ws := wsX2_desk) B.pre
  have hown : s.vm.findClass RX2 = some m.cls := findClass_of_methodNamed B.named
  have hlocks := B.notSynchronized
  have hF : CallFix p m c cX2_desk 2 s [.ref (aX ad), .int z].toArray wsX2_desk RX2 := ⟨hx, hb, hml, hown, hts⟩
  have hw0 := hts (.fieldLink RX2 10 "SlipLevels" "deskSlips" "LSlipLevels$Slips;") (by decide +kernel)
  have hi2 : ∀ w ∈ u_ws RX2 TX2 5, w ∈ wsX2_desk := by
    intro w h
    unfold wsX2_desk
    simp only [List.mem_cons, List.mem_append, h, true_or, or_true]
  have hS : va_S A s.heap s.heap [] := va_S.rf
  have hl := lv_entry ([.ref (aX ad), .int z]) (n := 2) (Nat.le_of_ble_eq_true rfl)
  rw [lg_entry_eq]
  generalize (lg_sl ([.ref (aX ad), .int z]) ++ List.replicate (2 - (lg_sl ([.ref (aX ad), .int z])).length) Slot.unset).toArray = ls at hl ⊢
  replace hl : lv_has ls 2 [(0, .ref (aX ad)), (1, .int z)] := hl
  refine lv_aload_n hx hb dX2_desk_0 rfl (lv_at hl 0 rfl) ?_
  refine h_get (v := .ref (aS ad 0)) hx hb hts hi2 hown hK0 hV0 hC.xo rfl 0 (by decide) hw0 rfl dX2_desk_1 ?_
  refine lv_iload_n hx hb dX2_desk_4 rfl (lv_at hl 1 rfl) ?_
  exact h_thS (As := [.ref (aS ad 0), .int z]) (rest := []) hF (t_slipAt l hlt G A _ (aS ad 0) (aW ad 0) (sF S 0) (hC.sl (by omega)) (z) hb0) 2 gX2_desk_X2_slipAt rfl (by decide +kernel) ⟨Nat.le_of_ble_eq_true rfl, Nat.le_of_ble_eq_true rfl⟩ hK0 hV0 hA hZ0 hS rfl hl.1 rfl (Nat.le_of_ble_eq_true rfl) ⟨Nat.le_of_ble_eq_true rfl, Nat.le_of_ble_eq_true rfl⟩ dX2_desk_5 (fun q9 ce H1 locs1 hV1 hS1 hce hcv hcl => h_out hout hlocks hV1 hS1 hce hcv hcl (Nat.le_of_ble_eq_true rfl) (Nat.le_of_ble_eq_true rfl))

set_option maxHeartbeats 1000000 in
set_option maxRecDepth 100000 in
theorem t_level (l : Launch) (hlt : l.stackTraces = false) (G : hG) (A : Nat → Prop) (hp : HP) (ad : Nat → Nat) (S : CS) (hC : cW ad S hp) (y : Int32) (x : Int32) (hb0 : x < 0 ∨ nI 4 ≤ x) : hTh l yX2_level wsX2_level 7 102 1 6 G A hp [.ref (aX ad), .int x, .int y] IOE := by
  refine vx_ofW (cc := cX2_level) (maxL := 3) (ret := (some .int)) (by decide) rfl ?_
  intro p e s m args below meth c s₁ B hml hout hv
  obtain ⟨rfl, hV0, hK0, hA, hZ0⟩ := hv
  have hx := B.exec
  have hb := B.bytes
  have hr := B.returns
  have hts := atoms_spec (ws := wsX2_level) B.pre
  have hown : s.vm.findClass RX2 = some m.cls := findClass_of_methodNamed B.named
  have hlocks := B.notSynchronized
  have hF : CallFix p m c cX2_level 3 s [.ref (aX ad), .int x, .int y].toArray wsX2_level RX2 := ⟨hx, hb, hml, hown, hts⟩
  have hS : va_S A s.heap s.heap [] := va_S.rf
  have hl := lv_entry ([.ref (aX ad), .int x, .int y]) (n := 3) (Nat.le_of_ble_eq_true rfl)
  rw [lg_entry_eq]
  generalize (lg_sl ([.ref (aX ad), .int x, .int y]) ++ List.replicate (3 - (lg_sl ([.ref (aX ad), .int x, .int y])).length) Slot.unset).toArray = ls at hl ⊢
  replace hl : lv_has ls 3 [(0, .ref (aX ad)), (1, .int x), (2, .int y)] := hl
  refine lv_iload_n hx hb dX2_level_0 rfl (lv_at hl 1 rfl) ?_
  exact h_thS (As := [.int x]) (rest := []) hF (t_needLevel l hlt G A _ (x) hb0) 1 gX2_level_X2_needLevel rfl (by decide +kernel) ⟨Nat.le_of_ble_eq_true rfl, Nat.le_of_ble_eq_true rfl⟩ hK0 hV0 hA hZ0 hS rfl hl.1 rfl (Nat.le_of_ble_eq_true rfl) ⟨Nat.le_of_ble_eq_true rfl, Nat.le_of_ble_eq_true rfl⟩ dX2_level_1 (fun q9 ce H1 locs1 hV1 hS1 hce hcv hcl => h_out hout hlocks hV1 hS1 hce hcv hcl (Nat.le_of_ble_eq_true rfl) (Nat.le_of_ble_eq_true rfl))

set_option maxHeartbeats 1000000 in
set_option maxRecDepth 100000 in
theorem t_levelW (l : Launch) (hlt : l.stackTraces = false) (G : hG) (A : Nat → Prop) (hp : HP) (ad : Nat → Nat) (S : CS) (hC : cW ad S hp) (lv : Nat) (hl4 : lv < 4) (z : Int32) (hb0 : z < 0 ∨ nI 3 ≤ z) : hTh l yX2_level wsX2_level 6 82 1 6 G A hp [.ref (aX ad), .int (nI lv), .int z] IOE := by
  refine vx_ofW (cc := cX2_level) (maxL := 3) (ret := (some .int)) (by decide) rfl ?_
  intro p e s m args below meth c s₁ B hml hout hv
  obtain ⟨rfl, hV0, hK0, hA, hZ0⟩ := hv
  have hx := B.exec
  have hb := B.bytes
  have hr := B.returns
  have hts := atoms_spec (ws := wsX2_level) B.pre
  have hown : s.vm.findClass RX2 = some m.cls := findClass_of_methodNamed B.named
  have hlocks := B.notSynchronized
  have hF : CallFix p m c cX2_level 3 s [.ref (aX ad), .int (nI lv), .int z].toArray wsX2_level RX2 := ⟨hx, hb, hml, hown, hts⟩
  have hw0 := hts (.classLink RX2 94 IOE) (by decide +kernel)
  have hw1 := hts (.initialized IOE) (by decide +kernel)
  have hS : va_S A s.heap s.heap [] := va_S.rf
  have hl := lv_entry ([.ref (aX ad), .int (nI lv), .int z]) (n := 3) (Nat.le_of_ble_eq_true rfl)
  rw [lg_entry_eq]
  generalize (lg_sl ([.ref (aX ad), .int (nI lv), .int z]) ++ List.replicate (3 - (lg_sl ([.ref (aX ad), .int (nI lv), .int z])).length) Slot.unset).toArray = ls at hl ⊢
  replace hl : lv_has ls 3 [(0, .ref (aX ad)), (1, .int (nI lv)), (2, .int z)] := hl
  refine lv_iload_n hx hb dX2_level_0 rfl (lv_at hl 1 rfl) ?_
  refine h_rdS (As := [.int (nI lv)]) (rest := []) hF (c_X2_needLevel l G _ lv (by omega)) 1 gX2_level_X2_needLevel rfl (by decide +kernel) ⟨Nat.le_of_ble_eq_true rfl, Nat.le_of_ble_eq_true rfl⟩ hK0 hV0 rfl hl.1 rfl (Nat.le_of_ble_eq_true rfl) (Nat.le_of_ble_eq_true rfl) (Nat.le_of_ble_eq_true rfl) dX2_level_1 ?_
  refine lv_iload_n hx hb dX2_level_4 rfl (lv_at hl 2 rfl) ?_
  refine lv_if_lt (tgt := 13) hx hb dX2_level_5 (by decide) (fun c_5 => ?_) (fun c_5 => ?_)
  · exact h_throw hx hb hlt (is := 109) (text := "what is not 0 to 2") (ik := 94) (ic := 98) hown fitE.1 hw0 hw1 (by decide) (at98 hZ0.2.2.2 (fun q hq => hts q ((by decide +kernel : ∀ w ∈ (vx_atS RX2 98 IOE nm2).filter goodWord, w ∈ wsX2_level) q hq))) ot98 hZ0 hV0 hS (hl.1.trans hml.symm) dX2_level_13 dX2_level_16 dX2_level_17 dX2_level_19 dX2_level_22 hout (Nat.le_of_ble_eq_true rfl) (Nat.le_of_ble_eq_true rfl) (Nat.le_of_ble_eq_true rfl) (Nat.le_of_ble_eq_true rfl) hlocks (Nat.le_of_ble_eq_true rfl) (Nat.le_of_ble_eq_true rfl)
  · refine lv_iload_n hx hb dX2_level_8 rfl (lv_at hl 2 rfl) ?_
    refine lv_iconst (v := nI 3) hx hb dX2_level_9 (by decide) ?_
    refine lv_icmp_lt (tgt := 23) hx hb dX2_level_10 (by decide) (fun c_10 => absurd c_10 (by rcases hb0 with h | h; exact absurd h c_5; exact Int32.not_lt.mpr h)) (fun c_10 => ?_)
    exact h_throw hx hb hlt (is := 109) (text := "what is not 0 to 2") (ik := 94) (ic := 98) hown fitE.1 hw0 hw1 (by decide) (at98 hZ0.2.2.2 (fun q hq => hts q ((by decide +kernel : ∀ w ∈ (vx_atS RX2 98 IOE nm2).filter goodWord, w ∈ wsX2_level) q hq))) ot98 hZ0 hV0 hS (hl.1.trans hml.symm) dX2_level_13 dX2_level_16 dX2_level_17 dX2_level_19 dX2_level_22 hout (Nat.le_of_ble_eq_true rfl) (Nat.le_of_ble_eq_true rfl) (Nat.le_of_ble_eq_true rfl) (Nat.le_of_ble_eq_true rfl) hlocks (Nat.le_of_ble_eq_true rfl) (Nat.le_of_ble_eq_true rfl)

set_option maxHeartbeats 1000000 in
set_option maxRecDepth 100000 in
theorem t_count (l : Launch) (hlt : l.stackTraces = false) (G : hG) (A : Nat → Prop) (hp : HP) (ad : Nat → Nat) (S : CS) (hC : cW ad S hp) (z : Int32) (hb0 : z < 0 ∨ nI 7 ≤ z) : hTh l yX2_count wsX2_count 6 82 1 6 G A hp [.ref (aX ad), .int z] IOE := by
  refine vx_ofW (cc := cX2_count) (maxL := 2) (ret := (some .int)) (by decide) rfl ?_
  intro p e s m args below meth c s₁ B hml hout hv
  obtain ⟨rfl, hV0, hK0, hA, hZ0⟩ := hv
  have hx := B.exec
  have hb := B.bytes
  have hr := B.returns
  have hts := atoms_spec (ws := wsX2_count) B.pre
  have hown : s.vm.findClass RX2 = some m.cls := findClass_of_methodNamed B.named
  have hlocks := B.notSynchronized
  have hF : CallFix p m c cX2_count 2 s [.ref (aX ad), .int z].toArray wsX2_count RX2 := ⟨hx, hb, hml, hown, hts⟩
  have hw0 := hts (.classLink RX2 94 IOE) (by decide +kernel)
  have hw1 := hts (.initialized IOE) (by decide +kernel)
  have hS : va_S A s.heap s.heap [] := va_S.rf
  have hl := lv_entry ([.ref (aX ad), .int z]) (n := 2) (Nat.le_of_ble_eq_true rfl)
  rw [lg_entry_eq]
  generalize (lg_sl ([.ref (aX ad), .int z]) ++ List.replicate (2 - (lg_sl ([.ref (aX ad), .int z])).length) Slot.unset).toArray = ls at hl ⊢
  replace hl : lv_has ls 2 [(0, .ref (aX ad)), (1, .int z)] := hl
  refine lv_iload_n hx hb dX2_count_0 rfl (lv_at hl 1 rfl) ?_
  refine lv_if_lt (tgt := 10) hx hb dX2_count_1 (by decide) (fun c_1 => ?_) (fun c_1 => ?_)
  · exact h_throw hx hb hlt (is := 117) (text := "what is not 0 to 6") (ik := 94) (ic := 98) hown fitE.1 hw0 hw1 (by decide) (at98 hZ0.2.2.2 (fun q hq => hts q ((by decide +kernel : ∀ w ∈ (vx_atS RX2 98 IOE nm2).filter goodWord, w ∈ wsX2_count) q hq))) ot98 hZ0 hV0 hS (hl.1.trans hml.symm) dX2_count_10 dX2_count_13 dX2_count_14 dX2_count_16 dX2_count_19 hout (Nat.le_of_ble_eq_true rfl) (Nat.le_of_ble_eq_true rfl) (Nat.le_of_ble_eq_true rfl) (Nat.le_of_ble_eq_true rfl) hlocks (Nat.le_of_ble_eq_true rfl) (Nat.le_of_ble_eq_true rfl)
  · refine lv_iload_n hx hb dX2_count_4 rfl (lv_at hl 1 rfl) ?_
    refine lv_bipush (v := nI 7) hx hb dX2_count_5 (by decide) ?_
    refine lv_icmp_lt (tgt := 20) hx hb dX2_count_7 (by decide) (fun c_7 => absurd c_7 (by rcases hb0 with h | h; exact absurd h c_1; exact Int32.not_lt.mpr h)) (fun c_7 => ?_)
    exact h_throw hx hb hlt (is := 117) (text := "what is not 0 to 6") (ik := 94) (ic := 98) hown fitE.1 hw0 hw1 (by decide) (at98 hZ0.2.2.2 (fun q hq => hts q ((by decide +kernel : ∀ w ∈ (vx_atS RX2 98 IOE nm2).filter goodWord, w ∈ wsX2_count) q hq))) ot98 hZ0 hV0 hS (hl.1.trans hml.symm) dX2_count_10 dX2_count_13 dX2_count_14 dX2_count_16 dX2_count_19 hout (Nat.le_of_ble_eq_true rfl) (Nat.le_of_ble_eq_true rfl) (Nat.le_of_ble_eq_true rfl) (Nat.le_of_ble_eq_true rfl) hlocks (Nat.le_of_ble_eq_true rfl) (Nat.le_of_ble_eq_true rfl)

set_option maxHeartbeats 1000000 in
set_option maxRecDepth 100000 in
theorem t_spares (l : Launch) (hlt : l.stackTraces = false) (G : hG) (A : Nat → Prop) (hp : HP) (ad : Nat → Nat) (S : CS) (hC : cW ad S hp) (x : Int32) (hb0 : x < 0 ∨ nI 4 ≤ x) : hTh l yX2_spares wsX2_spares 7 102 1 6 G A hp [.ref (aX ad), .int x] IOE := by
  refine vx_ofW (cc := cX2_spares) (maxL := 2) (ret := (some .int)) (by decide) rfl ?_
  intro p e s m args below meth c s₁ B hml hout hv
  obtain ⟨rfl, hV0, hK0, hA, hZ0⟩ := hv
  have hx := B.exec
  have hb := B.bytes
  have hr := B.returns
  have hts := atoms_spec (ws := wsX2_spares) B.pre
  have hown : s.vm.findClass RX2 = some m.cls := findClass_of_methodNamed B.named
  have hlocks := B.notSynchronized
  have hF : CallFix p m c cX2_spares 2 s [.ref (aX ad), .int x].toArray wsX2_spares RX2 := ⟨hx, hb, hml, hown, hts⟩
  have hS : va_S A s.heap s.heap [] := va_S.rf
  have hl := lv_entry ([.ref (aX ad), .int x]) (n := 2) (Nat.le_of_ble_eq_true rfl)
  rw [lg_entry_eq]
  generalize (lg_sl ([.ref (aX ad), .int x]) ++ List.replicate (2 - (lg_sl ([.ref (aX ad), .int x])).length) Slot.unset).toArray = ls at hl ⊢
  replace hl : lv_has ls 2 [(0, .ref (aX ad)), (1, .int x)] := hl
  refine lv_iload_n hx hb dX2_spares_0 rfl (lv_at hl 1 rfl) ?_
  exact h_thS (As := [.int x]) (rest := []) hF (t_needLevel l hlt G A _ (x) hb0) 1 gX2_spares_X2_needLevel rfl (by decide +kernel) ⟨Nat.le_of_ble_eq_true rfl, Nat.le_of_ble_eq_true rfl⟩ hK0 hV0 hA hZ0 hS rfl hl.1 rfl (Nat.le_of_ble_eq_true rfl) ⟨Nat.le_of_ble_eq_true rfl, Nat.le_of_ble_eq_true rfl⟩ dX2_spares_1 (fun q9 ce H1 locs1 hV1 hS1 hce hcv hcl => h_out hout hlocks hV1 hS1 hce hcv hcl (Nat.le_of_ble_eq_true rfl) (Nat.le_of_ble_eq_true rfl))
