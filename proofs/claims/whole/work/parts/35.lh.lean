set_option maxRecDepth 20000 in
theorem ggL_write_X2_write : GoodIn wsL_write wsX2_write := goodIn_ca (goodIn_ca (goodIn_r _ [7, 8, 9, 10, 11, 12, 13, 6, 14, 15, 16, 17, 18, 19, 20, 21, 22, 23, 24, 25, 26, 27, 28, 29, 30, 31, 32, 33, 34, 35, 36, 37, 38, 39, 40, 41, 42, 43, 44, 45, 46, 47, 48, 49, 50, 51, 52, 53, 54, 55, 56, 57, 58, 59, 60, 61, 62, 63, 64, 65, 66, 67, 68, 69, 70, 71, 72, 73, 74, 75, 76, 77, 78, 79, 80, 81, 82, 83, 84, 85, 86, 87, 88, 89, 90, 91, 92, 93, 94, 95, 96, 97, 98, 99, 100, 101, 102, 103, 104, 105, 106, 107, 108, 109, 110, 111, 112, 113, 114, 115, 116, 117, 118, 119, 120, 121, 122, 123, 124, 125, 126, 127, 128, 129, 130] (by decide +kernel) (by decide +kernel)) (goodIn_sub (fun _ h => List.mem_cons_of_mem _ (List.mem_append_left _ (List.mem_append_right _ h))) (by decide +kernel))) (goodIn_sub (fun _ h => List.mem_cons_of_mem _ (List.mem_append_right _ h)) (by decide +kernel))
set_option maxRecDepth 20000 in
theorem gL_write_X2_write : GoodIn wsL_write (wsV RL 7 RX2 yX2_write wsX2_write) := goodIn_app (goodIn_of _ (by decide +kernel)) ggL_write_X2_write
set_option maxHeartbeats 1000000 in
set_option maxRecDepth 100000 in
theorem hL_write (l : Launch) (G : hG) (A : Nat → Prop) (hp : HP) (hA0 : hIn A hp) (a q : Nat) (x y : Int32) (fs : List Value) (hxo : hp a = some (eO 2 fs)) (fr lo : Nat) (hfr : fr ≤ 9) (hlo : lo ≤ 290) (R1 : HP → Prop) (b : Bool) (hRq : ∀ hp1, R1 hp1 → ∃ f, hp1 q = some (eJ 1 f)) (hc : hWr l yX2_write wsX2_write fr lo 0 0 G A hp [.ref a, .int x, .int y] (fun ro hp1 => ro = some (.int (bI b)) ∧ R1 hp1)) : hWt l yL_write wsL_write 10 330 1 6 G A hp [.ref a, .int x, .int y, .ref q] (fun ro hp' => ro = some (.int (nI 0)) ∧ ∃ (hp1 : HP) (f1 : Nat → Int64), R1 hp1 ∧ hp' = hput hp1 q (eJ 1 f1) ∧ f1 0 = (if b then 1 else 0)) := by
  refine va_MetW (cc := cL_write) (maxL := 5) (ret := some .int) (hh := [(0, 17, 20, 13), (0, 17, 24, 15)]) (by decide) rfl ?_
  intro p e s m args below meth c s₁ B hml hv
  obtain ⟨rfl, hV0, hK0, hA, hZ0⟩ := hv
  have hx := B.exec
  have hb := B.bytes
  have hr := B.returns
  have hts := atoms_spec (ws := wsL_write) B.pre
  have hown : s.vm.findClass RL = some m.cls := findClass_of_methodNamed B.named
  have hlocks := B.notSynchronized
  have hF : CallFix p m c cL_write 5 s [.ref a, .int x, .int y, .ref q].toArray wsL_write RL := ⟨hx, hb, hml, hown, hts⟩
  have hS : va_S A s.heap s.heap [] := va_S.rf
  have hl := lv_entry ([.ref a, .int x, .int y, .ref q]) (n := 5) (Nat.le_of_ble_eq_true rfl)
  rw [lg_entry_eq]
  generalize (lg_sl ([.ref a, .int x, .int y, .ref q]) ++ List.replicate (5 - (lg_sl ([.ref a, .int x, .int y, .ref q])).length) Slot.unset).toArray = ls at hl ⊢
  replace hl : lv_has ls 5 [(0, .ref a), (1, .int x), (2, .int y), (3, .ref q)] := hl
  refine lv_aload_n hx hb dL_write_0 rfl (lv_at hl 3 rfl) ?_
  refine lv_iconst (v := nI 0) hx hb dL_write_1 (by decide) ?_
  refine lv_aload_n hx hb dL_write_2 rfl (lv_at hl 0 rfl) ?_
  refine lv_iload_n hx hb dL_write_3 rfl (lv_at hl 1 rfl) ?_
  refine lv_iload_n hx hb dL_write_4 rfl (lv_at hl 2 rfl) ?_
  refine h_wrV (As := [.int x, .int y]) (rest := [.int (nI 0), .ref q]) hF hc 2 gL_write_X2_write rfl (by decide +kernel) ⟨by show fr + 1 ≤ 10; omega, by show 8 + (3 + 11) + lo ≤ 330; omega⟩ hK0 hV0 hA hS hxo rfl rfl rfl hl.1 rfl (Nat.le_of_ble_eq_true rfl) ⟨(Nat.le_of_ble_eq_true rfl), (Nat.le_of_ble_eq_true rfl)⟩ dL_write_5 (fun ro hp1 H locs hP1 hV0 hA0 hS => ?_)
  obtain ⟨rfl, hR1⟩ := hP1
  obtain ⟨f, hq⟩ := hRq _ hR1
  refine h_if_eqB (tgt := 15) hx hb dL_write_8 (by decide) (fun c_8 => ?_) (fun c_8 => ?_)
  · refine lv_lconst (v := 0) hx hb dL_write_15 (by decide) ?_
    refine h_last (i := 0) (x := 0) hx hb hK0 hV0 hA0 hS hq (by omega) (by omega) dL_write_16 (fun H locs hV0 hA0 hS => ?_)
    refine lv_goto (tgt := 28) hx hb dL_write_17 (by decide) ?_
    refine lv_iconst (v := nI 0) hx hb dL_write_28 (by decide) ?_
    refine W.widen (k := 1) (n := 6) (by omega) (by omega) ?_
    exact W.iret hx hb hr (h_qW ⟨rfl, hp1, _, hR1, rfl, by rw [c_8]; rfl⟩ hV0 hA0 hS) hS.2.2 dL_write_29 hlocks
  · refine lv_lconst (v := 1) hx hb dL_write_11 (by decide) ?_
    refine lv_goto (tgt := 16) hx hb dL_write_12 (by decide) ?_
    refine h_last (i := 0) (x := 1) hx hb hK0 hV0 hA0 hS hq (by omega) (by omega) dL_write_16 (fun H locs hV0 hA0 hS => ?_)
    refine lv_goto (tgt := 28) hx hb dL_write_17 (by decide) ?_
    refine lv_iconst (v := nI 0) hx hb dL_write_28 (by decide) ?_
    refine W.widen (k := 1) (n := 6) (by omega) (by omega) ?_
    exact W.iret hx hb hr (h_qW ⟨rfl, hp1, _, hR1, rfl, by rw [c_8]; rfl⟩ hV0 hA0 hS) hS.2.2 dL_write_29 hlocks

set_option maxHeartbeats 1000000 in
set_option maxRecDepth 100000 in
theorem hL_write_IOE (l : Launch) (G : hG) (A : Nat → Prop) (hp : HP) (hA0 : hIn A hp) (a q : Nat) (x y : Int32) (fs : List Value) (hxo : hp a = some (eO 2 fs)) (fr lo : Nat) (hfr : fr ≤ 9) (hlo : lo ≤ 290) (hc : hTh l yX2_write wsX2_write fr lo 1 6 G A hp [.ref a, .int x, .int y] IOE) : hWt l yL_write wsL_write 10 330 1 6 G A hp [.ref a, .int x, .int y, .ref q] (fun ro hp' => ro = some (.int (nI 1)) ∧ hp' = hp) := by
  refine va_MetW (cc := cL_write) (maxL := 5) (ret := some .int) (hh := [(0, 17, 20, 13), (0, 17, 24, 15)]) (by decide) rfl ?_
  intro p e s m args below meth c s₁ B hml hv
  obtain ⟨rfl, hV0, hK0, hA, hZ0⟩ := hv
  have hx := B.exec
  have hb := B.bytes
  have hr := B.returns
  have hts := atoms_spec (ws := wsL_write) B.pre
  have hown : s.vm.findClass RL = some m.cls := findClass_of_methodNamed B.named
  have hlocks := B.notSynchronized
  have hF : CallFix p m c cL_write 5 s [.ref a, .int x, .int y, .ref q].toArray wsL_write RL := ⟨hx, hb, hml, hown, hts⟩
  have htab : c.exceptionTable.toList = tableOf [(0, 17, 20, 13), (0, 17, 24, 15)] := vx_table (x := yL_write) B (hts _ List.mem_cons_self)
  have hw0 := hts (.classLink RL 13 IOE) (by decide +kernel)
  have hS : va_S A s.heap s.heap [] := va_S.rf
  have hl := lv_entry ([.ref a, .int x, .int y, .ref q]) (n := 5) (Nat.le_of_ble_eq_true rfl)
  rw [lg_entry_eq]
  generalize (lg_sl ([.ref a, .int x, .int y, .ref q]) ++ List.replicate (5 - (lg_sl ([.ref a, .int x, .int y, .ref q])).length) Slot.unset).toArray = ls at hl ⊢
  replace hl : lv_has ls 5 [(0, .ref a), (1, .int x), (2, .int y), (3, .ref q)] := hl
  refine lv_aload_n hx hb dL_write_0 rfl (lv_at hl 3 rfl) ?_
  refine lv_iconst (v := nI 0) hx hb dL_write_1 (by decide) ?_
  refine lv_aload_n hx hb dL_write_2 rfl (lv_at hl 0 rfl) ?_
  refine lv_iload_n hx hb dL_write_3 rfl (lv_at hl 1 rfl) ?_
  refine lv_iload_n hx hb dL_write_4 rfl (lv_at hl 2 rfl) ?_
  refine h_thVc (As := [.int x, .int y]) (rest := [.int (nI 0), .ref q]) hF hc 2 gL_write_X2_write rfl (by decide +kernel) ⟨by show fr + 1 ≤ 10; omega, by show 8 + (3 + 11) + lo ≤ 330; omega⟩ hK0 hV0 hA hZ0 hS hxo rfl rfl rfl hl.1 rfl (Nat.le_of_ble_eq_true rfl) ⟨(Nat.le_of_ble_eq_true rfl), (Nat.le_of_ble_eq_true rfl)⟩ dL_write_5 (name := IOE) [] ⟨0, 17, 20, 13⟩ [⟨0, 17, 24, 15⟩] (htab.trans rfl) (fun z hz => absurd hz List.not_mem_nil) (by decide) (by decide) hw0 (va_Nw.use rfl hZ0.2.2.2.1) (fun q9 H locs hV0 hS => ?_)
  refine lv_astore (lv' := [(4, .ref q9), (0, .ref a), (1, .int x), (2, .int y), (3, .ref q)]) hx hb dL_write_20 hl (by decide) rfl (fun ls hl => ?_)
  refine lv_iconst (v := nI 1) hx hb dL_write_22 (by decide) ?_
  exact W.iret hx hb hr (h_qW ⟨rfl, rfl⟩ hV0 hA0 hS) hS.2.2 dL_write_23 hlocks

set_option maxHeartbeats 1000000 in
set_option maxRecDepth 100000 in
theorem hL_write_IAE (l : Launch) (G : hG) (A : Nat → Prop) (hp : HP) (hA0 : hIn A hp) (a q : Nat) (x y : Int32) (fs : List Value) (hxo : hp a = some (eO 2 fs)) (fr lo : Nat) (hfr : fr ≤ 9) (hlo : lo ≤ 290) (hc : hTh l yX2_write wsX2_write fr lo 1 6 G A hp [.ref a, .int x, .int y] IAE) : hWt l yL_write wsL_write 10 330 1 6 G A hp [.ref a, .int x, .int y, .ref q] (fun ro hp' => ro = some (.int (nI 2)) ∧ hp' = hp) := by
  refine va_MetW (cc := cL_write) (maxL := 5) (ret := some .int) (hh := [(0, 17, 20, 13), (0, 17, 24, 15)]) (by decide) rfl ?_
  intro p e s m args below meth c s₁ B hml hv
  obtain ⟨rfl, hV0, hK0, hA, hZ0⟩ := hv
  have hx := B.exec
  have hb := B.bytes
  have hr := B.returns
  have hts := atoms_spec (ws := wsL_write) B.pre
  have hown : s.vm.findClass RL = some m.cls := findClass_of_methodNamed B.named
  have hlocks := B.notSynchronized
  have hF : CallFix p m c cL_write 5 s [.ref a, .int x, .int y, .ref q].toArray wsL_write RL := ⟨hx, hb, hml, hown, hts⟩
  have htab : c.exceptionTable.toList = tableOf [(0, 17, 20, 13), (0, 17, 24, 15)] := vx_table (x := yL_write) B (hts _ List.mem_cons_self)
  have hw0 := hts (.classLink RL 15 IAE) (by decide +kernel)
  have hw1 := hts (.classLink RL 13 IOE) (by decide +kernel)
  have hS : va_S A s.heap s.heap [] := va_S.rf
  have hl := lv_entry ([.ref a, .int x, .int y, .ref q]) (n := 5) (Nat.le_of_ble_eq_true rfl)
  rw [lg_entry_eq]
  generalize (lg_sl ([.ref a, .int x, .int y, .ref q]) ++ List.replicate (5 - (lg_sl ([.ref a, .int x, .int y, .ref q])).length) Slot.unset).toArray = ls at hl ⊢
  replace hl : lv_has ls 5 [(0, .ref a), (1, .int x), (2, .int y), (3, .ref q)] := hl
  refine lv_aload_n hx hb dL_write_0 rfl (lv_at hl 3 rfl) ?_
  refine lv_iconst (v := nI 0) hx hb dL_write_1 (by decide) ?_
  refine lv_aload_n hx hb dL_write_2 rfl (lv_at hl 0 rfl) ?_
  refine lv_iload_n hx hb dL_write_3 rfl (lv_at hl 1 rfl) ?_
  refine lv_iload_n hx hb dL_write_4 rfl (lv_at hl 2 rfl) ?_
  refine h_thVc (As := [.int x, .int y]) (rest := [.int (nI 0), .ref q]) hF hc 2 gL_write_X2_write rfl (by decide +kernel) ⟨by show fr + 1 ≤ 10; omega, by show 8 + (3 + 11) + lo ≤ 330; omega⟩ hK0 hV0 hA hZ0 hS hxo rfl rfl rfl hl.1 rfl (Nat.le_of_ble_eq_true rfl) ⟨(Nat.le_of_ble_eq_true rfl), (Nat.le_of_ble_eq_true rfl)⟩ dL_write_5 (name := IAE) [⟨0, 17, 20, 13⟩] ⟨0, 17, 24, 15⟩ [] (htab.trans rfl) (fun z hz => by cases List.mem_singleton.mp hz; exact Or.inr ⟨by decide, IOE, hw1, hZ0.2.2.2.2.2.2.2.2.2.1⟩) (by decide) (by decide) hw0 (va_Nw.use rfl hZ0.2.2.2.2.1) (fun q9 H locs hV0 hS => ?_)
  refine lv_astore (lv' := [(4, .ref q9), (0, .ref a), (1, .int x), (2, .int y), (3, .ref q)]) hx hb dL_write_24 hl (by decide) rfl (fun ls hl => ?_)
  refine lv_iconst (v := nI 2) hx hb dL_write_26 (by decide) ?_
  exact W.iret hx hb hr (h_qW ⟨rfl, rfl⟩ hV0 hA0 hS) hS.2.2 dL_write_27 hlocks

set_option maxHeartbeats 1000000 in
set_option maxRecDepth 100000 in
theorem hL_strike (l : Launch) (G : hG) (A : Nat → Prop) (hp : HP) (hA0 : hIn A hp) (a q : Nat) (x : Int32) (fs : List Value) (hxo : hp a = some (eO 2 fs)) (fr lo : Nat) (hfr : fr ≤ 9) (hlo : lo ≤ 290) (R1 : HP → Prop) (b : Bool) (hRq : ∀ hp1, R1 hp1 → ∃ f, hp1 q = some (eJ 1 f)) (hc : hWr l yX2_strike wsX2_strike fr lo 0 0 G A hp [.ref a, .int x] (fun ro hp1 => ro = some (.int (bI b)) ∧ R1 hp1)) : hWt l yL_strike wsL_strike 10 330 1 6 G A hp [.ref a, .int x, .ref q] (fun ro hp' => ro = some (.int (nI 0)) ∧ ∃ (hp1 : HP) (f1 : Nat → Int64), R1 hp1 ∧ hp' = hput hp1 q (eJ 1 f1) ∧ f1 0 = (if b then 1 else 0)) := by
  refine va_MetW (cc := cL_strike) (maxL := 4) (ret := some .int) (hh := [(0, 16, 19, 13)]) (by decide) rfl ?_
  intro p e s m args below meth c s₁ B hml hv
  obtain ⟨rfl, hV0, hK0, hA, hZ0⟩ := hv
  have hx := B.exec
  have hb := B.bytes
  have hr := B.returns
  have hts := atoms_spec (ws := wsL_strike) B.pre
  have hown : s.vm.findClass RL = some m.cls := findClass_of_methodNamed B.named
  have hlocks := B.notSynchronized
  have hF : CallFix p m c cL_strike 4 s [.ref a, .int x, .ref q].toArray wsL_strike RL := ⟨hx, hb, hml, hown, hts⟩
  have hS : va_S A s.heap s.heap [] := va_S.rf
  have hl := lv_entry ([.ref a, .int x, .ref q]) (n := 4) (Nat.le_of_ble_eq_true rfl)
  rw [lg_entry_eq]
  generalize (lg_sl ([.ref a, .int x, .ref q]) ++ List.replicate (4 - (lg_sl ([.ref a, .int x, .ref q])).length) Slot.unset).toArray = ls at hl ⊢
  replace hl : lv_has ls 4 [(0, .ref a), (1, .int x), (2, .ref q)] := hl
  refine lv_aload_n hx hb dL_strike_0 rfl (lv_at hl 2 rfl) ?_
  refine lv_iconst (v := nI 0) hx hb dL_strike_1 (by decide) ?_
  refine lv_aload_n hx hb dL_strike_2 rfl (lv_at hl 0 rfl) ?_
  refine lv_iload_n hx hb dL_strike_3 rfl (lv_at hl 1 rfl) ?_
  refine h_wrV (As := [.int x]) (rest := [.int (nI 0), .ref q]) hF hc 1 gL_strike_X2_strike rfl (by decide +kernel) ⟨by show fr + 1 ≤ 10; omega, by show 8 + (2 + 11) + lo ≤ 330; omega⟩ hK0 hV0 hA hS hxo rfl rfl rfl hl.1 rfl (Nat.le_of_ble_eq_true rfl) ⟨(Nat.le_of_ble_eq_true rfl), (Nat.le_of_ble_eq_true rfl)⟩ dL_strike_4 (fun ro hp1 H locs hP1 hV0 hA0 hS => ?_)
  obtain ⟨rfl, hR1⟩ := hP1
  obtain ⟨f, hq⟩ := hRq _ hR1
  refine h_if_eqB (tgt := 14) hx hb dL_strike_7 (by decide) (fun c_7 => ?_) (fun c_7 => ?_)
  · refine lv_lconst (v := 0) hx hb dL_strike_14 (by decide) ?_
    refine h_last (i := 0) (x := 0) hx hb hK0 hV0 hA0 hS hq (by omega) (by omega) dL_strike_15 (fun H locs hV0 hA0 hS => ?_)
    refine lv_goto (tgt := 22) hx hb dL_strike_16 (by decide) ?_
    refine lv_iconst (v := nI 0) hx hb dL_strike_22 (by decide) ?_
    refine W.widen (k := 1) (n := 6) (by omega) (by omega) ?_
    exact W.iret hx hb hr (h_qW ⟨rfl, hp1, _, hR1, rfl, by rw [c_7]; rfl⟩ hV0 hA0 hS) hS.2.2 dL_strike_23 hlocks
  · refine lv_lconst (v := 1) hx hb dL_strike_10 (by decide) ?_
    refine lv_goto (tgt := 15) hx hb dL_strike_11 (by decide) ?_
    refine h_last (i := 0) (x := 1) hx hb hK0 hV0 hA0 hS hq (by omega) (by omega) dL_strike_15 (fun H locs hV0 hA0 hS => ?_)
    refine lv_goto (tgt := 22) hx hb dL_strike_16 (by decide) ?_
    refine lv_iconst (v := nI 0) hx hb dL_strike_22 (by decide) ?_
    refine W.widen (k := 1) (n := 6) (by omega) (by omega) ?_
    exact W.iret hx hb hr (h_qW ⟨rfl, hp1, _, hR1, rfl, by rw [c_7]; rfl⟩ hV0 hA0 hS) hS.2.2 dL_strike_23 hlocks

set_option maxHeartbeats 1000000 in
set_option maxRecDepth 100000 in
theorem hL_strike_IOE (l : Launch) (G : hG) (A : Nat → Prop) (hp : HP) (hA0 : hIn A hp) (a q : Nat) (x : Int32) (fs : List Value) (hxo : hp a = some (eO 2 fs)) (fr lo : Nat) (hfr : fr ≤ 9) (hlo : lo ≤ 290) (hc : hTh l yX2_strike wsX2_strike fr lo 1 6 G A hp [.ref a, .int x] IOE) : hWt l yL_strike wsL_strike 10 330 1 6 G A hp [.ref a, .int x, .ref q] (fun ro hp' => ro = some (.int (nI 1)) ∧ hp' = hp) := by
  refine va_MetW (cc := cL_strike) (maxL := 4) (ret := some .int) (hh := [(0, 16, 19, 13)]) (by decide) rfl ?_
  intro p e s m args below meth c s₁ B hml hv
  obtain ⟨rfl, hV0, hK0, hA, hZ0⟩ := hv
  have hx := B.exec
  have hb := B.bytes
  have hr := B.returns
  have hts := atoms_spec (ws := wsL_strike) B.pre
  have hown : s.vm.findClass RL = some m.cls := findClass_of_methodNamed B.named
  have hlocks := B.notSynchronized
  have hF : CallFix p m c cL_strike 4 s [.ref a, .int x, .ref q].toArray wsL_strike RL := ⟨hx, hb, hml, hown, hts⟩
  have htab : c.exceptionTable.toList = tableOf [(0, 16, 19, 13)] := vx_table (x := yL_strike) B (hts _ List.mem_cons_self)
  have hw0 := hts (.classLink RL 13 IOE) (by decide +kernel)
  have hS : va_S A s.heap s.heap [] := va_S.rf
  have hl := lv_entry ([.ref a, .int x, .ref q]) (n := 4) (Nat.le_of_ble_eq_true rfl)
  rw [lg_entry_eq]
  generalize (lg_sl ([.ref a, .int x, .ref q]) ++ List.replicate (4 - (lg_sl ([.ref a, .int x, .ref q])).length) Slot.unset).toArray = ls at hl ⊢
  replace hl : lv_has ls 4 [(0, .ref a), (1, .int x), (2, .ref q)] := hl
  refine lv_aload_n hx hb dL_strike_0 rfl (lv_at hl 2 rfl) ?_
  refine lv_iconst (v := nI 0) hx hb dL_strike_1 (by decide) ?_
  refine lv_aload_n hx hb dL_strike_2 rfl (lv_at hl 0 rfl) ?_
  refine lv_iload_n hx hb dL_strike_3 rfl (lv_at hl 1 rfl) ?_
  refine h_thVc (As := [.int x]) (rest := [.int (nI 0), .ref q]) hF hc 1 gL_strike_X2_strike rfl (by decide +kernel) ⟨by show fr + 1 ≤ 10; omega, by show 8 + (2 + 11) + lo ≤ 330; omega⟩ hK0 hV0 hA hZ0 hS hxo rfl rfl rfl hl.1 rfl (Nat.le_of_ble_eq_true rfl) ⟨(Nat.le_of_ble_eq_true rfl), (Nat.le_of_ble_eq_true rfl)⟩ dL_strike_4 (name := IOE) [] ⟨0, 16, 19, 13⟩ [] (htab.trans rfl) (fun z hz => absurd hz List.not_mem_nil) (by decide) (by decide) hw0 (va_Nw.use rfl hZ0.2.2.2.1) (fun q9 H locs hV0 hS => ?_)
  refine lv_astore_n (lv' := [(3, .ref q9), (0, .ref a), (1, .int x), (2, .ref q)]) hx hb dL_strike_19 rfl hl (by decide) rfl (fun ls hl => ?_)
  refine lv_iconst (v := nI 1) hx hb dL_strike_20 (by decide) ?_
  exact W.iret hx hb hr (h_qW ⟨rfl, rfl⟩ hV0 hA0 hS) hS.2.2 dL_strike_21 hlocks

set_option maxHeartbeats 1000000 in
set_option maxRecDepth 100000 in
theorem hL_merge (l : Launch) (G : hG) (A : Nat → Prop) (hp : HP) (hA0 : hIn A hp) (a q : Nat) (x : Int32) (fs : List Value) (hxo : hp a = some (eO 2 fs)) (fr lo : Nat) (hfr : fr ≤ 9) (hlo : lo ≤ 290) (R1 : HP → Prop) (r : Int32) (hRq : ∀ hp1, R1 hp1 → ∃ f, hp1 q = some (eJ 1 f)) (hc : hWr l yX2_merge wsX2_merge fr lo 0 0 G A hp [.ref a, .int x] (fun ro hp1 => ro = some (.int (r)) ∧ R1 hp1)) : hWt l yL_merge wsL_merge 10 330 1 6 G A hp [.ref a, .int x, .ref q] (fun ro hp' => ro = some (.int (nI 0)) ∧ ∃ (hp1 : HP) (f1 : Nat → Int64), R1 hp1 ∧ hp' = hput hp1 q (eJ 1 f1) ∧ f1 0 = r.toInt64) := by
  refine va_MetW (cc := cL_merge) (maxL := 4) (ret := some .int) (hh := [(0, 9, 12, 13), (0, 9, 15, 25)]) (by decide) rfl ?_
  intro p e s m args below meth c s₁ B hml hv
  obtain ⟨rfl, hV0, hK0, hA, hZ0⟩ := hv
  have hx := B.exec
  have hb := B.bytes
  have hr := B.returns
  have hts := atoms_spec (ws := wsL_merge) B.pre
  have hown : s.vm.findClass RL = some m.cls := findClass_of_methodNamed B.named
  have hlocks := B.notSynchronized
  have hF : CallFix p m c cL_merge 4 s [.ref a, .int x, .ref q].toArray wsL_merge RL := ⟨hx, hb, hml, hown, hts⟩
  have hS : va_S A s.heap s.heap [] := va_S.rf
  have hl := lv_entry ([.ref a, .int x, .ref q]) (n := 4) (Nat.le_of_ble_eq_true rfl)
  rw [lg_entry_eq]
  generalize (lg_sl ([.ref a, .int x, .ref q]) ++ List.replicate (4 - (lg_sl ([.ref a, .int x, .ref q])).length) Slot.unset).toArray = ls at hl ⊢
  replace hl : lv_has ls 4 [(0, .ref a), (1, .int x), (2, .ref q)] := hl
  refine lv_aload_n hx hb dL_merge_0 rfl (lv_at hl 2 rfl) ?_
  refine lv_iconst (v := nI 0) hx hb dL_merge_1 (by decide) ?_
  refine lv_aload_n hx hb dL_merge_2 rfl (lv_at hl 0 rfl) ?_
  refine lv_iload_n hx hb dL_merge_3 rfl (lv_at hl 1 rfl) ?_
  refine h_wrV (As := [.int x]) (rest := [.int (nI 0), .ref q]) hF hc 1 gL_merge_X2_merge rfl (by decide +kernel) ⟨by show fr + 1 ≤ 10; omega, by show 8 + (3 + 11) + lo ≤ 330; omega⟩ hK0 hV0 hA hS hxo rfl rfl rfl hl.1 rfl (Nat.le_of_ble_eq_true rfl) ⟨(Nat.le_of_ble_eq_true rfl), (Nat.le_of_ble_eq_true rfl)⟩ dL_merge_4 (fun ro hp1 H locs hP1 hV0 hA0 hS => ?_)
  obtain ⟨rfl, hR1⟩ := hP1
  obtain ⟨f, hq⟩ := hRq _ hR1
  refine lv_i2l (v := (r).toInt64) hx hb dL_merge_7 rfl ?_
  refine h_last (i := 0) (x := (r).toInt64) hx hb hK0 hV0 hA0 hS hq (by omega) (by omega) dL_merge_8 (fun H locs hV0 hA0 hS => ?_)
  refine lv_goto (tgt := 18) hx hb dL_merge_9 (by decide) ?_
  refine lv_iconst (v := nI 0) hx hb dL_merge_18 (by decide) ?_
  refine W.widen (k := 1) (n := 6) (by omega) (by omega) ?_
  exact W.iret hx hb hr (h_qW ⟨rfl, hp1, _, hR1, rfl, rfl⟩ hV0 hA0 hS) hS.2.2 dL_merge_19 hlocks

set_option maxHeartbeats 1000000 in
set_option maxRecDepth 100000 in
theorem hL_merge_IOE (l : Launch) (G : hG) (A : Nat → Prop) (hp : HP) (hA0 : hIn A hp) (a q : Nat) (x : Int32) (fs : List Value) (hxo : hp a = some (eO 2 fs)) (fr lo : Nat) (hfr : fr ≤ 9) (hlo : lo ≤ 290) (hc : hTh l yX2_merge wsX2_merge fr lo 1 6 G A hp [.ref a, .int x] IOE) : hWt l yL_merge wsL_merge 10 330 1 6 G A hp [.ref a, .int x, .ref q] (fun ro hp' => ro = some (.int (nI 1)) ∧ hp' = hp) := by
  refine va_MetW (cc := cL_merge) (maxL := 4) (ret := some .int) (hh := [(0, 9, 12, 13), (0, 9, 15, 25)]) (by decide) rfl ?_
  intro p e s m args below meth c s₁ B hml hv
  obtain ⟨rfl, hV0, hK0, hA, hZ0⟩ := hv
  have hx := B.exec
  have hb := B.bytes
  have hr := B.returns
  have hts := atoms_spec (ws := wsL_merge) B.pre
  have hown : s.vm.findClass RL = some m.cls := findClass_of_methodNamed B.named
  have hlocks := B.notSynchronized
  have hF : CallFix p m c cL_merge 4 s [.ref a, .int x, .ref q].toArray wsL_merge RL := ⟨hx, hb, hml, hown, hts⟩
  have htab : c.exceptionTable.toList = tableOf [(0, 9, 12, 13), (0, 9, 15, 25)] := vx_table (x := yL_merge) B (hts _ List.mem_cons_self)
  have hw0 := hts (.classLink RL 13 IOE) (by decide +kernel)
  have hS : va_S A s.heap s.heap [] := va_S.rf
  have hl := lv_entry ([.ref a, .int x, .ref q]) (n := 4) (Nat.le_of_ble_eq_true rfl)
  rw [lg_entry_eq]
  generalize (lg_sl ([.ref a, .int x, .ref q]) ++ List.replicate (4 - (lg_sl ([.ref a, .int x, .ref q])).length) Slot.unset).toArray = ls at hl ⊢
  replace hl : lv_has ls 4 [(0, .ref a), (1, .int x), (2, .ref q)] := hl
  refine lv_aload_n hx hb dL_merge_0 rfl (lv_at hl 2 rfl) ?_
  refine lv_iconst (v := nI 0) hx hb dL_merge_1 (by decide) ?_
  refine lv_aload_n hx hb dL_merge_2 rfl (lv_at hl 0 rfl) ?_
  refine lv_iload_n hx hb dL_merge_3 rfl (lv_at hl 1 rfl) ?_
  refine h_thVc (As := [.int x]) (rest := [.int (nI 0), .ref q]) hF hc 1 gL_merge_X2_merge rfl (by decide +kernel) ⟨by show fr + 1 ≤ 10; omega, by show 8 + (3 + 11) + lo ≤ 330; omega⟩ hK0 hV0 hA hZ0 hS hxo rfl rfl rfl hl.1 rfl (Nat.le_of_ble_eq_true rfl) ⟨(Nat.le_of_ble_eq_true rfl), (Nat.le_of_ble_eq_true rfl)⟩ dL_merge_4 (name := IOE) [] ⟨0, 9, 12, 13⟩ [⟨0, 9, 15, 25⟩] (htab.trans rfl) (fun z hz => absurd hz List.not_mem_nil) (by decide) (by decide) hw0 (va_Nw.use rfl hZ0.2.2.2.1) (fun q9 H locs hV0 hS => ?_)
  refine lv_astore_n (lv' := [(3, .ref q9), (0, .ref a), (1, .int x), (2, .ref q)]) hx hb dL_merge_12 rfl hl (by decide) rfl (fun ls hl => ?_)
  refine lv_iconst (v := nI 1) hx hb dL_merge_13 (by decide) ?_
  exact W.iret hx hb hr (h_qW ⟨rfl, rfl⟩ hV0 hA0 hS) hS.2.2 dL_merge_14 hlocks

set_option maxHeartbeats 1000000 in
set_option maxRecDepth 100000 in
theorem hL_merge_ISE (l : Launch) (G : hG) (A : Nat → Prop) (hp : HP) (hA0 : hIn A hp) (a q : Nat) (x : Int32) (fs : List Value) (hxo : hp a = some (eO 2 fs)) (fr lo : Nat) (hfr : fr ≤ 9) (hlo : lo ≤ 290) (hc : hTh l yX2_merge wsX2_merge fr lo 1 6 G A hp [.ref a, .int x] ISE) : hWt l yL_merge wsL_merge 10 330 1 6 G A hp [.ref a, .int x, .ref q] (fun ro hp' => ro = some (.int (nI 2)) ∧ hp' = hp) := by
  refine va_MetW (cc := cL_merge) (maxL := 4) (ret := some .int) (hh := [(0, 9, 12, 13), (0, 9, 15, 25)]) (by decide) rfl ?_
  intro p e s m args below meth c s₁ B hml hv
  obtain ⟨rfl, hV0, hK0, hA, hZ0⟩ := hv
  have hx := B.exec
  have hb := B.bytes
  have hr := B.returns
  have hts := atoms_spec (ws := wsL_merge) B.pre
  have hown : s.vm.findClass RL = some m.cls := findClass_of_methodNamed B.named
  have hlocks := B.notSynchronized
  have hF : CallFix p m c cL_merge 4 s [.ref a, .int x, .ref q].toArray wsL_merge RL := ⟨hx, hb, hml, hown, hts⟩
  have htab : c.exceptionTable.toList = tableOf [(0, 9, 12, 13), (0, 9, 15, 25)] := vx_table (x := yL_merge) B (hts _ List.mem_cons_self)
  have hw0 := hts (.classLink RL 25 ISE) (by decide +kernel)
  have hw1 := hts (.classLink RL 13 IOE) (by decide +kernel)
  have hS : va_S A s.heap s.heap [] := va_S.rf
  have hl := lv_entry ([.ref a, .int x, .ref q]) (n := 4) (Nat.le_of_ble_eq_true rfl)
  rw [lg_entry_eq]
  generalize (lg_sl ([.ref a, .int x, .ref q]) ++ List.replicate (4 - (lg_sl ([.ref a, .int x, .ref q])).length) Slot.unset).toArray = ls at hl ⊢
  replace hl : lv_has ls 4 [(0, .ref a), (1, .int x), (2, .ref q)] := hl
  refine lv_aload_n hx hb dL_merge_0 rfl (lv_at hl 2 rfl) ?_
  refine lv_iconst (v := nI 0) hx hb dL_merge_1 (by decide) ?_
  refine lv_aload_n hx hb dL_merge_2 rfl (lv_at hl 0 rfl) ?_
  refine lv_iload_n hx hb dL_merge_3 rfl (lv_at hl 1 rfl) ?_
  refine h_thVc (As := [.int x]) (rest := [.int (nI 0), .ref q]) hF hc 1 gL_merge_X2_merge rfl (by decide +kernel) ⟨by show fr + 1 ≤ 10; omega, by show 8 + (3 + 11) + lo ≤ 330; omega⟩ hK0 hV0 hA hZ0 hS hxo rfl rfl rfl hl.1 rfl (Nat.le_of_ble_eq_true rfl) ⟨(Nat.le_of_ble_eq_true rfl), (Nat.le_of_ble_eq_true rfl)⟩ dL_merge_4 (name := ISE) [⟨0, 9, 12, 13⟩] ⟨0, 9, 15, 25⟩ [] (htab.trans rfl) (fun z hz => by cases List.mem_singleton.mp hz; exact Or.inr ⟨by decide, IOE, hw1, hZ0.2.2.2.2.2.2.2.2.2.2⟩) (by decide) (by decide) hw0 (va_Nw.use rfl hZ0.2.2.2.2.2.1) (fun q9 H locs hV0 hS => ?_)
  refine lv_astore_n (lv' := [(3, .ref q9), (0, .ref a), (1, .int x), (2, .ref q)]) hx hb dL_merge_15 rfl hl (by decide) rfl (fun ls hl => ?_)
  refine lv_iconst (v := nI 2) hx hb dL_merge_16 (by decide) ?_
  exact W.iret hx hb hr (h_qW ⟨rfl, rfl⟩ hV0 hA0 hS) hS.2.2 dL_merge_17 hlocks

set_option maxHeartbeats 1000000 in
set_option maxRecDepth 100000 in
theorem hL_setRoom (l : Launch) (G : hG) (A : Nat → Prop) (hp : HP) (hA0 : hIn A hp) (a q : Nat) (x : Int32) (fs : List Value) (hxo : hp a = some (eO 2 fs)) (fr lo : Nat) (hfr : fr ≤ 9) (hlo : lo ≤ 290) (R1 : HP → Prop) (r : Int32) (hRq : ∀ hp1, R1 hp1 → ∃ f, hp1 q = some (eJ 1 f)) (hc : hWr l yX2_setRoom wsX2_setRoom fr lo 0 0 G A hp [.ref a, .int x] (fun ro hp1 => ro = some (.int (r)) ∧ R1 hp1)) : hWt l yL_setRoom wsL_setRoom 10 330 1 6 G A hp [.ref a, .int x, .ref q] (fun ro hp' => ro = some (.int (nI 0)) ∧ ∃ (hp1 : HP) (f1 : Nat → Int64), R1 hp1 ∧ hp' = hput hp1 q (eJ 1 f1) ∧ f1 0 = r.toInt64) := by
  refine va_MetW (cc := cL_setRoom) (maxL := 4) (ret := some .int) (hh := [(0, 9, 12, 15)]) (by decide) rfl ?_
  intro p e s m args below meth c s₁ B hml hv
  obtain ⟨rfl, hV0, hK0, hA, hZ0⟩ := hv
  have hx := B.exec
  have hb := B.bytes
  have hr := B.returns
  have hts := atoms_spec (ws := wsL_setRoom) B.pre
  have hown : s.vm.findClass RL = some m.cls := findClass_of_methodNamed B.named
  have hlocks := B.notSynchronized
  have hF : CallFix p m c cL_setRoom 4 s [.ref a, .int x, .ref q].toArray wsL_setRoom RL := ⟨hx, hb, hml, hown, hts⟩
  have hS : va_S A s.heap s.heap [] := va_S.rf
  have hl := lv_entry ([.ref a, .int x, .ref q]) (n := 4) (Nat.le_of_ble_eq_true rfl)
  rw [lg_entry_eq]
  generalize (lg_sl ([.ref a, .int x, .ref q]) ++ List.replicate (4 - (lg_sl ([.ref a, .int x, .ref q])).length) Slot.unset).toArray = ls at hl ⊢
  replace hl : lv_has ls 4 [(0, .ref a), (1, .int x), (2, .ref q)] := hl
  refine lv_aload_n hx hb dL_setRoom_0 rfl (lv_at hl 2 rfl) ?_
  refine lv_iconst (v := nI 0) hx hb dL_setRoom_1 (by decide) ?_
  refine lv_aload_n hx hb dL_setRoom_2 rfl (lv_at hl 0 rfl) ?_
  refine lv_iload_n hx hb dL_setRoom_3 rfl (lv_at hl 1 rfl) ?_
  refine h_wrV (As := [.int x]) (rest := [.int (nI 0), .ref q]) hF hc 1 gL_setRoom_X2_setRoom rfl (by decide +kernel) ⟨by show fr + 1 ≤ 10; omega, by show 8 + (3 + 11) + lo ≤ 330; omega⟩ hK0 hV0 hA hS hxo rfl rfl rfl hl.1 rfl (Nat.le_of_ble_eq_true rfl) ⟨(Nat.le_of_ble_eq_true rfl), (Nat.le_of_ble_eq_true rfl)⟩ dL_setRoom_4 (fun ro hp1 H locs hP1 hV0 hA0 hS => ?_)
  obtain ⟨rfl, hR1⟩ := hP1
  obtain ⟨f, hq⟩ := hRq _ hR1
  refine lv_i2l (v := (r).toInt64) hx hb dL_setRoom_7 rfl ?_
  refine h_last (i := 0) (x := (r).toInt64) hx hb hK0 hV0 hA0 hS hq (by omega) (by omega) dL_setRoom_8 (fun H locs hV0 hA0 hS => ?_)
  refine lv_goto (tgt := 15) hx hb dL_setRoom_9 (by decide) ?_
  refine lv_iconst (v := nI 0) hx hb dL_setRoom_15 (by decide) ?_
  refine W.widen (k := 1) (n := 6) (by omega) (by omega) ?_
  exact W.iret hx hb hr (h_qW ⟨rfl, hp1, _, hR1, rfl, rfl⟩ hV0 hA0 hS) hS.2.2 dL_setRoom_16 hlocks

set_option maxHeartbeats 1000000 in
set_option maxRecDepth 100000 in
theorem hL_setRoom_IAE (l : Launch) (G : hG) (A : Nat → Prop) (hp : HP) (hA0 : hIn A hp) (a q : Nat) (x : Int32) (fs : List Value) (hxo : hp a = some (eO 2 fs)) (fr lo : Nat) (hfr : fr ≤ 9) (hlo : lo ≤ 290) (hc : hTh l yX2_setRoom wsX2_setRoom fr lo 1 6 G A hp [.ref a, .int x] IAE) : hWt l yL_setRoom wsL_setRoom 10 330 1 6 G A hp [.ref a, .int x, .ref q] (fun ro hp' => ro = some (.int (nI 1)) ∧ hp' = hp) := by
  refine va_MetW (cc := cL_setRoom) (maxL := 4) (ret := some .int) (hh := [(0, 9, 12, 15)]) (by decide) rfl ?_
  intro p e s m args below meth c s₁ B hml hv
  obtain ⟨rfl, hV0, hK0, hA, hZ0⟩ := hv
  have hx := B.exec
  have hb := B.bytes
  have hr := B.returns
  have hts := atoms_spec (ws := wsL_setRoom) B.pre
  have hown : s.vm.findClass RL = some m.cls := findClass_of_methodNamed B.named
  have hlocks := B.notSynchronized
  have hF : CallFix p m c cL_setRoom 4 s [.ref a, .int x, .ref q].toArray wsL_setRoom RL := ⟨hx, hb, hml, hown, hts⟩
  have htab : c.exceptionTable.toList = tableOf [(0, 9, 12, 15)] := vx_table (x := yL_setRoom) B (hts _ List.mem_cons_self)
  have hw0 := hts (.classLink RL 15 IAE) (by decide +kernel)
  have hS : va_S A s.heap s.heap [] := va_S.rf
  have hl := lv_entry ([.ref a, .int x, .ref q]) (n := 4) (Nat.le_of_ble_eq_true rfl)
  rw [lg_entry_eq]
  generalize (lg_sl ([.ref a, .int x, .ref q]) ++ List.replicate (4 - (lg_sl ([.ref a, .int x, .ref q])).length) Slot.unset).toArray = ls at hl ⊢
  replace hl : lv_has ls 4 [(0, .ref a), (1, .int x), (2, .ref q)] := hl
  refine lv_aload_n hx hb dL_setRoom_0 rfl (lv_at hl 2 rfl) ?_
  refine lv_iconst (v := nI 0) hx hb dL_setRoom_1 (by decide) ?_
  refine lv_aload_n hx hb dL_setRoom_2 rfl (lv_at hl 0 rfl) ?_
  refine lv_iload_n hx hb dL_setRoom_3 rfl (lv_at hl 1 rfl) ?_
  refine h_thVc (As := [.int x]) (rest := [.int (nI 0), .ref q]) hF hc 1 gL_setRoom_X2_setRoom rfl (by decide +kernel) ⟨by show fr + 1 ≤ 10; omega, by show 8 + (3 + 11) + lo ≤ 330; omega⟩ hK0 hV0 hA hZ0 hS hxo rfl rfl rfl hl.1 rfl (Nat.le_of_ble_eq_true rfl) ⟨(Nat.le_of_ble_eq_true rfl), (Nat.le_of_ble_eq_true rfl)⟩ dL_setRoom_4 (name := IAE) [] ⟨0, 9, 12, 15⟩ [] (htab.trans rfl) (fun z hz => absurd hz List.not_mem_nil) (by decide) (by decide) hw0 (va_Nw.use rfl hZ0.2.2.2.2.1) (fun q9 H locs hV0 hS => ?_)
  refine lv_astore_n (lv' := [(3, .ref q9), (0, .ref a), (1, .int x), (2, .ref q)]) hx hb dL_setRoom_12 rfl hl (by decide) rfl (fun ls hl => ?_)
  refine lv_iconst (v := nI 1) hx hb dL_setRoom_13 (by decide) ?_
  exact W.iret hx hb hr (h_qW ⟨rfl, rfl⟩ hV0 hA0 hS) hS.2.2 dL_setRoom_14 hlocks

set_option maxHeartbeats 1000000 in
set_option maxRecDepth 100000 in
theorem hL_read (l : Launch) (G : hG) (A : Nat → Prop) (hp : HP) (hA0 : hIn A hp) (a q : Nat) (x : Int32) (fs : List Value) (hxo : hp a = some (eO 2 fs)) (fr lo : Nat) (hfr : fr ≤ 9) (hlo : lo ≤ 290) (R1 : HP → Prop) (r : Int32) (hRq : ∀ hp1, R1 hp1 → ∃ f, hp1 q = some (eJ 1 f)) (hc : hWr l yX2_read wsX2_read fr lo 0 0 G A hp [.ref a, .int x] (fun ro hp1 => ro = some (.int (r)) ∧ R1 hp1)) : hWt l yL_read wsL_read 10 330 1 6 G A hp [.ref a, .int x, .ref q] (fun ro hp' => ro = some (.int (nI 0)) ∧ ∃ (hp1 : HP) (f1 : Nat → Int64), R1 hp1 ∧ hp' = hput hp1 q (eJ 1 f1) ∧ f1 0 = r.toInt64) := by
  refine va_MetW (cc := cL_read) (maxL := 4) (ret := some .int) (hh := [(0, 9, 12, 13)]) (by decide) rfl ?_
  intro p e s m args below meth c s₁ B hml hv
  obtain ⟨rfl, hV0, hK0, hA, hZ0⟩ := hv
  have hx := B.exec
  have hb := B.bytes
  have hr := B.returns
  have hts := atoms_spec (ws := wsL_read) B.pre
  have hown : s.vm.findClass RL = some m.cls := findClass_of_methodNamed B.named
  have hlocks := B.notSynchronized
  have hF : CallFix p m c cL_read 4 s [.ref a, .int x, .ref q].toArray wsL_read RL := ⟨hx, hb, hml, hown, hts⟩
  have hS : va_S A s.heap s.heap [] := va_S.rf
  have hl := lv_entry ([.ref a, .int x, .ref q]) (n := 4) (Nat.le_of_ble_eq_true rfl)
  rw [lg_entry_eq]
  generalize (lg_sl ([.ref a, .int x, .ref q]) ++ List.replicate (4 - (lg_sl ([.ref a, .int x, .ref q])).length) Slot.unset).toArray = ls at hl ⊢
  replace hl : lv_has ls 4 [(0, .ref a), (1, .int x), (2, .ref q)] := hl
  refine lv_aload_n hx hb dL_read_0 rfl (lv_at hl 2 rfl) ?_
  refine lv_iconst (v := nI 0) hx hb dL_read_1 (by decide) ?_
  refine lv_aload_n hx hb dL_read_2 rfl (lv_at hl 0 rfl) ?_
  refine lv_iload_n hx hb dL_read_3 rfl (lv_at hl 1 rfl) ?_
  refine h_wrV (As := [.int x]) (rest := [.int (nI 0), .ref q]) hF hc 1 gL_read_X2_read rfl (by decide +kernel) ⟨by show fr + 1 ≤ 10; omega, by show 8 + (2 + 11) + lo ≤ 330; omega⟩ hK0 hV0 hA hS hxo rfl rfl rfl hl.1 rfl (Nat.le_of_ble_eq_true rfl) ⟨(Nat.le_of_ble_eq_true rfl), (Nat.le_of_ble_eq_true rfl)⟩ dL_read_4 (fun ro hp1 H locs hP1 hV0 hA0 hS => ?_)
  obtain ⟨rfl, hR1⟩ := hP1
  obtain ⟨f, hq⟩ := hRq _ hR1
  refine lv_i2l (v := (r).toInt64) hx hb dL_read_7 rfl ?_
  refine h_last (i := 0) (x := (r).toInt64) hx hb hK0 hV0 hA0 hS hq (by omega) (by omega) dL_read_8 (fun H locs hV0 hA0 hS => ?_)
  refine lv_goto (tgt := 15) hx hb dL_read_9 (by decide) ?_
  refine lv_iconst (v := nI 0) hx hb dL_read_15 (by decide) ?_
  refine W.widen (k := 1) (n := 6) (by omega) (by omega) ?_
  exact W.iret hx hb hr (h_qW ⟨rfl, hp1, _, hR1, rfl, rfl⟩ hV0 hA0 hS) hS.2.2 dL_read_16 hlocks

set_option maxHeartbeats 1000000 in
set_option maxRecDepth 100000 in
theorem hL_read_IOE (l : Launch) (G : hG) (A : Nat → Prop) (hp : HP) (hA0 : hIn A hp) (a q : Nat) (x : Int32) (fs : List Value) (hxo : hp a = some (eO 2 fs)) (fr lo : Nat) (hfr : fr ≤ 9) (hlo : lo ≤ 290) (hc : hTh l yX2_read wsX2_read fr lo 1 6 G A hp [.ref a, .int x] IOE) : hWt l yL_read wsL_read 10 330 1 6 G A hp [.ref a, .int x, .ref q] (fun ro hp' => ro = some (.int (nI 1)) ∧ hp' = hp) := by
  refine va_MetW (cc := cL_read) (maxL := 4) (ret := some .int) (hh := [(0, 9, 12, 13)]) (by decide) rfl ?_
  intro p e s m args below meth c s₁ B hml hv
  obtain ⟨rfl, hV0, hK0, hA, hZ0⟩ := hv
  have hx := B.exec
  have hb := B.bytes
  have hr := B.returns
  have hts := atoms_spec (ws := wsL_read) B.pre
  have hown : s.vm.findClass RL = some m.cls := findClass_of_methodNamed B.named
  have hlocks := B.notSynchronized
  have hF : CallFix p m c cL_read 4 s [.ref a, .int x, .ref q].toArray wsL_read RL := ⟨hx, hb, hml, hown, hts⟩
  have htab : c.exceptionTable.toList = tableOf [(0, 9, 12, 13)] := vx_table (x := yL_read) B (hts _ List.mem_cons_self)
  have hw0 := hts (.classLink RL 13 IOE) (by decide +kernel)
  have hS : va_S A s.heap s.heap [] := va_S.rf
  have hl := lv_entry ([.ref a, .int x, .ref q]) (n := 4) (Nat.le_of_ble_eq_true rfl)
  rw [lg_entry_eq]
  generalize (lg_sl ([.ref a, .int x, .ref q]) ++ List.replicate (4 - (lg_sl ([.ref a, .int x, .ref q])).length) Slot.unset).toArray = ls at hl ⊢
  replace hl : lv_has ls 4 [(0, .ref a), (1, .int x), (2, .ref q)] := hl
  refine lv_aload_n hx hb dL_read_0 rfl (lv_at hl 2 rfl) ?_
  refine lv_iconst (v := nI 0) hx hb dL_read_1 (by decide) ?_
  refine lv_aload_n hx hb dL_read_2 rfl (lv_at hl 0 rfl) ?_
  refine lv_iload_n hx hb dL_read_3 rfl (lv_at hl 1 rfl) ?_
  refine h_thVc (As := [.int x]) (rest := [.int (nI 0), .ref q]) hF hc 1 gL_read_X2_read rfl (by decide +kernel) ⟨by show fr + 1 ≤ 10; omega, by show 8 + (2 + 11) + lo ≤ 330; omega⟩ hK0 hV0 hA hZ0 hS hxo rfl rfl rfl hl.1 rfl (Nat.le_of_ble_eq_true rfl) ⟨(Nat.le_of_ble_eq_true rfl), (Nat.le_of_ble_eq_true rfl)⟩ dL_read_4 (name := IOE) [] ⟨0, 9, 12, 13⟩ [] (htab.trans rfl) (fun z hz => absurd hz List.not_mem_nil) (by decide) (by decide) hw0 (va_Nw.use rfl hZ0.2.2.2.1) (fun q9 H locs hV0 hS => ?_)
  refine lv_astore_n (lv' := [(3, .ref q9), (0, .ref a), (1, .int x), (2, .ref q)]) hx hb dL_read_12 rfl hl (by decide) rfl (fun ls hl => ?_)
  refine lv_iconst (v := nI 1) hx hb dL_read_13 (by decide) ?_
  exact W.iret hx hb hr (h_qW ⟨rfl, rfl⟩ hV0 hA0 hS) hS.2.2 dL_read_14 hlocks

set_option maxHeartbeats 1000000 in
set_option maxRecDepth 100000 in
theorem hL_detours (l : Launch) (G : hG) (A : Nat → Prop) (hp : HP) (hA0 : hIn A hp) (a q : Nat) (x : Int32) (fs : List Value) (hxo : hp a = some (eO 2 fs)) (fr lo : Nat) (hfr : fr ≤ 9) (hlo : lo ≤ 290) (R1 : HP → Prop) (r : Int32) (hRq : ∀ hp1, R1 hp1 → ∃ f, hp1 q = some (eJ 1 f)) (hc : hWr l yX2_detours wsX2_detours fr lo 0 0 G A hp [.ref a, .int x] (fun ro hp1 => ro = some (.int (r)) ∧ R1 hp1)) : hWt l yL_detours wsL_detours 10 330 1 6 G A hp [.ref a, .int x, .ref q] (fun ro hp' => ro = some (.int (nI 0)) ∧ ∃ (hp1 : HP) (f1 : Nat → Int64), R1 hp1 ∧ hp' = hput hp1 q (eJ 1 f1) ∧ f1 0 = r.toInt64) := by
  refine va_MetW (cc := cL_detours) (maxL := 4) (ret := some .int) (hh := [(0, 9, 12, 13)]) (by decide) rfl ?_
  intro p e s m args below meth c s₁ B hml hv
  obtain ⟨rfl, hV0, hK0, hA, hZ0⟩ := hv
  have hx := B.exec
  have hb := B.bytes
  have hr := B.returns
  have hts := atoms_spec (ws := wsL_detours) B.pre
  have hown : s.vm.findClass RL = some m.cls := findClass_of_methodNamed B.named
  have hlocks := B.notSynchronized
  have hF : CallFix p m c cL_detours 4 s [.ref a, .int x, .ref q].toArray wsL_detours RL := ⟨hx, hb, hml, hown, hts⟩
  have hS : va_S A s.heap s.heap [] := va_S.rf
  have hl := lv_entry ([.ref a, .int x, .ref q]) (n := 4) (Nat.le_of_ble_eq_true rfl)
  rw [lg_entry_eq]
  generalize (lg_sl ([.ref a, .int x, .ref q]) ++ List.replicate (4 - (lg_sl ([.ref a, .int x, .ref q])).length) Slot.unset).toArray = ls at hl ⊢
  replace hl : lv_has ls 4 [(0, .ref a), (1, .int x), (2, .ref q)] := hl
  refine lv_aload_n hx hb dL_detours_0 rfl (lv_at hl 2 rfl) ?_
  refine lv_iconst (v := nI 0) hx hb dL_detours_1 (by decide) ?_
  refine lv_aload_n hx hb dL_detours_2 rfl (lv_at hl 0 rfl) ?_
  refine lv_iload_n hx hb dL_detours_3 rfl (lv_at hl 1 rfl) ?_
  refine h_wrV (As := [.int x]) (rest := [.int (nI 0), .ref q]) hF hc 1 gL_detours_X2_detours rfl (by decide +kernel) ⟨by show fr + 1 ≤ 10; omega, by show 8 + (2 + 11) + lo ≤ 330; omega⟩ hK0 hV0 hA hS hxo rfl rfl rfl hl.1 rfl (Nat.le_of_ble_eq_true rfl) ⟨(Nat.le_of_ble_eq_true rfl), (Nat.le_of_ble_eq_true rfl)⟩ dL_detours_4 (fun ro hp1 H locs hP1 hV0 hA0 hS => ?_)
  obtain ⟨rfl, hR1⟩ := hP1
  obtain ⟨f, hq⟩ := hRq _ hR1
  refine lv_i2l (v := (r).toInt64) hx hb dL_detours_7 rfl ?_
  refine h_last (i := 0) (x := (r).toInt64) hx hb hK0 hV0 hA0 hS hq (by omega) (by omega) dL_detours_8 (fun H locs hV0 hA0 hS => ?_)
  refine lv_goto (tgt := 15) hx hb dL_detours_9 (by decide) ?_
  refine lv_iconst (v := nI 0) hx hb dL_detours_15 (by decide) ?_
  refine W.widen (k := 1) (n := 6) (by omega) (by omega) ?_
  exact W.iret hx hb hr (h_qW ⟨rfl, hp1, _, hR1, rfl, rfl⟩ hV0 hA0 hS) hS.2.2 dL_detours_16 hlocks

set_option maxHeartbeats 1000000 in
set_option maxRecDepth 100000 in
theorem hL_detours_IOE (l : Launch) (G : hG) (A : Nat → Prop) (hp : HP) (hA0 : hIn A hp) (a q : Nat) (x : Int32) (fs : List Value) (hxo : hp a = some (eO 2 fs)) (fr lo : Nat) (hfr : fr ≤ 9) (hlo : lo ≤ 290) (hc : hTh l yX2_detours wsX2_detours fr lo 1 6 G A hp [.ref a, .int x] IOE) : hWt l yL_detours wsL_detours 10 330 1 6 G A hp [.ref a, .int x, .ref q] (fun ro hp' => ro = some (.int (nI 1)) ∧ hp' = hp) := by
  refine va_MetW (cc := cL_detours) (maxL := 4) (ret := some .int) (hh := [(0, 9, 12, 13)]) (by decide) rfl ?_
  intro p e s m args below meth c s₁ B hml hv
  obtain ⟨rfl, hV0, hK0, hA, hZ0⟩ := hv
  have hx := B.exec
  have hb := B.bytes
  have hr := B.returns
  have hts := atoms_spec (ws := wsL_detours) B.pre
  have hown : s.vm.findClass RL = some m.cls := findClass_of_methodNamed B.named
  have hlocks := B.notSynchronized
  have hF : CallFix p m c cL_detours 4 s [.ref a, .int x, .ref q].toArray wsL_detours RL := ⟨hx, hb, hml, hown, hts⟩
  have htab : c.exceptionTable.toList = tableOf [(0, 9, 12, 13)] := vx_table (x := yL_detours) B (hts _ List.mem_cons_self)
  have hw0 := hts (.classLink RL 13 IOE) (by decide +kernel)
  have hS : va_S A s.heap s.heap [] := va_S.rf
  have hl := lv_entry ([.ref a, .int x, .ref q]) (n := 4) (Nat.le_of_ble_eq_true rfl)
  rw [lg_entry_eq]
  generalize (lg_sl ([.ref a, .int x, .ref q]) ++ List.replicate (4 - (lg_sl ([.ref a, .int x, .ref q])).length) Slot.unset).toArray = ls at hl ⊢
  replace hl : lv_has ls 4 [(0, .ref a), (1, .int x), (2, .ref q)] := hl
  refine lv_aload_n hx hb dL_detours_0 rfl (lv_at hl 2 rfl) ?_
  refine lv_iconst (v := nI 0) hx hb dL_detours_1 (by decide) ?_
  refine lv_aload_n hx hb dL_detours_2 rfl (lv_at hl 0 rfl) ?_
  refine lv_iload_n hx hb dL_detours_3 rfl (lv_at hl 1 rfl) ?_
  refine h_thVc (As := [.int x]) (rest := [.int (nI 0), .ref q]) hF hc 1 gL_detours_X2_detours rfl (by decide +kernel) ⟨by show fr + 1 ≤ 10; omega, by show 8 + (2 + 11) + lo ≤ 330; omega⟩ hK0 hV0 hA hZ0 hS hxo rfl rfl rfl hl.1 rfl (Nat.le_of_ble_eq_true rfl) ⟨(Nat.le_of_ble_eq_true rfl), (Nat.le_of_ble_eq_true rfl)⟩ dL_detours_4 (name := IOE) [] ⟨0, 9, 12, 13⟩ [] (htab.trans rfl) (fun z hz => absurd hz List.not_mem_nil) (by decide) (by decide) hw0 (va_Nw.use rfl hZ0.2.2.2.1) (fun q9 H locs hV0 hS => ?_)
  refine lv_astore_n (lv' := [(3, .ref q9), (0, .ref a), (1, .int x), (2, .ref q)]) hx hb dL_detours_12 rfl hl (by decide) rfl (fun ls hl => ?_)
  refine lv_iconst (v := nI 1) hx hb dL_detours_13 (by decide) ?_
  exact W.iret hx hb hr (h_qW ⟨rfl, rfl⟩ hV0 hA0 hS) hS.2.2 dL_detours_14 hlocks

set_option maxHeartbeats 1000000 in
set_option maxRecDepth 100000 in
theorem hL_next (l : Launch) (G : hG) (A : Nat → Prop) (hp : HP) (hA0 : hIn A hp) (a q : Nat) (x : Int32) (fs : List Value) (hxo : hp a = some (eO 2 fs)) (fr lo : Nat) (hfr : fr ≤ 9) (hlo : lo ≤ 290) (R1 : HP → Prop) (r : Int32) (hRq : ∀ hp1, R1 hp1 → ∃ f, hp1 q = some (eJ 1 f)) (hc : hWr l yX2_next wsX2_next fr lo 0 0 G A hp [.ref a, .int x] (fun ro hp1 => ro = some (.int (r)) ∧ R1 hp1)) : hWt l yL_next wsL_next 10 330 1 6 G A hp [.ref a, .int x, .ref q] (fun ro hp' => ro = some (.int (nI 0)) ∧ ∃ (hp1 : HP) (f1 : Nat → Int64), R1 hp1 ∧ hp' = hput hp1 q (eJ 1 f1) ∧ f1 0 = r.toInt64) := by
  refine va_MetW (cc := cL_next) (maxL := 4) (ret := some .int) (hh := [(0, 9, 12, 13)]) (by decide) rfl ?_
  intro p e s m args below meth c s₁ B hml hv
  obtain ⟨rfl, hV0, hK0, hA, hZ0⟩ := hv
  have hx := B.exec
  have hb := B.bytes
  have hr := B.returns
  have hts := atoms_spec (ws := wsL_next) B.pre
  have hown : s.vm.findClass RL = some m.cls := findClass_of_methodNamed B.named
  have hlocks := B.notSynchronized
  have hF : CallFix p m c cL_next 4 s [.ref a, .int x, .ref q].toArray wsL_next RL := ⟨hx, hb, hml, hown, hts⟩
  have hS : va_S A s.heap s.heap [] := va_S.rf
  have hl := lv_entry ([.ref a, .int x, .ref q]) (n := 4) (Nat.le_of_ble_eq_true rfl)
  rw [lg_entry_eq]
  generalize (lg_sl ([.ref a, .int x, .ref q]) ++ List.replicate (4 - (lg_sl ([.ref a, .int x, .ref q])).length) Slot.unset).toArray = ls at hl ⊢
  replace hl : lv_has ls 4 [(0, .ref a), (1, .int x), (2, .ref q)] := hl
  refine lv_aload_n hx hb dL_next_0 rfl (lv_at hl 2 rfl) ?_
  refine lv_iconst (v := nI 0) hx hb dL_next_1 (by decide) ?_
  refine lv_aload_n hx hb dL_next_2 rfl (lv_at hl 0 rfl) ?_
  refine lv_iload_n hx hb dL_next_3 rfl (lv_at hl 1 rfl) ?_
  refine h_wrV (As := [.int x]) (rest := [.int (nI 0), .ref q]) hF hc 1 gL_next_X2_next rfl (by decide +kernel) ⟨by show fr + 1 ≤ 10; omega, by show 8 + (3 + 11) + lo ≤ 330; omega⟩ hK0 hV0 hA hS hxo rfl rfl rfl hl.1 rfl (Nat.le_of_ble_eq_true rfl) ⟨(Nat.le_of_ble_eq_true rfl), (Nat.le_of_ble_eq_true rfl)⟩ dL_next_4 (fun ro hp1 H locs hP1 hV0 hA0 hS => ?_)
  obtain ⟨rfl, hR1⟩ := hP1
  obtain ⟨f, hq⟩ := hRq _ hR1
  refine lv_i2l (v := (r).toInt64) hx hb dL_next_7 rfl ?_
  refine h_last (i := 0) (x := (r).toInt64) hx hb hK0 hV0 hA0 hS hq (by omega) (by omega) dL_next_8 (fun H locs hV0 hA0 hS => ?_)
  refine lv_goto (tgt := 15) hx hb dL_next_9 (by decide) ?_
  refine lv_iconst (v := nI 0) hx hb dL_next_15 (by decide) ?_
  refine W.widen (k := 1) (n := 6) (by omega) (by omega) ?_
  exact W.iret hx hb hr (h_qW ⟨rfl, hp1, _, hR1, rfl, rfl⟩ hV0 hA0 hS) hS.2.2 dL_next_16 hlocks

set_option maxHeartbeats 1000000 in
set_option maxRecDepth 100000 in
theorem hL_next_IOE (l : Launch) (G : hG) (A : Nat → Prop) (hp : HP) (hA0 : hIn A hp) (a q : Nat) (x : Int32) (fs : List Value) (hxo : hp a = some (eO 2 fs)) (fr lo : Nat) (hfr : fr ≤ 9) (hlo : lo ≤ 290) (hc : hTh l yX2_next wsX2_next fr lo 1 6 G A hp [.ref a, .int x] IOE) : hWt l yL_next wsL_next 10 330 1 6 G A hp [.ref a, .int x, .ref q] (fun ro hp' => ro = some (.int (nI 1)) ∧ hp' = hp) := by
  refine va_MetW (cc := cL_next) (maxL := 4) (ret := some .int) (hh := [(0, 9, 12, 13)]) (by decide) rfl ?_
  intro p e s m args below meth c s₁ B hml hv
  obtain ⟨rfl, hV0, hK0, hA, hZ0⟩ := hv
  have hx := B.exec
  have hb := B.bytes
  have hr := B.returns
  have hts := atoms_spec (ws := wsL_next) B.pre
  have hown : s.vm.findClass RL = some m.cls := findClass_of_methodNamed B.named
  have hlocks := B.notSynchronized
  have hF : CallFix p m c cL_next 4 s [.ref a, .int x, .ref q].toArray wsL_next RL := ⟨hx, hb, hml, hown, hts⟩
  have htab : c.exceptionTable.toList = tableOf [(0, 9, 12, 13)] := vx_table (x := yL_next) B (hts _ List.mem_cons_self)
  have hw0 := hts (.classLink RL 13 IOE) (by decide +kernel)
  have hS : va_S A s.heap s.heap [] := va_S.rf
  have hl := lv_entry ([.ref a, .int x, .ref q]) (n := 4) (Nat.le_of_ble_eq_true rfl)
  rw [lg_entry_eq]
  generalize (lg_sl ([.ref a, .int x, .ref q]) ++ List.replicate (4 - (lg_sl ([.ref a, .int x, .ref q])).length) Slot.unset).toArray = ls at hl ⊢
  replace hl : lv_has ls 4 [(0, .ref a), (1, .int x), (2, .ref q)] := hl
  refine lv_aload_n hx hb dL_next_0 rfl (lv_at hl 2 rfl) ?_
  refine lv_iconst (v := nI 0) hx hb dL_next_1 (by decide) ?_
  refine lv_aload_n hx hb dL_next_2 rfl (lv_at hl 0 rfl) ?_
  refine lv_iload_n hx hb dL_next_3 rfl (lv_at hl 1 rfl) ?_
  refine h_thVc (As := [.int x]) (rest := [.int (nI 0), .ref q]) hF hc 1 gL_next_X2_next rfl (by decide +kernel) ⟨by show fr + 1 ≤ 10; omega, by show 8 + (3 + 11) + lo ≤ 330; omega⟩ hK0 hV0 hA hZ0 hS hxo rfl rfl rfl hl.1 rfl (Nat.le_of_ble_eq_true rfl) ⟨(Nat.le_of_ble_eq_true rfl), (Nat.le_of_ble_eq_true rfl)⟩ dL_next_4 (name := IOE) [] ⟨0, 9, 12, 13⟩ [] (htab.trans rfl) (fun z hz => absurd hz List.not_mem_nil) (by decide) (by decide) hw0 (va_Nw.use rfl hZ0.2.2.2.1) (fun q9 H locs hV0 hS => ?_)
  refine lv_astore_n (lv' := [(3, .ref q9), (0, .ref a), (1, .int x), (2, .ref q)]) hx hb dL_next_12 rfl hl (by decide) rfl (fun ls hl => ?_)
  refine lv_iconst (v := nI 1) hx hb dL_next_13 (by decide) ?_
  exact W.iret hx hb hr (h_qW ⟨rfl, rfl⟩ hV0 hA0 hS) hS.2.2 dL_next_14 hlocks

set_option maxHeartbeats 1000000 in
set_option maxRecDepth 100000 in
theorem hL_sum (l : Launch) (G : hG) (A : Nat → Prop) (hp : HP) (hA0 : hIn A hp) (a q : Nat) (x y : Int32) (fs : List Value) (hxo : hp a = some (eO 2 fs)) (fr lo : Nat) (hfr : fr ≤ 9) (hlo : lo ≤ 290) (R1 : HP → Prop) (r : Int32) (hRq : ∀ hp1, R1 hp1 → ∃ f, hp1 q = some (eJ 1 f)) (hc : hWr l yX2_sum wsX2_sum fr lo 0 0 G A hp [.ref a, .int x, .int y] (fun ro hp1 => ro = some (.int (r)) ∧ R1 hp1)) : hWt l yL_sum wsL_sum 10 330 1 6 G A hp [.ref a, .int x, .int y, .ref q] (fun ro hp' => ro = some (.int (nI 0)) ∧ ∃ (hp1 : HP) (f1 : Nat → Int64), R1 hp1 ∧ hp' = hput hp1 q (eJ 1 f1) ∧ f1 0 = r.toInt64) := by
  refine va_MetW (cc := cL_sum) (maxL := 5) (ret := some .int) (hh := [(0, 10, 13, 13), (0, 10, 17, 15)]) (by decide) rfl ?_
  intro p e s m args below meth c s₁ B hml hv
  obtain ⟨rfl, hV0, hK0, hA, hZ0⟩ := hv
  have hx := B.exec
  have hb := B.bytes
  have hr := B.returns
  have hts := atoms_spec (ws := wsL_sum) B.pre
  have hown : s.vm.findClass RL = some m.cls := findClass_of_methodNamed B.named
  have hlocks := B.notSynchronized
  have hF : CallFix p m c cL_sum 5 s [.ref a, .int x, .int y, .ref q].toArray wsL_sum RL := ⟨hx, hb, hml, hown, hts⟩
  have hS : va_S A s.heap s.heap [] := va_S.rf
  have hl := lv_entry ([.ref a, .int x, .int y, .ref q]) (n := 5) (Nat.le_of_ble_eq_true rfl)
  rw [lg_entry_eq]
  generalize (lg_sl ([.ref a, .int x, .int y, .ref q]) ++ List.replicate (5 - (lg_sl ([.ref a, .int x, .int y, .ref q])).length) Slot.unset).toArray = ls at hl ⊢
  replace hl : lv_has ls 5 [(0, .ref a), (1, .int x), (2, .int y), (3, .ref q)] := hl
  refine lv_aload_n hx hb dL_sum_0 rfl (lv_at hl 3 rfl) ?_
  refine lv_iconst (v := nI 0) hx hb dL_sum_1 (by decide) ?_
  refine lv_aload_n hx hb dL_sum_2 rfl (lv_at hl 0 rfl) ?_
  refine lv_iload_n hx hb dL_sum_3 rfl (lv_at hl 1 rfl) ?_
  refine lv_iload_n hx hb dL_sum_4 rfl (lv_at hl 2 rfl) ?_
  refine h_wrV (As := [.int x, .int y]) (rest := [.int (nI 0), .ref q]) hF hc 2 gL_sum_X2_sum rfl (by decide +kernel) ⟨by show fr + 1 ≤ 10; omega, by show 8 + (5 + 11) + lo ≤ 330; omega⟩ hK0 hV0 hA hS hxo rfl rfl rfl hl.1 rfl (Nat.le_of_ble_eq_true rfl) ⟨(Nat.le_of_ble_eq_true rfl), (Nat.le_of_ble_eq_true rfl)⟩ dL_sum_5 (fun ro hp1 H locs hP1 hV0 hA0 hS => ?_)
  obtain ⟨rfl, hR1⟩ := hP1
  obtain ⟨f, hq⟩ := hRq _ hR1
  refine lv_i2l (v := (r).toInt64) hx hb dL_sum_8 rfl ?_
  refine h_last (i := 0) (x := (r).toInt64) hx hb hK0 hV0 hA0 hS hq (by omega) (by omega) dL_sum_9 (fun H locs hV0 hA0 hS => ?_)
  refine lv_goto (tgt := 21) hx hb dL_sum_10 (by decide) ?_
  refine lv_iconst (v := nI 0) hx hb dL_sum_21 (by decide) ?_
  refine W.widen (k := 1) (n := 6) (by omega) (by omega) ?_
  exact W.iret hx hb hr (h_qW ⟨rfl, hp1, _, hR1, rfl, rfl⟩ hV0 hA0 hS) hS.2.2 dL_sum_22 hlocks

set_option maxHeartbeats 1000000 in
set_option maxRecDepth 100000 in
theorem hL_sum_IOE (l : Launch) (G : hG) (A : Nat → Prop) (hp : HP) (hA0 : hIn A hp) (a q : Nat) (x y : Int32) (fs : List Value) (hxo : hp a = some (eO 2 fs)) (fr lo : Nat) (hfr : fr ≤ 9) (hlo : lo ≤ 290) (hc : hTh l yX2_sum wsX2_sum fr lo 1 6 G A hp [.ref a, .int x, .int y] IOE) : hWt l yL_sum wsL_sum 10 330 1 6 G A hp [.ref a, .int x, .int y, .ref q] (fun ro hp' => ro = some (.int (nI 1)) ∧ hp' = hp) := by
  refine va_MetW (cc := cL_sum) (maxL := 5) (ret := some .int) (hh := [(0, 10, 13, 13), (0, 10, 17, 15)]) (by decide) rfl ?_
  intro p e s m args below meth c s₁ B hml hv
  obtain ⟨rfl, hV0, hK0, hA, hZ0⟩ := hv
  have hx := B.exec
  have hb := B.bytes
  have hr := B.returns
  have hts := atoms_spec (ws := wsL_sum) B.pre
  have hown : s.vm.findClass RL = some m.cls := findClass_of_methodNamed B.named
  have hlocks := B.notSynchronized
  have hF : CallFix p m c cL_sum 5 s [.ref a, .int x, .int y, .ref q].toArray wsL_sum RL := ⟨hx, hb, hml, hown, hts⟩
  have htab : c.exceptionTable.toList = tableOf [(0, 10, 13, 13), (0, 10, 17, 15)] := vx_table (x := yL_sum) B (hts _ List.mem_cons_self)
  have hw0 := hts (.classLink RL 13 IOE) (by decide +kernel)
  have hS : va_S A s.heap s.heap [] := va_S.rf
  have hl := lv_entry ([.ref a, .int x, .int y, .ref q]) (n := 5) (Nat.le_of_ble_eq_true rfl)
  rw [lg_entry_eq]
  generalize (lg_sl ([.ref a, .int x, .int y, .ref q]) ++ List.replicate (5 - (lg_sl ([.ref a, .int x, .int y, .ref q])).length) Slot.unset).toArray = ls at hl ⊢
  replace hl : lv_has ls 5 [(0, .ref a), (1, .int x), (2, .int y), (3, .ref q)] := hl
  refine lv_aload_n hx hb dL_sum_0 rfl (lv_at hl 3 rfl) ?_
  refine lv_iconst (v := nI 0) hx hb dL_sum_1 (by decide) ?_
  refine lv_aload_n hx hb dL_sum_2 rfl (lv_at hl 0 rfl) ?_
  refine lv_iload_n hx hb dL_sum_3 rfl (lv_at hl 1 rfl) ?_
  refine lv_iload_n hx hb dL_sum_4 rfl (lv_at hl 2 rfl) ?_
  refine h_thVc (As := [.int x, .int y]) (rest := [.int (nI 0), .ref q]) hF hc 2 gL_sum_X2_sum rfl (by decide +kernel) ⟨by show fr + 1 ≤ 10; omega, by show 8 + (5 + 11) + lo ≤ 330; omega⟩ hK0 hV0 hA hZ0 hS hxo rfl rfl rfl hl.1 rfl (Nat.le_of_ble_eq_true rfl) ⟨(Nat.le_of_ble_eq_true rfl), (Nat.le_of_ble_eq_true rfl)⟩ dL_sum_5 (name := IOE) [] ⟨0, 10, 13, 13⟩ [⟨0, 10, 17, 15⟩] (htab.trans rfl) (fun z hz => absurd hz List.not_mem_nil) (by decide) (by decide) hw0 (va_Nw.use rfl hZ0.2.2.2.1) (fun q9 H locs hV0 hS => ?_)
  refine lv_astore (lv' := [(4, .ref q9), (0, .ref a), (1, .int x), (2, .int y), (3, .ref q)]) hx hb dL_sum_13 hl (by decide) rfl (fun ls hl => ?_)
  refine lv_iconst (v := nI 1) hx hb dL_sum_15 (by decide) ?_
  exact W.iret hx hb hr (h_qW ⟨rfl, rfl⟩ hV0 hA0 hS) hS.2.2 dL_sum_16 hlocks

set_option maxHeartbeats 1000000 in
set_option maxRecDepth 100000 in
theorem hL_sum_IAE (l : Launch) (G : hG) (A : Nat → Prop) (hp : HP) (hA0 : hIn A hp) (a q : Nat) (x y : Int32) (fs : List Value) (hxo : hp a = some (eO 2 fs)) (fr lo : Nat) (hfr : fr ≤ 9) (hlo : lo ≤ 290) (hc : hTh l yX2_sum wsX2_sum fr lo 1 6 G A hp [.ref a, .int x, .int y] IAE) : hWt l yL_sum wsL_sum 10 330 1 6 G A hp [.ref a, .int x, .int y, .ref q] (fun ro hp' => ro = some (.int (nI 2)) ∧ hp' = hp) := by
  refine va_MetW (cc := cL_sum) (maxL := 5) (ret := some .int) (hh := [(0, 10, 13, 13), (0, 10, 17, 15)]) (by decide) rfl ?_
  intro p e s m args below meth c s₁ B hml hv
  obtain ⟨rfl, hV0, hK0, hA, hZ0⟩ := hv
  have hx := B.exec
  have hb := B.bytes
  have hr := B.returns
  have hts := atoms_spec (ws := wsL_sum) B.pre
  have hown : s.vm.findClass RL = some m.cls := findClass_of_methodNamed B.named
  have hlocks := B.notSynchronized
  have hF : CallFix p m c cL_sum 5 s [.ref a, .int x, .int y, .ref q].toArray wsL_sum RL := ⟨hx, hb, hml, hown, hts⟩
  have htab : c.exceptionTable.toList = tableOf [(0, 10, 13, 13), (0, 10, 17, 15)] := vx_table (x := yL_sum) B (hts _ List.mem_cons_self)
  have hw0 := hts (.classLink RL 15 IAE) (by decide +kernel)
  have hw1 := hts (.classLink RL 13 IOE) (by decide +kernel)
  have hS : va_S A s.heap s.heap [] := va_S.rf
  have hl := lv_entry ([.ref a, .int x, .int y, .ref q]) (n := 5) (Nat.le_of_ble_eq_true rfl)
  rw [lg_entry_eq]
  generalize (lg_sl ([.ref a, .int x, .int y, .ref q]) ++ List.replicate (5 - (lg_sl ([.ref a, .int x, .int y, .ref q])).length) Slot.unset).toArray = ls at hl ⊢
  replace hl : lv_has ls 5 [(0, .ref a), (1, .int x), (2, .int y), (3, .ref q)] := hl
  refine lv_aload_n hx hb dL_sum_0 rfl (lv_at hl 3 rfl) ?_
  refine lv_iconst (v := nI 0) hx hb dL_sum_1 (by decide) ?_
  refine lv_aload_n hx hb dL_sum_2 rfl (lv_at hl 0 rfl) ?_
  refine lv_iload_n hx hb dL_sum_3 rfl (lv_at hl 1 rfl) ?_
  refine lv_iload_n hx hb dL_sum_4 rfl (lv_at hl 2 rfl) ?_
  refine h_thVc (As := [.int x, .int y]) (rest := [.int (nI 0), .ref q]) hF hc 2 gL_sum_X2_sum rfl (by decide +kernel) ⟨by show fr + 1 ≤ 10; omega, by show 8 + (5 + 11) + lo ≤ 330; omega⟩ hK0 hV0 hA hZ0 hS hxo rfl rfl rfl hl.1 rfl (Nat.le_of_ble_eq_true rfl) ⟨(Nat.le_of_ble_eq_true rfl), (Nat.le_of_ble_eq_true rfl)⟩ dL_sum_5 (name := IAE) [⟨0, 10, 13, 13⟩] ⟨0, 10, 17, 15⟩ [] (htab.trans rfl) (fun z hz => by cases List.mem_singleton.mp hz; exact Or.inr ⟨by decide, IOE, hw1, hZ0.2.2.2.2.2.2.2.2.2.1⟩) (by decide) (by decide) hw0 (va_Nw.use rfl hZ0.2.2.2.2.1) (fun q9 H locs hV0 hS => ?_)
  refine lv_astore (lv' := [(4, .ref q9), (0, .ref a), (1, .int x), (2, .int y), (3, .ref q)]) hx hb dL_sum_17 hl (by decide) rfl (fun ls hl => ?_)
  refine lv_iconst (v := nI 2) hx hb dL_sum_19 (by decide) ?_
  exact W.iret hx hb hr (h_qW ⟨rfl, rfl⟩ hV0 hA0 hS) hS.2.2 dL_sum_20 hlocks

set_option maxHeartbeats 1000000 in
set_option maxRecDepth 100000 in
theorem hL_run (l : Launch) (G : hG) (A : Nat → Prop) (hp : HP) (hA0 : hIn A hp) (a q : Nat) (x y z : Int32) (fs : List Value) (hxo : hp a = some (eO 2 fs)) (fr lo : Nat) (hfr : fr ≤ 9) (hlo : lo ≤ 290) (R1 : HP → Prop) (r : Int32) (hRq : ∀ hp1, R1 hp1 → ∃ f, hp1 q = some (eJ 1 f)) (hc : hWr l yX2_run wsX2_run fr lo 0 0 G A hp [.ref a, .int x, .int y, .int z] (fun ro hp1 => ro = some (.int (r)) ∧ R1 hp1)) : hWt l yL_run wsL_run 10 330 1 6 G A hp [.ref a, .int x, .int y, .int z, .ref q] (fun ro hp' => ro = some (.int (nI 0)) ∧ ∃ (hp1 : HP) (f1 : Nat → Int64), R1 hp1 ∧ hp' = hput hp1 q (eJ 1 f1) ∧ f1 0 = r.toInt64) := by
  refine va_MetW (cc := cL_run) (maxL := 6) (ret := some .int) (hh := [(0, 12, 15, 13)]) (by decide) rfl ?_
  intro p e s m args below meth c s₁ B hml hv
  obtain ⟨rfl, hV0, hK0, hA, hZ0⟩ := hv
  have hx := B.exec
  have hb := B.bytes
  have hr := B.returns
  have hts := atoms_spec (ws := wsL_run) B.pre
  have hown : s.vm.findClass RL = some m.cls := findClass_of_methodNamed B.named
  have hlocks := B.notSynchronized
  have hF : CallFix p m c cL_run 6 s [.ref a, .int x, .int y, .int z, .ref q].toArray wsL_run RL := ⟨hx, hb, hml, hown, hts⟩
  have hS : va_S A s.heap s.heap [] := va_S.rf
  have hl := lv_entry ([.ref a, .int x, .int y, .int z, .ref q]) (n := 6) (Nat.le_of_ble_eq_true rfl)
  rw [lg_entry_eq]
  generalize (lg_sl ([.ref a, .int x, .int y, .int z, .ref q]) ++ List.replicate (6 - (lg_sl ([.ref a, .int x, .int y, .int z, .ref q])).length) Slot.unset).toArray = ls at hl ⊢
  replace hl : lv_has ls 6 [(0, .ref a), (1, .int x), (2, .int y), (3, .int z), (4, .ref q)] := hl
  refine lv_aload hx hb dL_run_0 (lv_at hl 4 rfl) ?_
  refine lv_iconst (v := nI 0) hx hb dL_run_2 (by decide) ?_
  refine lv_aload_n hx hb dL_run_3 rfl (lv_at hl 0 rfl) ?_
  refine lv_iload_n hx hb dL_run_4 rfl (lv_at hl 1 rfl) ?_
  refine lv_iload_n hx hb dL_run_5 rfl (lv_at hl 2 rfl) ?_
  refine lv_iload_n hx hb dL_run_6 rfl (lv_at hl 3 rfl) ?_
  refine h_wrV (As := [.int x, .int y, .int z]) (rest := [.int (nI 0), .ref q]) hF hc 3 gL_run_X2_run rfl (by decide +kernel) ⟨by show fr + 1 ≤ 10; omega, by show 8 + (5 + 11) + lo ≤ 330; omega⟩ hK0 hV0 hA hS hxo rfl rfl rfl hl.1 rfl (Nat.le_of_ble_eq_true rfl) ⟨(Nat.le_of_ble_eq_true rfl), (Nat.le_of_ble_eq_true rfl)⟩ dL_run_7 (fun ro hp1 H locs hP1 hV0 hA0 hS => ?_)
  obtain ⟨rfl, hR1⟩ := hP1
  obtain ⟨f, hq⟩ := hRq _ hR1
  refine lv_i2l (v := (r).toInt64) hx hb dL_run_10 rfl ?_
  refine h_last (i := 0) (x := (r).toInt64) hx hb hK0 hV0 hA0 hS hq (by omega) (by omega) dL_run_11 (fun H locs hV0 hA0 hS => ?_)
  refine lv_goto (tgt := 19) hx hb dL_run_12 (by decide) ?_
  refine lv_iconst (v := nI 0) hx hb dL_run_19 (by decide) ?_
  refine W.widen (k := 1) (n := 6) (by omega) (by omega) ?_
  exact W.iret hx hb hr (h_qW ⟨rfl, hp1, _, hR1, rfl, rfl⟩ hV0 hA0 hS) hS.2.2 dL_run_20 hlocks

set_option maxHeartbeats 1000000 in
set_option maxRecDepth 100000 in
theorem hL_run_IOE (l : Launch) (G : hG) (A : Nat → Prop) (hp : HP) (hA0 : hIn A hp) (a q : Nat) (x y z : Int32) (fs : List Value) (hxo : hp a = some (eO 2 fs)) (fr lo : Nat) (hfr : fr ≤ 9) (hlo : lo ≤ 290) (hc : hTh l yX2_run wsX2_run fr lo 1 6 G A hp [.ref a, .int x, .int y, .int z] IOE) : hWt l yL_run wsL_run 10 330 1 6 G A hp [.ref a, .int x, .int y, .int z, .ref q] (fun ro hp' => ro = some (.int (nI 1)) ∧ hp' = hp) := by
  refine va_MetW (cc := cL_run) (maxL := 6) (ret := some .int) (hh := [(0, 12, 15, 13)]) (by decide) rfl ?_
  intro p e s m args below meth c s₁ B hml hv
  obtain ⟨rfl, hV0, hK0, hA, hZ0⟩ := hv
  have hx := B.exec
  have hb := B.bytes
  have hr := B.returns
  have hts := atoms_spec (ws := wsL_run) B.pre
  have hown : s.vm.findClass RL = some m.cls := findClass_of_methodNamed B.named
  have hlocks := B.notSynchronized
  have hF : CallFix p m c cL_run 6 s [.ref a, .int x, .int y, .int z, .ref q].toArray wsL_run RL := ⟨hx, hb, hml, hown, hts⟩
  have htab : c.exceptionTable.toList = tableOf [(0, 12, 15, 13)] := vx_table (x := yL_run) B (hts _ List.mem_cons_self)
  have hw0 := hts (.classLink RL 13 IOE) (by decide +kernel)
  have hS : va_S A s.heap s.heap [] := va_S.rf
  have hl := lv_entry ([.ref a, .int x, .int y, .int z, .ref q]) (n := 6) (Nat.le_of_ble_eq_true rfl)
  rw [lg_entry_eq]
  generalize (lg_sl ([.ref a, .int x, .int y, .int z, .ref q]) ++ List.replicate (6 - (lg_sl ([.ref a, .int x, .int y, .int z, .ref q])).length) Slot.unset).toArray = ls at hl ⊢
  replace hl : lv_has ls 6 [(0, .ref a), (1, .int x), (2, .int y), (3, .int z), (4, .ref q)] := hl
  refine lv_aload hx hb dL_run_0 (lv_at hl 4 rfl) ?_
  refine lv_iconst (v := nI 0) hx hb dL_run_2 (by decide) ?_
  refine lv_aload_n hx hb dL_run_3 rfl (lv_at hl 0 rfl) ?_
  refine lv_iload_n hx hb dL_run_4 rfl (lv_at hl 1 rfl) ?_
  refine lv_iload_n hx hb dL_run_5 rfl (lv_at hl 2 rfl) ?_
  refine lv_iload_n hx hb dL_run_6 rfl (lv_at hl 3 rfl) ?_
  refine h_thVc (As := [.int x, .int y, .int z]) (rest := [.int (nI 0), .ref q]) hF hc 3 gL_run_X2_run rfl (by decide +kernel) ⟨by show fr + 1 ≤ 10; omega, by show 8 + (5 + 11) + lo ≤ 330; omega⟩ hK0 hV0 hA hZ0 hS hxo rfl rfl rfl hl.1 rfl (Nat.le_of_ble_eq_true rfl) ⟨(Nat.le_of_ble_eq_true rfl), (Nat.le_of_ble_eq_true rfl)⟩ dL_run_7 (name := IOE) [] ⟨0, 12, 15, 13⟩ [] (htab.trans rfl) (fun z hz => absurd hz List.not_mem_nil) (by decide) (by decide) hw0 (va_Nw.use rfl hZ0.2.2.2.1) (fun q9 H locs hV0 hS => ?_)
  refine lv_astore (lv' := [(5, .ref q9), (0, .ref a), (1, .int x), (2, .int y), (3, .int z), (4, .ref q)]) hx hb dL_run_15 hl (by decide) rfl (fun ls hl => ?_)
  refine lv_iconst (v := nI 1) hx hb dL_run_17 (by decide) ?_
  exact W.iret hx hb hr (h_qW ⟨rfl, rfl⟩ hV0 hA0 hS) hS.2.2 dL_run_18 hlocks

set_option maxHeartbeats 1000000 in
set_option maxRecDepth 100000 in
theorem hL_slip (l : Launch) (G : hG) (A : Nat → Prop) (hp : HP) (hA0 : hIn A hp) (a q : Nat) (x y z : Int32) (fs : List Value) (hxo : hp a = some (eO 2 fs)) (fr lo : Nat) (hfr : fr ≤ 9) (hlo : lo ≤ 290) (R1 : HP → Prop) (r : Int32) (hRq : ∀ hp1, R1 hp1 → ∃ f, hp1 q = some (eJ 1 f)) (hc : hWr l yX2_slip wsX2_slip fr lo 0 0 G A hp [.ref a, .int x, .int y, .int z] (fun ro hp1 => ro = some (.int (r)) ∧ R1 hp1)) : hWt l yL_slip wsL_slip 10 330 1 6 G A hp [.ref a, .int x, .int y, .int z, .ref q] (fun ro hp' => ro = some (.int (nI 0)) ∧ ∃ (hp1 : HP) (f1 : Nat → Int64), R1 hp1 ∧ hp' = hput hp1 q (eJ 1 f1) ∧ f1 0 = r.toInt64) := by
  refine va_MetW (cc := cL_slip) (maxL := 6) (ret := some .int) (hh := [(0, 12, 15, 13)]) (by decide) rfl ?_
  intro p e s m args below meth c s₁ B hml hv
  obtain ⟨rfl, hV0, hK0, hA, hZ0⟩ := hv
  have hx := B.exec
  have hb := B.bytes
  have hr := B.returns
  have hts := atoms_spec (ws := wsL_slip) B.pre
  have hown : s.vm.findClass RL = some m.cls := findClass_of_methodNamed B.named
  have hlocks := B.notSynchronized
  have hF : CallFix p m c cL_slip 6 s [.ref a, .int x, .int y, .int z, .ref q].toArray wsL_slip RL := ⟨hx, hb, hml, hown, hts⟩
  have hS : va_S A s.heap s.heap [] := va_S.rf
  have hl := lv_entry ([.ref a, .int x, .int y, .int z, .ref q]) (n := 6) (Nat.le_of_ble_eq_true rfl)
  rw [lg_entry_eq]
  generalize (lg_sl ([.ref a, .int x, .int y, .int z, .ref q]) ++ List.replicate (6 - (lg_sl ([.ref a, .int x, .int y, .int z, .ref q])).length) Slot.unset).toArray = ls at hl ⊢
  replace hl : lv_has ls 6 [(0, .ref a), (1, .int x), (2, .int y), (3, .int z), (4, .ref q)] := hl
  refine lv_aload hx hb dL_slip_0 (lv_at hl 4 rfl) ?_
  refine lv_iconst (v := nI 0) hx hb dL_slip_2 (by decide) ?_
  refine lv_aload_n hx hb dL_slip_3 rfl (lv_at hl 0 rfl) ?_
  refine lv_iload_n hx hb dL_slip_4 rfl (lv_at hl 1 rfl) ?_
  refine lv_iload_n hx hb dL_slip_5 rfl (lv_at hl 2 rfl) ?_
  refine lv_iload_n hx hb dL_slip_6 rfl (lv_at hl 3 rfl) ?_
  refine h_wrV (As := [.int x, .int y, .int z]) (rest := [.int (nI 0), .ref q]) hF hc 3 gL_slip_X2_slip rfl (by decide +kernel) ⟨by show fr + 1 ≤ 10; omega, by show 8 + (5 + 11) + lo ≤ 330; omega⟩ hK0 hV0 hA hS hxo rfl rfl rfl hl.1 rfl (Nat.le_of_ble_eq_true rfl) ⟨(Nat.le_of_ble_eq_true rfl), (Nat.le_of_ble_eq_true rfl)⟩ dL_slip_7 (fun ro hp1 H locs hP1 hV0 hA0 hS => ?_)
  obtain ⟨rfl, hR1⟩ := hP1
  obtain ⟨f, hq⟩ := hRq _ hR1
  refine lv_i2l (v := (r).toInt64) hx hb dL_slip_10 rfl ?_
  refine h_last (i := 0) (x := (r).toInt64) hx hb hK0 hV0 hA0 hS hq (by omega) (by omega) dL_slip_11 (fun H locs hV0 hA0 hS => ?_)
  refine lv_goto (tgt := 19) hx hb dL_slip_12 (by decide) ?_
  refine lv_iconst (v := nI 0) hx hb dL_slip_19 (by decide) ?_
  refine W.widen (k := 1) (n := 6) (by omega) (by omega) ?_
  exact W.iret hx hb hr (h_qW ⟨rfl, hp1, _, hR1, rfl, rfl⟩ hV0 hA0 hS) hS.2.2 dL_slip_20 hlocks

set_option maxHeartbeats 1000000 in
set_option maxRecDepth 100000 in
theorem hL_slip_IOE (l : Launch) (G : hG) (A : Nat → Prop) (hp : HP) (hA0 : hIn A hp) (a q : Nat) (x y z : Int32) (fs : List Value) (hxo : hp a = some (eO 2 fs)) (fr lo : Nat) (hfr : fr ≤ 9) (hlo : lo ≤ 290) (hc : hTh l yX2_slip wsX2_slip fr lo 1 6 G A hp [.ref a, .int x, .int y, .int z] IOE) : hWt l yL_slip wsL_slip 10 330 1 6 G A hp [.ref a, .int x, .int y, .int z, .ref q] (fun ro hp' => ro = some (.int (nI 1)) ∧ hp' = hp) := by
  refine va_MetW (cc := cL_slip) (maxL := 6) (ret := some .int) (hh := [(0, 12, 15, 13)]) (by decide) rfl ?_
  intro p e s m args below meth c s₁ B hml hv
  obtain ⟨rfl, hV0, hK0, hA, hZ0⟩ := hv
  have hx := B.exec
  have hb := B.bytes
  have hr := B.returns
  have hts := atoms_spec (ws := wsL_slip) B.pre
  have hown : s.vm.findClass RL = some m.cls := findClass_of_methodNamed B.named
  have hlocks := B.notSynchronized
  have hF : CallFix p m c cL_slip 6 s [.ref a, .int x, .int y, .int z, .ref q].toArray wsL_slip RL := ⟨hx, hb, hml, hown, hts⟩
  have htab : c.exceptionTable.toList = tableOf [(0, 12, 15, 13)] := vx_table (x := yL_slip) B (hts _ List.mem_cons_self)
  have hw0 := hts (.classLink RL 13 IOE) (by decide +kernel)
  have hS : va_S A s.heap s.heap [] := va_S.rf
  have hl := lv_entry ([.ref a, .int x, .int y, .int z, .ref q]) (n := 6) (Nat.le_of_ble_eq_true rfl)
  rw [lg_entry_eq]
  generalize (lg_sl ([.ref a, .int x, .int y, .int z, .ref q]) ++ List.replicate (6 - (lg_sl ([.ref a, .int x, .int y, .int z, .ref q])).length) Slot.unset).toArray = ls at hl ⊢
  replace hl : lv_has ls 6 [(0, .ref a), (1, .int x), (2, .int y), (3, .int z), (4, .ref q)] := hl
  refine lv_aload hx hb dL_slip_0 (lv_at hl 4 rfl) ?_
  refine lv_iconst (v := nI 0) hx hb dL_slip_2 (by decide) ?_
  refine lv_aload_n hx hb dL_slip_3 rfl (lv_at hl 0 rfl) ?_
  refine lv_iload_n hx hb dL_slip_4 rfl (lv_at hl 1 rfl) ?_
  refine lv_iload_n hx hb dL_slip_5 rfl (lv_at hl 2 rfl) ?_
  refine lv_iload_n hx hb dL_slip_6 rfl (lv_at hl 3 rfl) ?_
  refine h_thVc (As := [.int x, .int y, .int z]) (rest := [.int (nI 0), .ref q]) hF hc 3 gL_slip_X2_slip rfl (by decide +kernel) ⟨by show fr + 1 ≤ 10; omega, by show 8 + (5 + 11) + lo ≤ 330; omega⟩ hK0 hV0 hA hZ0 hS hxo rfl rfl rfl hl.1 rfl (Nat.le_of_ble_eq_true rfl) ⟨(Nat.le_of_ble_eq_true rfl), (Nat.le_of_ble_eq_true rfl)⟩ dL_slip_7 (name := IOE) [] ⟨0, 12, 15, 13⟩ [] (htab.trans rfl) (fun z hz => absurd hz List.not_mem_nil) (by decide) (by decide) hw0 (va_Nw.use rfl hZ0.2.2.2.1) (fun q9 H locs hV0 hS => ?_)
  refine lv_astore (lv' := [(5, .ref q9), (0, .ref a), (1, .int x), (2, .int y), (3, .int z), (4, .ref q)]) hx hb dL_slip_15 hl (by decide) rfl (fun ls hl => ?_)
  refine lv_iconst (v := nI 1) hx hb dL_slip_17 (by decide) ?_
  exact W.iret hx hb hr (h_qW ⟨rfl, rfl⟩ hV0 hA0 hS) hS.2.2 dL_slip_18 hlocks

set_option maxHeartbeats 1000000 in
set_option maxRecDepth 100000 in
theorem hL_desk (l : Launch) (G : hG) (A : Nat → Prop) (hp : HP) (hA0 : hIn A hp) (a q : Nat) (x : Int32) (fs : List Value) (hxo : hp a = some (eO 2 fs)) (fr lo : Nat) (hfr : fr ≤ 9) (hlo : lo ≤ 290) (R1 : HP → Prop) (r : Int32) (hRq : ∀ hp1, R1 hp1 → ∃ f, hp1 q = some (eJ 1 f)) (hc : hWr l yX2_desk wsX2_desk fr lo 0 0 G A hp [.ref a, .int x] (fun ro hp1 => ro = some (.int (r)) ∧ R1 hp1)) : hWt l yL_desk wsL_desk 10 330 1 6 G A hp [.ref a, .int x, .ref q] (fun ro hp' => ro = some (.int (nI 0)) ∧ ∃ (hp1 : HP) (f1 : Nat → Int64), R1 hp1 ∧ hp' = hput hp1 q (eJ 1 f1) ∧ f1 0 = r.toInt64) := by
  refine va_MetW (cc := cL_desk) (maxL := 4) (ret := some .int) (hh := [(0, 9, 12, 13)]) (by decide) rfl ?_
  intro p e s m args below meth c s₁ B hml hv
  obtain ⟨rfl, hV0, hK0, hA, hZ0⟩ := hv
  have hx := B.exec
  have hb := B.bytes
  have hr := B.returns
  have hts := atoms_spec (ws := wsL_desk) B.pre
  have hown : s.vm.findClass RL = some m.cls := findClass_of_methodNamed B.named
  have hlocks := B.notSynchronized
  have hF : CallFix p m c cL_desk 4 s [.ref a, .int x, .ref q].toArray wsL_desk RL := ⟨hx, hb, hml, hown, hts⟩
  have hS : va_S A s.heap s.heap [] := va_S.rf
  have hl := lv_entry ([.ref a, .int x, .ref q]) (n := 4) (Nat.le_of_ble_eq_true rfl)
  rw [lg_entry_eq]
  generalize (lg_sl ([.ref a, .int x, .ref q]) ++ List.replicate (4 - (lg_sl ([.ref a, .int x, .ref q])).length) Slot.unset).toArray = ls at hl ⊢
  replace hl : lv_has ls 4 [(0, .ref a), (1, .int x), (2, .ref q)] := hl
  refine lv_aload_n hx hb dL_desk_0 rfl (lv_at hl 2 rfl) ?_
  refine lv_iconst (v := nI 0) hx hb dL_desk_1 (by decide) ?_
  refine lv_aload_n hx hb dL_desk_2 rfl (lv_at hl 0 rfl) ?_
  refine lv_iload_n hx hb dL_desk_3 rfl (lv_at hl 1 rfl) ?_
  refine h_wrV (As := [.int x]) (rest := [.int (nI 0), .ref q]) hF hc 1 gL_desk_X2_desk rfl (by decide +kernel) ⟨by show fr + 1 ≤ 10; omega, by show 8 + (2 + 11) + lo ≤ 330; omega⟩ hK0 hV0 hA hS hxo rfl rfl rfl hl.1 rfl (Nat.le_of_ble_eq_true rfl) ⟨(Nat.le_of_ble_eq_true rfl), (Nat.le_of_ble_eq_true rfl)⟩ dL_desk_4 (fun ro hp1 H locs hP1 hV0 hA0 hS => ?_)
  obtain ⟨rfl, hR1⟩ := hP1
  obtain ⟨f, hq⟩ := hRq _ hR1
  refine lv_i2l (v := (r).toInt64) hx hb dL_desk_7 rfl ?_
  refine h_last (i := 0) (x := (r).toInt64) hx hb hK0 hV0 hA0 hS hq (by omega) (by omega) dL_desk_8 (fun H locs hV0 hA0 hS => ?_)
  refine lv_goto (tgt := 15) hx hb dL_desk_9 (by decide) ?_
  refine lv_iconst (v := nI 0) hx hb dL_desk_15 (by decide) ?_
  refine W.widen (k := 1) (n := 6) (by omega) (by omega) ?_
  exact W.iret hx hb hr (h_qW ⟨rfl, hp1, _, hR1, rfl, rfl⟩ hV0 hA0 hS) hS.2.2 dL_desk_16 hlocks

set_option maxHeartbeats 1000000 in
set_option maxRecDepth 100000 in
theorem hL_desk_IOE (l : Launch) (G : hG) (A : Nat → Prop) (hp : HP) (hA0 : hIn A hp) (a q : Nat) (x : Int32) (fs : List Value) (hxo : hp a = some (eO 2 fs)) (fr lo : Nat) (hfr : fr ≤ 9) (hlo : lo ≤ 290) (hc : hTh l yX2_desk wsX2_desk fr lo 1 6 G A hp [.ref a, .int x] IOE) : hWt l yL_desk wsL_desk 10 330 1 6 G A hp [.ref a, .int x, .ref q] (fun ro hp' => ro = some (.int (nI 1)) ∧ hp' = hp) := by
  refine va_MetW (cc := cL_desk) (maxL := 4) (ret := some .int) (hh := [(0, 9, 12, 13)]) (by decide) rfl ?_
  intro p e s m args below meth c s₁ B hml hv
  obtain ⟨rfl, hV0, hK0, hA, hZ0⟩ := hv
  have hx := B.exec
  have hb := B.bytes
  have hr := B.returns
  have hts := atoms_spec (ws := wsL_desk) B.pre
  have hown : s.vm.findClass RL = some m.cls := findClass_of_methodNamed B.named
  have hlocks := B.notSynchronized
  have hF : CallFix p m c cL_desk 4 s [.ref a, .int x, .ref q].toArray wsL_desk RL := ⟨hx, hb, hml, hown, hts⟩
  have htab : c.exceptionTable.toList = tableOf [(0, 9, 12, 13)] := vx_table (x := yL_desk) B (hts _ List.mem_cons_self)
  have hw0 := hts (.classLink RL 13 IOE) (by decide +kernel)
  have hS : va_S A s.heap s.heap [] := va_S.rf
  have hl := lv_entry ([.ref a, .int x, .ref q]) (n := 4) (Nat.le_of_ble_eq_true rfl)
  rw [lg_entry_eq]
  generalize (lg_sl ([.ref a, .int x, .ref q]) ++ List.replicate (4 - (lg_sl ([.ref a, .int x, .ref q])).length) Slot.unset).toArray = ls at hl ⊢
  replace hl : lv_has ls 4 [(0, .ref a), (1, .int x), (2, .ref q)] := hl
  refine lv_aload_n hx hb dL_desk_0 rfl (lv_at hl 2 rfl) ?_
  refine lv_iconst (v := nI 0) hx hb dL_desk_1 (by decide) ?_
  refine lv_aload_n hx hb dL_desk_2 rfl (lv_at hl 0 rfl) ?_
  refine lv_iload_n hx hb dL_desk_3 rfl (lv_at hl 1 rfl) ?_
  refine h_thVc (As := [.int x]) (rest := [.int (nI 0), .ref q]) hF hc 1 gL_desk_X2_desk rfl (by decide +kernel) ⟨by show fr + 1 ≤ 10; omega, by show 8 + (2 + 11) + lo ≤ 330; omega⟩ hK0 hV0 hA hZ0 hS hxo rfl rfl rfl hl.1 rfl (Nat.le_of_ble_eq_true rfl) ⟨(Nat.le_of_ble_eq_true rfl), (Nat.le_of_ble_eq_true rfl)⟩ dL_desk_4 (name := IOE) [] ⟨0, 9, 12, 13⟩ [] (htab.trans rfl) (fun z hz => absurd hz List.not_mem_nil) (by decide) (by decide) hw0 (va_Nw.use rfl hZ0.2.2.2.1) (fun q9 H locs hV0 hS => ?_)
  refine lv_astore_n (lv' := [(3, .ref q9), (0, .ref a), (1, .int x), (2, .ref q)]) hx hb dL_desk_12 rfl hl (by decide) rfl (fun ls hl => ?_)
  refine lv_iconst (v := nI 1) hx hb dL_desk_13 (by decide) ?_
  exact W.iret hx hb hr (h_qW ⟨rfl, rfl⟩ hV0 hA0 hS) hS.2.2 dL_desk_14 hlocks

set_option maxHeartbeats 1000000 in
set_option maxRecDepth 100000 in
theorem hL_level (l : Launch) (G : hG) (A : Nat → Prop) (hp : HP) (hA0 : hIn A hp) (a q : Nat) (x y : Int32) (fs : List Value) (hxo : hp a = some (eO 2 fs)) (fr lo : Nat) (hfr : fr ≤ 9) (hlo : lo ≤ 290) (R1 : HP → Prop) (r : Int32) (hRq : ∀ hp1, R1 hp1 → ∃ f, hp1 q = some (eJ 1 f)) (hc : hWr l yX2_level wsX2_level fr lo 0 0 G A hp [.ref a, .int x, .int y] (fun ro hp1 => ro = some (.int (r)) ∧ R1 hp1)) : hWt l yL_level wsL_level 10 330 1 6 G A hp [.ref a, .int x, .int y, .ref q] (fun ro hp' => ro = some (.int (nI 0)) ∧ ∃ (hp1 : HP) (f1 : Nat → Int64), R1 hp1 ∧ hp' = hput hp1 q (eJ 1 f1) ∧ f1 0 = r.toInt64) := by
  refine va_MetW (cc := cL_level) (maxL := 5) (ret := some .int) (hh := [(0, 10, 13, 13)]) (by decide) rfl ?_
  intro p e s m args below meth c s₁ B hml hv
  obtain ⟨rfl, hV0, hK0, hA, hZ0⟩ := hv
  have hx := B.exec
  have hb := B.bytes
  have hr := B.returns
  have hts := atoms_spec (ws := wsL_level) B.pre
  have hown : s.vm.findClass RL = some m.cls := findClass_of_methodNamed B.named
  have hlocks := B.notSynchronized
  have hF : CallFix p m c cL_level 5 s [.ref a, .int x, .int y, .ref q].toArray wsL_level RL := ⟨hx, hb, hml, hown, hts⟩
  have hS : va_S A s.heap s.heap [] := va_S.rf
  have hl := lv_entry ([.ref a, .int x, .int y, .ref q]) (n := 5) (Nat.le_of_ble_eq_true rfl)
  rw [lg_entry_eq]
  generalize (lg_sl ([.ref a, .int x, .int y, .ref q]) ++ List.replicate (5 - (lg_sl ([.ref a, .int x, .int y, .ref q])).length) Slot.unset).toArray = ls at hl ⊢
  replace hl : lv_has ls 5 [(0, .ref a), (1, .int x), (2, .int y), (3, .ref q)] := hl
  refine lv_aload_n hx hb dL_level_0 rfl (lv_at hl 3 rfl) ?_
  refine lv_iconst (v := nI 0) hx hb dL_level_1 (by decide) ?_
  refine lv_aload_n hx hb dL_level_2 rfl (lv_at hl 0 rfl) ?_
  refine lv_iload_n hx hb dL_level_3 rfl (lv_at hl 1 rfl) ?_
  refine lv_iload_n hx hb dL_level_4 rfl (lv_at hl 2 rfl) ?_
  refine h_wrV (As := [.int x, .int y]) (rest := [.int (nI 0), .ref q]) hF hc 2 gL_level_X2_level rfl (by decide +kernel) ⟨by show fr + 1 ≤ 10; omega, by show 8 + (3 + 11) + lo ≤ 330; omega⟩ hK0 hV0 hA hS hxo rfl rfl rfl hl.1 rfl (Nat.le_of_ble_eq_true rfl) ⟨(Nat.le_of_ble_eq_true rfl), (Nat.le_of_ble_eq_true rfl)⟩ dL_level_5 (fun ro hp1 H locs hP1 hV0 hA0 hS => ?_)
  obtain ⟨rfl, hR1⟩ := hP1
  obtain ⟨f, hq⟩ := hRq _ hR1
  refine lv_i2l (v := (r).toInt64) hx hb dL_level_8 rfl ?_
  refine h_last (i := 0) (x := (r).toInt64) hx hb hK0 hV0 hA0 hS hq (by omega) (by omega) dL_level_9 (fun H locs hV0 hA0 hS => ?_)
  refine lv_goto (tgt := 17) hx hb dL_level_10 (by decide) ?_
  refine lv_iconst (v := nI 0) hx hb dL_level_17 (by decide) ?_
  refine W.widen (k := 1) (n := 6) (by omega) (by omega) ?_
  exact W.iret hx hb hr (h_qW ⟨rfl, hp1, _, hR1, rfl, rfl⟩ hV0 hA0 hS) hS.2.2 dL_level_18 hlocks

set_option maxHeartbeats 1000000 in
set_option maxRecDepth 100000 in
theorem hL_level_IOE (l : Launch) (G : hG) (A : Nat → Prop) (hp : HP) (hA0 : hIn A hp) (a q : Nat) (x y : Int32) (fs : List Value) (hxo : hp a = some (eO 2 fs)) (fr lo : Nat) (hfr : fr ≤ 9) (hlo : lo ≤ 290) (hc : hTh l yX2_level wsX2_level fr lo 1 6 G A hp [.ref a, .int x, .int y] IOE) : hWt l yL_level wsL_level 10 330 1 6 G A hp [.ref a, .int x, .int y, .ref q] (fun ro hp' => ro = some (.int (nI 1)) ∧ hp' = hp) := by
  refine va_MetW (cc := cL_level) (maxL := 5) (ret := some .int) (hh := [(0, 10, 13, 13)]) (by decide) rfl ?_
  intro p e s m args below meth c s₁ B hml hv
  obtain ⟨rfl, hV0, hK0, hA, hZ0⟩ := hv
  have hx := B.exec
  have hb := B.bytes
  have hr := B.returns
  have hts := atoms_spec (ws := wsL_level) B.pre
  have hown : s.vm.findClass RL = some m.cls := findClass_of_methodNamed B.named
  have hlocks := B.notSynchronized
  have hF : CallFix p m c cL_level 5 s [.ref a, .int x, .int y, .ref q].toArray wsL_level RL := ⟨hx, hb, hml, hown, hts⟩
  have htab : c.exceptionTable.toList = tableOf [(0, 10, 13, 13)] := vx_table (x := yL_level) B (hts _ List.mem_cons_self)
  have hw0 := hts (.classLink RL 13 IOE) (by decide +kernel)
  have hS : va_S A s.heap s.heap [] := va_S.rf
  have hl := lv_entry ([.ref a, .int x, .int y, .ref q]) (n := 5) (Nat.le_of_ble_eq_true rfl)
  rw [lg_entry_eq]
  generalize (lg_sl ([.ref a, .int x, .int y, .ref q]) ++ List.replicate (5 - (lg_sl ([.ref a, .int x, .int y, .ref q])).length) Slot.unset).toArray = ls at hl ⊢
  replace hl : lv_has ls 5 [(0, .ref a), (1, .int x), (2, .int y), (3, .ref q)] := hl
  refine lv_aload_n hx hb dL_level_0 rfl (lv_at hl 3 rfl) ?_
  refine lv_iconst (v := nI 0) hx hb dL_level_1 (by decide) ?_
  refine lv_aload_n hx hb dL_level_2 rfl (lv_at hl 0 rfl) ?_
  refine lv_iload_n hx hb dL_level_3 rfl (lv_at hl 1 rfl) ?_
  refine lv_iload_n hx hb dL_level_4 rfl (lv_at hl 2 rfl) ?_
  refine h_thVc (As := [.int x, .int y]) (rest := [.int (nI 0), .ref q]) hF hc 2 gL_level_X2_level rfl (by decide +kernel) ⟨by show fr + 1 ≤ 10; omega, by show 8 + (3 + 11) + lo ≤ 330; omega⟩ hK0 hV0 hA hZ0 hS hxo rfl rfl rfl hl.1 rfl (Nat.le_of_ble_eq_true rfl) ⟨(Nat.le_of_ble_eq_true rfl), (Nat.le_of_ble_eq_true rfl)⟩ dL_level_5 (name := IOE) [] ⟨0, 10, 13, 13⟩ [] (htab.trans rfl) (fun z hz => absurd hz List.not_mem_nil) (by decide) (by decide) hw0 (va_Nw.use rfl hZ0.2.2.2.1) (fun q9 H locs hV0 hS => ?_)
  refine lv_astore (lv' := [(4, .ref q9), (0, .ref a), (1, .int x), (2, .int y), (3, .ref q)]) hx hb dL_level_13 hl (by decide) rfl (fun ls hl => ?_)
  refine lv_iconst (v := nI 1) hx hb dL_level_15 (by decide) ?_
  exact W.iret hx hb hr (h_qW ⟨rfl, rfl⟩ hV0 hA0 hS) hS.2.2 dL_level_16 hlocks

set_option maxHeartbeats 1000000 in
set_option maxRecDepth 100000 in
theorem hL_count (l : Launch) (G : hG) (A : Nat → Prop) (hp : HP) (hA0 : hIn A hp) (a q : Nat) (x : Int32) (fs : List Value) (hxo : hp a = some (eO 2 fs)) (fr lo : Nat) (hfr : fr ≤ 9) (hlo : lo ≤ 290) (R1 : HP → Prop) (r : Int32) (hRq : ∀ hp1, R1 hp1 → ∃ f, hp1 q = some (eJ 1 f)) (hc : hWr l yX2_count wsX2_count fr lo 0 0 G A hp [.ref a, .int x] (fun ro hp1 => ro = some (.int (r)) ∧ R1 hp1)) : hWt l yL_count wsL_count 10 330 1 6 G A hp [.ref a, .int x, .ref q] (fun ro hp' => ro = some (.int (nI 0)) ∧ ∃ (hp1 : HP) (f1 : Nat → Int64), R1 hp1 ∧ hp' = hput hp1 q (eJ 1 f1) ∧ f1 0 = r.toInt64) := by
  refine va_MetW (cc := cL_count) (maxL := 4) (ret := some .int) (hh := [(0, 9, 12, 13)]) (by decide) rfl ?_
  intro p e s m args below meth c s₁ B hml hv
  obtain ⟨rfl, hV0, hK0, hA, hZ0⟩ := hv
  have hx := B.exec
  have hb := B.bytes
  have hr := B.returns
  have hts := atoms_spec (ws := wsL_count) B.pre
  have hown : s.vm.findClass RL = some m.cls := findClass_of_methodNamed B.named
  have hlocks := B.notSynchronized
  have hF : CallFix p m c cL_count 4 s [.ref a, .int x, .ref q].toArray wsL_count RL := ⟨hx, hb, hml, hown, hts⟩
  have hS : va_S A s.heap s.heap [] := va_S.rf
  have hl := lv_entry ([.ref a, .int x, .ref q]) (n := 4) (Nat.le_of_ble_eq_true rfl)
  rw [lg_entry_eq]
  generalize (lg_sl ([.ref a, .int x, .ref q]) ++ List.replicate (4 - (lg_sl ([.ref a, .int x, .ref q])).length) Slot.unset).toArray = ls at hl ⊢
  replace hl : lv_has ls 4 [(0, .ref a), (1, .int x), (2, .ref q)] := hl
  refine lv_aload_n hx hb dL_count_0 rfl (lv_at hl 2 rfl) ?_
  refine lv_iconst (v := nI 0) hx hb dL_count_1 (by decide) ?_
  refine lv_aload_n hx hb dL_count_2 rfl (lv_at hl 0 rfl) ?_
  refine lv_iload_n hx hb dL_count_3 rfl (lv_at hl 1 rfl) ?_
  refine h_wrV (As := [.int x]) (rest := [.int (nI 0), .ref q]) hF hc 1 gL_count_X2_count rfl (by decide +kernel) ⟨by show fr + 1 ≤ 10; omega, by show 8 + (2 + 11) + lo ≤ 330; omega⟩ hK0 hV0 hA hS hxo rfl rfl rfl hl.1 rfl (Nat.le_of_ble_eq_true rfl) ⟨(Nat.le_of_ble_eq_true rfl), (Nat.le_of_ble_eq_true rfl)⟩ dL_count_4 (fun ro hp1 H locs hP1 hV0 hA0 hS => ?_)
  obtain ⟨rfl, hR1⟩ := hP1
  obtain ⟨f, hq⟩ := hRq _ hR1
  refine lv_i2l (v := (r).toInt64) hx hb dL_count_7 rfl ?_
  refine h_last (i := 0) (x := (r).toInt64) hx hb hK0 hV0 hA0 hS hq (by omega) (by omega) dL_count_8 (fun H locs hV0 hA0 hS => ?_)
  refine lv_goto (tgt := 15) hx hb dL_count_9 (by decide) ?_
  refine lv_iconst (v := nI 0) hx hb dL_count_15 (by decide) ?_
  refine W.widen (k := 1) (n := 6) (by omega) (by omega) ?_
  exact W.iret hx hb hr (h_qW ⟨rfl, hp1, _, hR1, rfl, rfl⟩ hV0 hA0 hS) hS.2.2 dL_count_16 hlocks

set_option maxHeartbeats 1000000 in
set_option maxRecDepth 100000 in
theorem hL_count_IOE (l : Launch) (G : hG) (A : Nat → Prop) (hp : HP) (hA0 : hIn A hp) (a q : Nat) (x : Int32) (fs : List Value) (hxo : hp a = some (eO 2 fs)) (fr lo : Nat) (hfr : fr ≤ 9) (hlo : lo ≤ 290) (hc : hTh l yX2_count wsX2_count fr lo 1 6 G A hp [.ref a, .int x] IOE) : hWt l yL_count wsL_count 10 330 1 6 G A hp [.ref a, .int x, .ref q] (fun ro hp' => ro = some (.int (nI 1)) ∧ hp' = hp) := by
  refine va_MetW (cc := cL_count) (maxL := 4) (ret := some .int) (hh := [(0, 9, 12, 13)]) (by decide) rfl ?_
  intro p e s m args below meth c s₁ B hml hv
  obtain ⟨rfl, hV0, hK0, hA, hZ0⟩ := hv
  have hx := B.exec
  have hb := B.bytes
  have hr := B.returns
  have hts := atoms_spec (ws := wsL_count) B.pre
  have hown : s.vm.findClass RL = some m.cls := findClass_of_methodNamed B.named
  have hlocks := B.notSynchronized
  have hF : CallFix p m c cL_count 4 s [.ref a, .int x, .ref q].toArray wsL_count RL := ⟨hx, hb, hml, hown, hts⟩
  have htab : c.exceptionTable.toList = tableOf [(0, 9, 12, 13)] := vx_table (x := yL_count) B (hts _ List.mem_cons_self)
  have hw0 := hts (.classLink RL 13 IOE) (by decide +kernel)
  have hS : va_S A s.heap s.heap [] := va_S.rf
  have hl := lv_entry ([.ref a, .int x, .ref q]) (n := 4) (Nat.le_of_ble_eq_true rfl)
  rw [lg_entry_eq]
  generalize (lg_sl ([.ref a, .int x, .ref q]) ++ List.replicate (4 - (lg_sl ([.ref a, .int x, .ref q])).length) Slot.unset).toArray = ls at hl ⊢
  replace hl : lv_has ls 4 [(0, .ref a), (1, .int x), (2, .ref q)] := hl
  refine lv_aload_n hx hb dL_count_0 rfl (lv_at hl 2 rfl) ?_
  refine lv_iconst (v := nI 0) hx hb dL_count_1 (by decide) ?_
  refine lv_aload_n hx hb dL_count_2 rfl (lv_at hl 0 rfl) ?_
  refine lv_iload_n hx hb dL_count_3 rfl (lv_at hl 1 rfl) ?_
  refine h_thVc (As := [.int x]) (rest := [.int (nI 0), .ref q]) hF hc 1 gL_count_X2_count rfl (by decide +kernel) ⟨by show fr + 1 ≤ 10; omega, by show 8 + (2 + 11) + lo ≤ 330; omega⟩ hK0 hV0 hA hZ0 hS hxo rfl rfl rfl hl.1 rfl (Nat.le_of_ble_eq_true rfl) ⟨(Nat.le_of_ble_eq_true rfl), (Nat.le_of_ble_eq_true rfl)⟩ dL_count_4 (name := IOE) [] ⟨0, 9, 12, 13⟩ [] (htab.trans rfl) (fun z hz => absurd hz List.not_mem_nil) (by decide) (by decide) hw0 (va_Nw.use rfl hZ0.2.2.2.1) (fun q9 H locs hV0 hS => ?_)
  refine lv_astore_n (lv' := [(3, .ref q9), (0, .ref a), (1, .int x), (2, .ref q)]) hx hb dL_count_12 rfl hl (by decide) rfl (fun ls hl => ?_)
  refine lv_iconst (v := nI 1) hx hb dL_count_13 (by decide) ?_
  exact W.iret hx hb hr (h_qW ⟨rfl, rfl⟩ hV0 hA0 hS) hS.2.2 dL_count_14 hlocks

set_option maxHeartbeats 1000000 in
set_option maxRecDepth 100000 in
theorem hL_spares (l : Launch) (G : hG) (A : Nat → Prop) (hp : HP) (hA0 : hIn A hp) (a q : Nat) (x : Int32) (fs : List Value) (hxo : hp a = some (eO 2 fs)) (fr lo : Nat) (hfr : fr ≤ 9) (hlo : lo ≤ 290) (R1 : HP → Prop) (r : Int32) (hRq : ∀ hp1, R1 hp1 → ∃ f, hp1 q = some (eJ 1 f)) (hc : hWr l yX2_spares wsX2_spares fr lo 0 0 G A hp [.ref a, .int x] (fun ro hp1 => ro = some (.int (r)) ∧ R1 hp1)) : hWt l yL_spares wsL_spares 10 330 1 6 G A hp [.ref a, .int x, .ref q] (fun ro hp' => ro = some (.int (nI 0)) ∧ ∃ (hp1 : HP) (f1 : Nat → Int64), R1 hp1 ∧ hp' = hput hp1 q (eJ 1 f1) ∧ f1 0 = r.toInt64) := by
  refine va_MetW (cc := cL_spares) (maxL := 4) (ret := some .int) (hh := [(0, 9, 12, 13)]) (by decide) rfl ?_
  intro p e s m args below meth c s₁ B hml hv
  obtain ⟨rfl, hV0, hK0, hA, hZ0⟩ := hv
  have hx := B.exec
  have hb := B.bytes
  have hr := B.returns
  have hts := atoms_spec (ws := wsL_spares) B.pre
  have hown : s.vm.findClass RL = some m.cls := findClass_of_methodNamed B.named
  have hlocks := B.notSynchronized
  have hF : CallFix p m c cL_spares 4 s [.ref a, .int x, .ref q].toArray wsL_spares RL := ⟨hx, hb, hml, hown, hts⟩
  have hS : va_S A s.heap s.heap [] := va_S.rf
  have hl := lv_entry ([.ref a, .int x, .ref q]) (n := 4) (Nat.le_of_ble_eq_true rfl)
  rw [lg_entry_eq]
  generalize (lg_sl ([.ref a, .int x, .ref q]) ++ List.replicate (4 - (lg_sl ([.ref a, .int x, .ref q])).length) Slot.unset).toArray = ls at hl ⊢
  replace hl : lv_has ls 4 [(0, .ref a), (1, .int x), (2, .ref q)] := hl
  refine lv_aload_n hx hb dL_spares_0 rfl (lv_at hl 2 rfl) ?_
  refine lv_iconst (v := nI 0) hx hb dL_spares_1 (by decide) ?_
  refine lv_aload_n hx hb dL_spares_2 rfl (lv_at hl 0 rfl) ?_
  refine lv_iload_n hx hb dL_spares_3 rfl (lv_at hl 1 rfl) ?_
  refine h_wrV (As := [.int x]) (rest := [.int (nI 0), .ref q]) hF hc 1 gL_spares_X2_spares rfl (by decide +kernel) ⟨by show fr + 1 ≤ 10; omega, by show 8 + (2 + 11) + lo ≤ 330; omega⟩ hK0 hV0 hA hS hxo rfl rfl rfl hl.1 rfl (Nat.le_of_ble_eq_true rfl) ⟨(Nat.le_of_ble_eq_true rfl), (Nat.le_of_ble_eq_true rfl)⟩ dL_spares_4 (fun ro hp1 H locs hP1 hV0 hA0 hS => ?_)
  obtain ⟨rfl, hR1⟩ := hP1
  obtain ⟨f, hq⟩ := hRq _ hR1
  refine lv_i2l (v := (r).toInt64) hx hb dL_spares_7 rfl ?_
  refine h_last (i := 0) (x := (r).toInt64) hx hb hK0 hV0 hA0 hS hq (by omega) (by omega) dL_spares_8 (fun H locs hV0 hA0 hS => ?_)
  refine lv_goto (tgt := 15) hx hb dL_spares_9 (by decide) ?_
  refine lv_iconst (v := nI 0) hx hb dL_spares_15 (by decide) ?_
  refine W.widen (k := 1) (n := 6) (by omega) (by omega) ?_
  exact W.iret hx hb hr (h_qW ⟨rfl, hp1, _, hR1, rfl, rfl⟩ hV0 hA0 hS) hS.2.2 dL_spares_16 hlocks

set_option maxHeartbeats 1000000 in
set_option maxRecDepth 100000 in
theorem hL_spares_IOE (l : Launch) (G : hG) (A : Nat → Prop) (hp : HP) (hA0 : hIn A hp) (a q : Nat) (x : Int32) (fs : List Value) (hxo : hp a = some (eO 2 fs)) (fr lo : Nat) (hfr : fr ≤ 9) (hlo : lo ≤ 290) (hc : hTh l yX2_spares wsX2_spares fr lo 1 6 G A hp [.ref a, .int x] IOE) : hWt l yL_spares wsL_spares 10 330 1 6 G A hp [.ref a, .int x, .ref q] (fun ro hp' => ro = some (.int (nI 1)) ∧ hp' = hp) := by
  refine va_MetW (cc := cL_spares) (maxL := 4) (ret := some .int) (hh := [(0, 9, 12, 13)]) (by decide) rfl ?_
  intro p e s m args below meth c s₁ B hml hv
  obtain ⟨rfl, hV0, hK0, hA, hZ0⟩ := hv
  have hx := B.exec
  have hb := B.bytes
  have hr := B.returns
  have hts := atoms_spec (ws := wsL_spares) B.pre
  have hown : s.vm.findClass RL = some m.cls := findClass_of_methodNamed B.named
  have hlocks := B.notSynchronized
  have hF : CallFix p m c cL_spares 4 s [.ref a, .int x, .ref q].toArray wsL_spares RL := ⟨hx, hb, hml, hown, hts⟩
  have htab : c.exceptionTable.toList = tableOf [(0, 9, 12, 13)] := vx_table (x := yL_spares) B (hts _ List.mem_cons_self)
  have hw0 := hts (.classLink RL 13 IOE) (by decide +kernel)
  have hS : va_S A s.heap s.heap [] := va_S.rf
  have hl := lv_entry ([.ref a, .int x, .ref q]) (n := 4) (Nat.le_of_ble_eq_true rfl)
  rw [lg_entry_eq]
  generalize (lg_sl ([.ref a, .int x, .ref q]) ++ List.replicate (4 - (lg_sl ([.ref a, .int x, .ref q])).length) Slot.unset).toArray = ls at hl ⊢
  replace hl : lv_has ls 4 [(0, .ref a), (1, .int x), (2, .ref q)] := hl
  refine lv_aload_n hx hb dL_spares_0 rfl (lv_at hl 2 rfl) ?_
  refine lv_iconst (v := nI 0) hx hb dL_spares_1 (by decide) ?_
  refine lv_aload_n hx hb dL_spares_2 rfl (lv_at hl 0 rfl) ?_
  refine lv_iload_n hx hb dL_spares_3 rfl (lv_at hl 1 rfl) ?_
  refine h_thVc (As := [.int x]) (rest := [.int (nI 0), .ref q]) hF hc 1 gL_spares_X2_spares rfl (by decide +kernel) ⟨by show fr + 1 ≤ 10; omega, by show 8 + (2 + 11) + lo ≤ 330; omega⟩ hK0 hV0 hA hZ0 hS hxo rfl rfl rfl hl.1 rfl (Nat.le_of_ble_eq_true rfl) ⟨(Nat.le_of_ble_eq_true rfl), (Nat.le_of_ble_eq_true rfl)⟩ dL_spares_4 (name := IOE) [] ⟨0, 9, 12, 13⟩ [] (htab.trans rfl) (fun z hz => absurd hz List.not_mem_nil) (by decide) (by decide) hw0 (va_Nw.use rfl hZ0.2.2.2.1) (fun q9 H locs hV0 hS => ?_)
  refine lv_astore_n (lv' := [(3, .ref q9), (0, .ref a), (1, .int x), (2, .ref q)]) hx hb dL_spares_12 rfl hl (by decide) rfl (fun ls hl => ?_)
  refine lv_iconst (v := nI 1) hx hb dL_spares_13 (by decide) ?_
  exact W.iret hx hb hr (h_qW ⟨rfl, rfl⟩ hV0 hA0 hS) hS.2.2 dL_spares_14 hlocks
