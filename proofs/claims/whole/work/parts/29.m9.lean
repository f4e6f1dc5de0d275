theorem cm_one {V : BV} {l : Nat} {f : Row} (h : ∀ l, l < 4 → bN V l ≤ 2) : oneB (bN (cmB V l f)) l := fun l2 h2 hne => by
  rw [bN_cmB, if_neg hne]
  exact h l2 h2
theorem room_n {v : Int32} (h : v < nI 1 ∨ nI 8 < v) : (decide (nI 1 ≤ v) && decide (v ≤ nI 8)) = false := by
  rcases h with h | h
  · rw [decide_eq_false (Int32.not_le.mpr h)]; rfl
  · rw [decide_eq_false (p := v ≤ nI 8) (Int32.not_le.mpr h), Bool.and_false]
theorem room_y {r : Nat} (h1 : 1 ≤ r) (h8 : r ≤ 8) : (decide (nI 1 ≤ nI r) && decide (nI r ≤ nI 8)) = true := by
  rw [decide_eq_true ((nI_leI (by omega) (by omega)).mpr h1), decide_eq_true ((nI_leI (by omega) (by omega)).mpr h8)]; rfl

set_option maxHeartbeats 1000000 in
set_option maxRecDepth 100000 in
theorem c_X3_settle (l : Launch) (G : hG) (A : Nat → Prop) (hp : HP) (X : Nat → Prop) (mo dk lv nb : Nat) (lvl : Nat → Nat) (row : Nat → Nat → Nat) (th : Int32) (d : Row) (V : BV) (rm dt : Int32) (hm : mA mo dk lv nb lvl row th d V rm dt hp) (hX : mX X mo dk lv nb hp) (hD : mD dk row V) (L : Nat) (h1 : oneB (bN V) L) (hA0 : hIn A hp) : hWr l yX3_settle wsX3_settle 3 73 12 268 G A hp [.ref mo] (fun ro hp' => ro = none ∧ mPk X mo dk lv nb th d (stB V 4) rm dt hp hp') := by
  refine Met.ofW (cc := cX3_settle) (maxL := 2) (ret := none) (by decide) rfl ?_
  intro p e s m args below meth c s₁ B hml hv
  obtain ⟨rfl, hV0, hK0, hA⟩ := hv
  have hx := B.exec
  have hb := B.bytes
  have hr := B.returns
  have hts := atoms_spec (ws := wsX3_settle) B.pre
  have hown : s.vm.findClass RX3 = some m.cls := findClass_of_methodNamed B.named
  have hlocks := B.notSynchronized
  have hF : CallFix p m c cX3_settle 2 s [.ref mo].toArray wsX3_settle RX3 := ⟨hx, hb, hml, hown, hts⟩
  have hw0 := hts (.fieldLink RX3 20 "SlipLevelsModel" "levels" "[[[I") (by decide +kernel)
  have hi3 : ∀ w ∈ u_ws RX3 TX3 4, w ∈ wsX3_settle := by
    intro w h
    unfold wsX3_settle
    simp only [List.mem_cons, List.mem_append, h, true_or, or_true]
  have hS : va_S A s.heap s.heap [] := va_S.rf
  have hl := lv_entry ([.ref mo]) (n := 2) (Nat.le_of_ble_eq_true rfl)
  rw [lg_entry_eq]
  generalize (lg_sl ([.ref mo]) ++ List.replicate (2 - (lg_sl ([.ref mo])).length) Slot.unset).toArray = ls at hl ⊢
  replace hl : lv_has ls 2 [(0, .ref mo)] := hl
  have hn := hm.le
  have hK : mKp X hp hp := mKp.rf
  refine lv_iconst (v := nI 0) hx hb dX3_settle_0 (by decide) ?_
  refine lv_istore_n (lv' := [(1, .int (nI 0)), (0, .ref mo)]) hx hb dX3_settle_1 rfl hl (by decide) rfl (fun ls hl => ?_)
  replace hl : lv_has ls 2 [(1, .int (nI 0)), (0, .ref mo)] := lv_sub hl [0, 1] rfl
  refine h_loopW (G := G) (A := A) (H0 := s.heap) (Wf := fun i H locs ls => W p l e (headSpec wsX3_settle { frames := 3, cells := 12, slots := 268, locals := 73 }).room s m ([.ref mo].toArray) below meth c H locs (3 * i) (67 * i) (MQ below (hW G A (fun ro hp' => ro = none ∧ mPk X mo dk lv nb th d (stB V 4) rm dt hp hp')) ([.ref mo].toArray) s 12 268 A) (F0 m 2 ls [])) 4 (fun i => [(1, .int (nI i)), (0, .ref mo)]) (fun i hp' => mPk X mo dk lv nb th d (stB V i) rm dt hp hp') (fun i hi2 hpL H locs hI2 hV0 hA0 hS ih2 ls hl => ?_) 0 (Nat.zero_le _) hp s.heap [] ⟨lvl, row, hm, hX, hD, mKp.rf⟩ hV0 hA0 hS ls hl
  obtain ⟨lvl1, row1, hm, hX, hD, hK⟩ := hI2
  have hn := hm.le
  have hni := hn i
  refine lv_iload_n hx hb dX3_settle_2 rfl (lv_at hl 0 rfl) ?_
  refine lv_iconst (v := nI 4) hx hb dX3_settle_3 (by decide) ?_
  refine h_icmp_ge (a := i) (b := 4) (tgt := 29) hx hb dX3_settle_4 (by decide) (by omega) (by omega) (fun c_4 => ?_) (fun c_4 => ?_)
  · obtain rfl : i = 4 := by omega
    refine W.widen (k := 12) (n := 268) (by omega) (by omega) ?_
    exact W.vret hx hb hr (h_qW ⟨rfl, lvl1, row1, hm, hX, hD, hK⟩ hV0 hA0 hS) hS.2.2 dX3_settle_29 hlocks
  · refine lv_aload_n hx hb dX3_settle_7 rfl (lv_at hl 1 rfl) ?_
    refine h_get (v := .ref lv) hx hb hts hi3 hown hK0 hV0 hm.cmo rfl 2 (by decide) hw0 rfl dX3_settle_8 ?_
    refine lv_iload_n hx hb dX3_settle_11 rfl (lv_at hl 0 rfl) ?_
    refine h_aaldE (i := i) hm.clv hx hb hK0 hV0 rfl rfl (by omega) (by omega) dX3_settle_12 ?_
    refine h_alenQ (hm.clvl (l := i) (by omega)) hx hb hK0 hV0 rfl dX3_settle_13 ?_
    refine lv_iconst (v := nI 3) hx hb dX3_settle_14 (by decide) ?_
    refine h_icmp_lt (a := bN ((stB V i)) i) (b := 3) (tgt := 23) hx hb dX3_settle_15 (by decide) (by omega) (by omega) (fun c_15 => ?_) (fun c_15 => ?_)
    · refine lv_iinc (v := nI (i + 1)) (lv' := [(1, .int (nI (i + 1))), (0, .ref mo)]) hx hb dX3_settle_23 hl (k := 0) rfl (nI_add (i) 1) (by decide) rfl (fun ls hl => ?_)
      refine lv_goto (tgt := 2) hx hb dX3_settle_26 (by decide) ?_
      refine W.widen (k := 3 * (i + 1)) (n := 67 * (i + 1)) (by omega) (by omega) ?_
      exact ih2 _ H locs (by omega) (by rw [stB_n c_15]; exact ⟨lvl1, row1, hm, hX, hD, hK⟩) hV0 hA0 hS ls (lv_sub hl [0, 1] rfl)
    · refine lv_aload_n hx hb dX3_settle_18 rfl (lv_at hl 1 rfl) ?_
      refine lv_iload_n hx hb dX3_settle_19 rfl (lv_at hl 0 rfl) ?_
      refine h_wrV (As := [.int (nI i)]) (rest := []) hF (c_X3_mergeOne l G A hpL X mo dk lv nb lvl1 row1 th d ((stB V i)) rm dt hm hX i (by omega) hD (stB_at h1 (by omega) c_15) hA0) 1 gX3_settle_X3_mergeOne rfl (by decide +kernel) ⟨Nat.le_of_ble_eq_true rfl, Nat.le_of_ble_eq_true rfl⟩ hK0 hV0 hA hS hm.cmo rfl rfl rfl hl.1 rfl (Nat.le_of_ble_eq_true rfl) ⟨by show _ ≤ 12; omega, by show _ ≤ 268; omega⟩ dX3_settle_20 (fun ro hp1 H locs hP1 hV0 hA0 hS => ?_)
      obtain ⟨rfl, lvl2, row2, hm2, hX2, hD2, hK2⟩ := hP1
      have hn := hm2.le
      refine lv_iinc (v := nI (i + 1)) (lv' := [(1, .int (nI (i + 1))), (0, .ref mo)]) hx hb dX3_settle_23 hl (k := 0) rfl (nI_add (i) 1) (by decide) rfl (fun ls hl => ?_)
      refine lv_goto (tgt := 2) hx hb dX3_settle_26 (by decide) ?_
      refine W.widen (k := 3 * (i + 1)) (n := 67 * (i + 1)) (by omega) (by omega) ?_
      exact ih2 _ H locs (by omega) (by rw [stB_y c_15]; exact ⟨lvl2, row2, hm2, hX2, hD2, hK.tr hK2⟩) hV0 hA0 hS ls (lv_sub hl [0, 1] rfl)

set_option maxHeartbeats 1000000 in
set_option maxRecDepth 100000 in
theorem c_X3_boundN (l : Launch) (G : hG) (A : Nat → Prop) (hp : HP) (X : Nat → Prop) (mo dk lv nb : Nat) (lvl : Nat → Nat) (row : Nat → Nat → Nat) (th : Int32) (d : Row) (V : BV) (rm dt : Int32) (hm : mA mo dk lv nb lvl row th d V rm dt hp) (hX : mX X mo dk lv nb hp) (hD : mD dk row V) (hz : szR d = 0) (hA0 : hIn A hp) : hWr l yX3_bound wsX3_bound 1 25 0 0 G A hp [.ref mo] (fun ro hp' => ro = some (.int (nI 0)) ∧ mPk X mo dk lv nb th d V rm dt hp hp') := by
  refine Met.ofW (cc := cX3_bound) (maxL := 2) (ret := (some .int)) (by decide) rfl ?_
  intro p e s m args below meth c s₁ B hml hv
  obtain ⟨rfl, hV0, hK0, hA⟩ := hv
  have hx := B.exec
  have hb := B.bytes
  have hr := B.returns
  have hts := atoms_spec (ws := wsX3_bound) B.pre
  have hown : s.vm.findClass RX3 = some m.cls := findClass_of_methodNamed B.named
  have hlocks := B.notSynchronized
  have hF : CallFix p m c cX3_bound 2 s [.ref mo].toArray wsX3_bound RX3 := ⟨hx, hb, hml, hown, hts⟩
  have hw0 := hts (.fieldLink RX3 24 "SlipLevelsModel" "numbers" "[I") (by decide +kernel)
  have hw1 := hts (.fieldLink RX3 13 "SlipLevelsModel" "desk" "[I") (by decide +kernel)
  have hi3 : ∀ w ∈ u_ws RX3 TX3 4, w ∈ wsX3_bound := by
    intro w h
    unfold wsX3_bound
    simp only [List.mem_cons, List.mem_append, h, true_or, or_true]
  have hS : va_S A s.heap s.heap [] := va_S.rf
  have hl := lv_entry ([.ref mo]) (n := 2) (Nat.le_of_ble_eq_true rfl)
  rw [lg_entry_eq]
  generalize (lg_sl ([.ref mo]) ++ List.replicate (2 - (lg_sl ([.ref mo])).length) Slot.unset).toArray = ls at hl ⊢
  replace hl : lv_has ls 2 [(0, .ref mo)] := hl
  have hn := hm.le
  have hK : mKp X hp hp := mKp.rf
  have hz9 := szR_le d
  refine lv_aload_n hx hb dX3_bound_0 rfl (lv_at hl 0 rfl) ?_
  refine h_get (v := .ref nb) hx hb hts hi3 hown hK0 hV0 hm.cmo rfl 3 (by decide) hw0 rfl dX3_bound_1 ?_
  refine lv_iconst (v := nI 1) hx hb dX3_bound_4 (by decide) ?_
  refine h_ialdN (i := 1) (x := bM V) hm.cnb rfl (by omega) hx hb hK0 hV0 dX3_bound_5 ?_
  refine lv_istore_n (lv' := [(1, .int (bM V)), (0, .ref mo)]) hx hb dX3_bound_6 rfl hl (by decide) rfl (fun ls hl => ?_)
  refine lv_aload_n hx hb dX3_bound_7 rfl (lv_at hl 1 rfl) ?_
  refine h_get (v := .ref dk) hx hb hts hi3 hown hK0 hV0 hm.cmo rfl 1 (by decide) hw1 rfl dX3_bound_8 ?_
  refine h_rdS (As := [.ref dk]) (rest := []) hF (c_X3_size l G hp dk d hm.cdk) 1 gX3_bound_X3_size rfl (by decide +kernel) ⟨Nat.le_of_ble_eq_true rfl, Nat.le_of_ble_eq_true rfl⟩ hK0 hV0 rfl hl.1 rfl (Nat.le_of_ble_eq_true rfl) (Nat.le_of_ble_eq_true rfl) (Nat.le_of_ble_eq_true rfl) dX3_bound_11 ?_
  refine h_if_ne (a := szR d) (tgt := 19) hx hb dX3_bound_14 (by decide) (by omega) (fun c_14 => absurd hz c_14) (fun c_14 => ?_)
  refine lv_iconst (v := nI 0) hx hb dX3_bound_17 (by decide) ?_
  exact W.iret hx hb hr (h_qW ⟨rfl, lvl, row, hm, hX, hD, hK⟩ hV0 hA0 hS) hS.2.2 dX3_bound_18 hlocks

set_option maxHeartbeats 1000000 in
set_option maxRecDepth 100000 in
theorem c_X3_bound (l : Launch) (G : hG) (A : Nat → Prop) (hp : HP) (X : Nat → Prop) (mo dk lv nb : Nat) (lvl : Nat → Nat) (row : Nat → Nat → Nat) (th : Int32) (d : Row) (V : BV) (rm dt : Int32) (hm : mA mo dk lv nb lvl row th d V rm dt hp) (hX : mX X mo dk lv nb hp) (hD : mD dk row V) (hI : ∀ l, l < 4 → bN V l ≤ 2) (hz : ¬ szR d = 0) (hA0 : hIn A hp) : hWr l yX3_bound wsX3_bound 4 94 14 335 G A hp [.ref mo] (fun ro hp' => ro = some (.int (bM (stB (cmB V 0 d) 4) - bM V)) ∧ mP X mo th emR (stB (cmB V 0 d) 4) rm dt hp hp') := by
  refine Met.ofW (cc := cX3_bound) (maxL := 2) (ret := (some .int)) (by decide) rfl ?_
  intro p e s m args below meth c s₁ B hml hv
  obtain ⟨rfl, hV0, hK0, hA⟩ := hv
  have hx := B.exec
  have hb := B.bytes
  have hr := B.returns
  have hts := atoms_spec (ws := wsX3_bound) B.pre
  have hown : s.vm.findClass RX3 = some m.cls := findClass_of_methodNamed B.named
  have hlocks := B.notSynchronized
  have hF : CallFix p m c cX3_bound 2 s [.ref mo].toArray wsX3_bound RX3 := ⟨hx, hb, hml, hown, hts⟩
  have hw0 := hts (.fieldLink RX3 24 "SlipLevelsModel" "numbers" "[I") (by decide +kernel)
  have hw1 := hts (.fieldLink RX3 13 "SlipLevelsModel" "desk" "[I") (by decide +kernel)
  have hi3 : ∀ w ∈ u_ws RX3 TX3 4, w ∈ wsX3_bound := by
    intro w h
    unfold wsX3_bound
    simp only [List.mem_cons, List.mem_append, h, true_or, or_true]
  have hS : va_S A s.heap s.heap [] := va_S.rf
  have hl := lv_entry ([.ref mo]) (n := 2) (Nat.le_of_ble_eq_true rfl)
  rw [lg_entry_eq]
  generalize (lg_sl ([.ref mo]) ++ List.replicate (2 - (lg_sl ([.ref mo])).length) Slot.unset).toArray = ls at hl ⊢
  replace hl : lv_has ls 2 [(0, .ref mo)] := hl
  have hn := hm.le
  have hK : mKp X hp hp := mKp.rf
  have hz9 := szR_le d
  refine lv_aload_n hx hb dX3_bound_0 rfl (lv_at hl 0 rfl) ?_
  refine h_get (v := .ref nb) hx hb hts hi3 hown hK0 hV0 hm.cmo rfl 3 (by decide) hw0 rfl dX3_bound_1 ?_
  refine lv_iconst (v := nI 1) hx hb dX3_bound_4 (by decide) ?_
  refine h_ialdN (i := 1) (x := bM V) hm.cnb rfl (by omega) hx hb hK0 hV0 dX3_bound_5 ?_
  refine lv_istore_n (lv' := [(1, .int (bM V)), (0, .ref mo)]) hx hb dX3_bound_6 rfl hl (by decide) rfl (fun ls hl => ?_)
  refine lv_aload_n hx hb dX3_bound_7 rfl (lv_at hl 1 rfl) ?_
  refine h_get (v := .ref dk) hx hb hts hi3 hown hK0 hV0 hm.cmo rfl 1 (by decide) hw1 rfl dX3_bound_8 ?_
  refine h_rdS (As := [.ref dk]) (rest := []) hF (c_X3_size l G hp dk d hm.cdk) 1 gX3_bound_X3_size rfl (by decide +kernel) ⟨Nat.le_of_ble_eq_true rfl, Nat.le_of_ble_eq_true rfl⟩ hK0 hV0 rfl hl.1 rfl (Nat.le_of_ble_eq_true rfl) (Nat.le_of_ble_eq_true rfl) (Nat.le_of_ble_eq_true rfl) dX3_bound_11 ?_
  refine h_if_ne (a := szR d) (tgt := 19) hx hb dX3_bound_14 (by decide) (by omega) (fun c_14 => ?_) (fun c_14 => absurd c_14 hz)
  refine lv_aload_n hx hb dX3_bound_19 rfl (lv_at hl 1 rfl) ?_
  refine lv_iconst (v := nI 0) hx hb dX3_bound_20 (by decide) ?_
  refine lv_aload_n hx hb dX3_bound_21 rfl (lv_at hl 1 rfl) ?_
  refine h_get (v := .ref dk) hx hb hts hi3 hown hK0 hV0 hm.cmo rfl 1 (by decide) hw1 rfl dX3_bound_22 ?_
  refine h_wrV (As := [.int (nI 0), .ref dk]) (rest := []) hF (c_X3_come l G A hp X mo dk lv nb lvl row th d V rm dt hm hX 0 (by decide) (hI 0 (by decide)) dk d hm.cdk (by omega) hA0) 2 gX3_bound_X3_come rfl (by decide +kernel) ⟨Nat.le_of_ble_eq_true rfl, Nat.le_of_ble_eq_true rfl⟩ hK0 hV0 hA hS hm.cmo rfl rfl rfl hl.1 rfl (Nat.le_of_ble_eq_true rfl) ⟨Nat.le_of_ble_eq_true rfl, Nat.le_of_ble_eq_true rfl⟩ dX3_bound_25 (fun ro hp1 H locs hP1 hV0 hA0 hS => ?_)
  obtain ⟨rfl, q2, hqq2, hm, hX, hK⟩ := hP1
  generalize (fun l2 => if l2 = 0 then q2 else lvl l2) = lvl2 at hm
  have hn := hm.le
  refine lv_aload_n hx hb dX3_bound_28 rfl (lv_at hl 1 rfl) ?_
  refine h_wrS (As := []) (rest := [.ref mo]) hF (c_X3_empty l G A hp1  hA0) 0 gX3_bound_X3_empty rfl (by decide +kernel) ⟨Nat.le_of_ble_eq_true rfl, Nat.le_of_ble_eq_true rfl⟩ hK0 hV0 hA hS rfl hl.1 rfl (Nat.le_of_ble_eq_true rfl) ⟨Nat.le_of_ble_eq_true rfl, Nat.le_of_ble_eq_true rfl⟩ dX3_bound_29 (fun ro hp1 H locs hP1 hV0 hA0 hS => ?_)
  obtain ⟨q1, rfl, hqq1, rfl⟩ := hP1
  have hne1 := hm.ne hqq1
  have hnX1 := hX.new hqq1
  have hm : mA mo dk lv nb lvl2 ((rowC row 0 dk)) th d ((cmB V 0 d)) rm dt (hput hp1 q1 (eI 64 (fun _ => -1))) := hm.put hne1 _
  have hX : mX X mo dk lv nb (hput hp1 q1 (eI 64 (fun _ => -1))) := hX.put _ _
  have hK : mKp X hp (hput hp1 q1 (eI 64 (fun _ => -1))) := hK.put hnX1
  have hn := hm.le
  have hRe : mR (hput hp1 q1 (eI 64 (fun _ => -1))) q1 emR := ⟨_, hput_s _ _ _, fun k _ => sw_2.symm⟩
  refine h_put (v := .ref q1) hx hb hts hi3 tyX3 tyX3_ok nmX3 hown hK0 hV0 hA0 hS hm.cmo rfl 1 (by decide) hw1 rfl (by rfl) (by rfl) (Nat.le_of_ble_eq_true rfl) dX3_bound_32 (fun H locs hV0 hA0 hS => ?_)
  have hm : mA mo q1 lv nb lvl2 ((rowC row 0 dk)) th emR ((cmB V 0 d)) rm dt (hput (hput hp1 q1 (eI 64 (fun _ => -1))) mo (eO 3 [.int th, .ref q1, .ref lv, .ref nb])) := hm.setO th hRe
  have hX : mX X mo q1 lv nb (hput (hput hp1 q1 (eI 64 (fun _ => -1))) mo (eO 3 [.int th, .ref q1, .ref lv, .ref nb])) := ⟨⟨hX.1.1, hnX1, hX.1.2.2.1, hX.1.2.2.2⟩, (hX.put _ _).2⟩
  have hK : mKp X hp (hput (hput hp1 q1 (eI 64 (fun _ => -1))) mo (eO 3 [.int th, .ref q1, .ref lv, .ref nb])) := hK.put hX.1.1
  have hn := hm.le
  have hD : mD q1 (rowC row 0 dk) (cmB V 0 d) := hne1.2.2.2.2.2
  refine lv_aload_n hx hb dX3_bound_35 rfl (lv_at hl 1 rfl) ?_
  refine h_wrV (As := []) (rest := []) hF (c_X3_settle l G A (hput (hput hp1 q1 (eI 64 (fun _ => -1))) mo (eO 3 [.int th, .ref q1, .ref lv, .ref nb])) X mo q1 lv nb lvl2 (rowC row 0 dk) th emR ((cmB V 0 d)) rm dt hm hX hD 0 (cm_one hI) hA0) 0 gX3_bound_X3_settle rfl (by decide +kernel) ⟨Nat.le_of_ble_eq_true rfl, Nat.le_of_ble_eq_true rfl⟩ hK0 hV0 hA hS hm.cmo rfl rfl rfl hl.1 rfl (Nat.le_of_ble_eq_true rfl) ⟨Nat.le_of_ble_eq_true rfl, Nat.le_of_ble_eq_true rfl⟩ dX3_bound_36 (fun ro hp1 H locs hP1 hV0 hA0 hS => ?_)
  obtain ⟨rfl, lvl3, row3, hm3, hX3, hD3, hK3⟩ := hP1
  have hn := hm3.le
  refine lv_aload_n hx hb dX3_bound_39 rfl (lv_at hl 1 rfl) ?_
  refine h_get (v := .ref nb) hx hb hts hi3 hown hK0 hV0 hm3.cmo rfl 3 (by decide) hw0 rfl dX3_bound_40 ?_
  refine lv_iconst (v := nI 1) hx hb dX3_bound_43 (by decide) ?_
  refine h_ialdN (i := 1) (x := bM ((stB ((cmB V 0 d)) 4))) hm3.cnb rfl (by omega) hx hb hK0 hV0 dX3_bound_44 ?_
  refine lv_iload_n hx hb dX3_bound_45 rfl (lv_at hl 0 rfl) ?_
  refine lv_isub hx hb dX3_bound_46 ?_
  exact W.iret hx hb hr (h_qW ⟨rfl, q1, lv, nb, lvl3, row3, hm3, hX3, hD3, hK.tr hK3⟩ hV0 hA0 hS) hS.2.2 dX3_bound_47 hlocks

set_option maxHeartbeats 1000000 in
set_option maxRecDepth 100000 in
theorem c_X3_put (l : Launch) (G : hG) (A : Nat → Prop) (hp : HP) (X : Nat → Prop) (mo dk lv nb : Nat) (lvl : Nat → Nat) (row : Nat → Nat → Nat) (th : Int32) (d : Row) (V : BV) (rm dt : Int32) (hm : mA mo dk lv nb lvl row th d V rm dt hp) (hX : mX X mo dk lv nb hp) (hD : mD dk row V) (hI : ∀ l, l < 4 → bN V l ≤ 2) (x : Nat) (hx6 : x < 64) (w : Int32) (hw : sw w ≠ -2) (hA0 : hIn A hp) : hWr l yX3_put wsX3_put 5 115 14 335 G A hp [.ref mo, .int (nI x), .int w] (fun ro hp' => ro = some (.int (bI (decide (rm ≤ nI (szR (upd d x (sw w))))))) ∧ mP X mo th (if rm ≤ nI (szR (upd d x (sw w))) then emR else (upd d x (sw w))) (if rm ≤ nI (szR (upd d x (sw w))) then stB (cmB V 0 (upd d x (sw w))) 4 else V) rm dt hp hp') := by
  refine Met.ofW (cc := cX3_put) (maxL := 3) (ret := (some .boolean)) (by decide) rfl ?_
  intro p e s m args below meth c s₁ B hml hv
  obtain ⟨rfl, hV0, hK0, hA⟩ := hv
  have hx := B.exec
  have hb := B.bytes
  have hr := B.returns
  have hts := atoms_spec (ws := wsX3_put) B.pre
  have hown : s.vm.findClass RX3 = some m.cls := findClass_of_methodNamed B.named
  have hlocks := B.notSynchronized
  have hF : CallFix p m c cX3_put 3 s [.ref mo, .int (nI x), .int w].toArray wsX3_put RX3 := ⟨hx, hb, hml, hown, hts⟩
  have hw0 := hts (.fieldLink RX3 13 "SlipLevelsModel" "desk" "[I") (by decide +kernel)
  have hw1 := hts (.fieldLink RX3 24 "SlipLevelsModel" "numbers" "[I") (by decide +kernel)
  have hi3 : ∀ w ∈ u_ws RX3 TX3 4, w ∈ wsX3_put := by
    intro w h
    unfold wsX3_put
    simp only [List.mem_cons, List.mem_append, h, true_or, or_true]
  have hS : va_S A s.heap s.heap [] := va_S.rf
  have hl := lv_entry ([.ref mo, .int (nI x), .int w]) (n := 3) (Nat.le_of_ble_eq_true rfl)
  rw [lg_entry_eq]
  generalize (lg_sl ([.ref mo, .int (nI x), .int w]) ++ List.replicate (3 - (lg_sl ([.ref mo, .int (nI x), .int w])).length) Slot.unset).toArray = ls at hl ⊢
  replace hl : lv_has ls 3 [(0, .ref mo), (1, .int (nI x)), (2, .int w)] := hl
  have hn := hm.le
  have hK : mKp X hp hp := mKp.rf
  have hz9 := szR_le (upd d x (sw w))
  refine lv_aload_n hx hb dX3_put_0 rfl (lv_at hl 0 rfl) ?_
  refine h_get (v := .ref dk) hx hb hts hi3 hown hK0 hV0 hm.cmo rfl 1 (by decide) hw0 rfl dX3_put_1 ?_
  refine lv_iload_n hx hb dX3_put_4 rfl (lv_at hl 1 rfl) ?_
  refine lv_iload_n hx hb dX3_put_5 rfl (lv_at hl 2 rfl) ?_
  obtain ⟨DF1, hDF1, hsDF1⟩ := hm.cdk
  refine h_iast (i := x) (x := w) hx hb hK0 hV0 hA0 hS hDF1 (by omega) (by omega) dX3_put_6 (fun H locs hV0 hA0 hS => ?_)
  have hm : mA mo dk lv nb lvl row th ((upd d x (sw w))) V rm dt (hput hp dk (eI 64 (upd DF1 x w))) := hm.setD hD hDF1 hsDF1 x w
  have hX : mX X mo dk lv nb (hput hp dk (eI 64 (upd DF1 x w))) := hX.put _ _
  have hK : mKp X hp (hput hp dk (eI 64 (upd DF1 x w))) := hK.put hX.1.2.1
  have hn := hm.le
  refine lv_aload_n hx hb dX3_put_7 rfl (lv_at hl 0 rfl) ?_
  refine h_get (v := .ref dk) hx hb hts hi3 hown hK0 hV0 hm.cmo rfl 1 (by decide) hw0 rfl dX3_put_8 ?_
  refine h_rdS (As := [.ref dk]) (rest := []) hF (c_X3_size l G (hput hp dk (eI 64 (upd DF1 x w))) dk ((upd d x (sw w))) hm.cdk) 1 gX3_put_X3_size rfl (by decide +kernel) ⟨Nat.le_of_ble_eq_true rfl, Nat.le_of_ble_eq_true rfl⟩ hK0 hV0 rfl hl.1 rfl (Nat.le_of_ble_eq_true rfl) (Nat.le_of_ble_eq_true rfl) (Nat.le_of_ble_eq_true rfl) dX3_put_11 ?_
  refine lv_aload_n hx hb dX3_put_14 rfl (lv_at hl 0 rfl) ?_
  refine h_get (v := .ref nb) hx hb hts hi3 hown hK0 hV0 hm.cmo rfl 3 (by decide) hw1 rfl dX3_put_15 ?_
  refine lv_iconst (v := nI 0) hx hb dX3_put_18 (by decide) ?_
  refine h_ialdN (i := 0) (x := rm) hm.cnb rfl (by omega) hx hb hK0 hV0 dX3_put_19 ?_
  refine lv_icmp_ge (tgt := 25) hx hb dX3_put_20 (by decide) (fun c_20 => ?_) (fun c_20 => ?_)
  · refine lv_aload_n hx hb dX3_put_25 rfl (lv_at hl 0 rfl) ?_
    refine h_wrV (As := []) (rest := []) hF (c_X3_bound l G A (hput hp dk (eI 64 (upd DF1 x w))) X mo dk lv nb lvl row th ((upd d x (sw w))) V rm dt hm hX hD hI (by have := szR_put (f := d) hx6 hw; omega) hA0) 0 gX3_put_X3_bound rfl (by decide +kernel) ⟨Nat.le_of_ble_eq_true rfl, Nat.le_of_ble_eq_true rfl⟩ hK0 hV0 hA hS hm.cmo rfl rfl rfl hl.1 rfl (Nat.le_of_ble_eq_true rfl) ⟨Nat.le_of_ble_eq_true rfl, Nat.le_of_ble_eq_true rfl⟩ dX3_put_26 (fun ro hp1 H locs hP1 hV0 hA0 hS => ?_)
    obtain ⟨rfl, dk2, lv2, nb2, lvl2, row2, hm2, hX2, hD2, hK2⟩ := hP1
    have hn := hm2.le
    refine lv_pop hx hb dX3_put_29 rfl ?_
    refine lv_iconst (v := nI 1) hx hb dX3_put_30 (by decide) ?_
    exact W.zret hx hb hr (by first | exact narrow_bI _ | rfl) (h_qW ⟨by rw [decide_eq_true c_20]; rfl, by rw [if_pos c_20, if_pos c_20]; exact ⟨dk2, lv2, nb2, lvl2, row2, hm2, hX2, hD2, hK.tr hK2⟩⟩ hV0 hA0 hS) hS.2.2 dX3_put_31 hlocks
  · refine lv_iconst (v := nI 0) hx hb dX3_put_23 (by decide) ?_
    refine W.widen (k := 14) (n := 335) (by omega) (by omega) ?_
    exact W.zret hx hb hr (by first | exact narrow_bI _ | rfl) (h_qW ⟨by rw [decide_eq_false c_20]; rfl, by rw [if_neg c_20, if_neg c_20]; exact ⟨dk, lv, nb, lvl, row, hm, hX, hD, hK⟩⟩ hV0 hA0 hS) hS.2.2 dX3_put_24 hlocks

set_option maxHeartbeats 1000000 in
set_option maxRecDepth 100000 in
theorem c_X3_write (l : Launch) (G : hG) (A : Nat → Prop) (hp : HP) (X : Nat → Prop) (mo dk lv nb : Nat) (lvl : Nat → Nat) (row : Nat → Nat → Nat) (th : Int32) (d : Row) (V : BV) (rm dt : Int32) (hm : mA mo dk lv nb lvl row th d V rm dt hp) (hX : mX X mo dk lv nb hp) (hD : mD dk row V) (hI : ∀ l, l < 4 → bN V l ≤ 2) (x v : Nat) (hx6 : x < 64) (hv1 : v < 100) (hA0 : hIn A hp) : hWr l yX3_write wsX3_write 6 137 14 335 G A hp [.ref mo, .int (nI x), .int (nI v)] (fun ro hp' => ro = some (.int (bI (decide (rm ≤ nI (szR (upd d x (sw (nI v)))))))) ∧ mP X mo (nI 0) (if rm ≤ nI (szR (upd d x (sw (nI v)))) then emR else (upd d x (sw (nI v)))) (if rm ≤ nI (szR (upd d x (sw (nI v)))) then stB (cmB V 0 (upd d x (sw (nI v)))) 4 else V) rm dt hp hp') := by
  refine Met.ofW (cc := cX3_write) (maxL := 3) (ret := (some .boolean)) (by decide) rfl ?_
  intro p e s m args below meth c s₁ B hml hv
  obtain ⟨rfl, hV0, hK0, hA⟩ := hv
  have hx := B.exec
  have hb := B.bytes
  have hr := B.returns
  have hts := atoms_spec (ws := wsX3_write) B.pre
  have hown : s.vm.findClass RX3 = some m.cls := findClass_of_methodNamed B.named
  have hlocks := B.notSynchronized
  have hF : CallFix p m c cX3_write 3 s [.ref mo, .int (nI x), .int (nI v)].toArray wsX3_write RX3 := ⟨hx, hb, hml, hown, hts⟩
  have hw0 := hts (.fieldLink RX3 27 "SlipLevelsModel" "thrown" "I") (by decide +kernel)
  have hi3 : ∀ w ∈ u_ws RX3 TX3 4, w ∈ wsX3_write := by
    intro w h
    unfold wsX3_write
    simp only [List.mem_cons, List.mem_append, h, true_or, or_true]
  have hS : va_S A s.heap s.heap [] := va_S.rf
  have hl := lv_entry ([.ref mo, .int (nI x), .int (nI v)]) (n := 3) (Nat.le_of_ble_eq_true rfl)
  rw [lg_entry_eq]
  generalize (lg_sl ([.ref mo, .int (nI x), .int (nI v)]) ++ List.replicate (3 - (lg_sl ([.ref mo, .int (nI x), .int (nI v)])).length) Slot.unset).toArray = ls at hl ⊢
  replace hl : lv_has ls 3 [(0, .ref mo), (1, .int (nI x)), (2, .int (nI v))] := hl
  have hn := hm.le
  have hK : mKp X hp hp := mKp.rf
  refine lv_aload_n hx hb dX3_write_0 rfl (lv_at hl 0 rfl) ?_
  refine lv_iload_n hx hb dX3_write_1 rfl (lv_at hl 1 rfl) ?_
  refine h_rdS (As := [.int (nI x)]) (rest := [.ref mo]) hF (c_X3_isNumber l G hp (nI x)) 1 gX3_write_X3_isNumber rfl (by decide +kernel) ⟨Nat.le_of_ble_eq_true rfl, Nat.le_of_ble_eq_true rfl⟩ hK0 hV0 rfl hl.1 rfl (Nat.le_of_ble_eq_true rfl) (Nat.le_of_ble_eq_true rfl) (Nat.le_of_ble_eq_true rfl) dX3_write_2 ?_
  refine h_if_neB (tgt := 12) hx hb dX3_write_5 (by decide) (fun c_5 => ?_) (fun c_5 => absurd ((isN_y (x := x) (c := 63) (by omega) (by omega)).symm.trans c_5) (by decide))
  refine lv_iload_n hx hb dX3_write_12 rfl (lv_at hl 2 rfl) ?_
  refine lv_iconst (v := nI 0) hx hb dX3_write_13 (by decide) ?_
  refine lv_bipush (v := nI 99) hx hb dX3_write_14 (by decide) ?_
  refine h_rdS (As := [.int (nI v), .int (nI 0), .int (nI 99)]) (rest := [.ref mo]) hF (c_X3_isIn l G hp (nI v) (nI 0) (nI 99)) 3 gX3_write_X3_isIn rfl (by decide +kernel) ⟨Nat.le_of_ble_eq_true rfl, Nat.le_of_ble_eq_true rfl⟩ hK0 hV0 rfl hl.1 rfl (Nat.le_of_ble_eq_true rfl) (Nat.le_of_ble_eq_true rfl) (Nat.le_of_ble_eq_true rfl) dX3_write_16 ?_
  refine h_if_eqB (tgt := 26) hx hb dX3_write_19 (by decide) (fun c_19 => absurd ((isN_y (x := v) (c := 99) (by omega) (by omega)).symm.trans c_19) (by decide)) (fun c_19 => ?_)
  refine lv_iconst (v := nI 0) hx hb dX3_write_22 (by decide) ?_
  refine lv_goto (tgt := 27) hx hb dX3_write_23 (by decide) ?_
  refine h_put (v := .int (nI 0)) hx hb hts hi3 tyX3 tyX3_ok nmX3 hown hK0 hV0 hA0 hS hm.cmo rfl 0 (by decide) hw0 rfl (by rfl) (by rfl) (Nat.le_of_ble_eq_true rfl) dX3_write_27 (fun H locs hV0 hA0 hS => ?_)
  have hm : mA mo dk lv nb lvl row ((nI 0)) d V rm dt (hput hp mo (eO 3 [.int (nI 0), .ref dk, .ref lv, .ref nb])) := hm.setTh (nI 0)
  have hX : mX X mo dk lv nb (hput hp mo (eO 3 [.int (nI 0), .ref dk, .ref lv, .ref nb])) := hX.put _ _
  have hK : mKp X hp (hput hp mo (eO 3 [.int (nI 0), .ref dk, .ref lv, .ref nb])) := hK.put hX.1.1
  have hn := hm.le
  refine lv_aload_n hx hb dX3_write_30 rfl (lv_at hl 0 rfl) ?_
  refine h_get (v := .int (nI 0)) hx hb hts hi3 hown hK0 hV0 hm.cmo rfl 0 (by decide) hw0 rfl dX3_write_31 ?_
  refine h_if_ne (a := 0) (tgt := 50) hx hb dX3_write_34 (by decide) (by omega) (fun c_34 => absurd rfl c_34) (fun c_34 => ?_)
  refine lv_aload_n hx hb dX3_write_37 rfl (lv_at hl 0 rfl) ?_
  refine lv_iload_n hx hb dX3_write_38 rfl (lv_at hl 1 rfl) ?_
  refine lv_iload_n hx hb dX3_write_39 rfl (lv_at hl 2 rfl) ?_
  refine h_wrV (As := [.int (nI x), .int (nI v)]) (rest := []) hF (c_X3_put l G A (hput hp mo (eO 3 [.int (nI 0), .ref dk, .ref lv, .ref nb])) X mo dk lv nb lvl row ((nI 0)) d V rm dt hm hX hD hI x (by omega) (nI v) (by rw [sw_e (nIne2 hv1) (fun z => by have h9 : (0 : Int32) ≤ nI v := nI_pos' (by omega); rw [z] at h9; exact absurd h9 (by decide))]; exact nIne2 hv1) hA0) 2 gX3_write_X3_put rfl (by decide +kernel) ⟨Nat.le_of_ble_eq_true rfl, Nat.le_of_ble_eq_true rfl⟩ hK0 hV0 hA hS hm.cmo rfl rfl rfl hl.1 rfl (Nat.le_of_ble_eq_true rfl) ⟨Nat.le_of_ble_eq_true rfl, Nat.le_of_ble_eq_true rfl⟩ dX3_write_40 (fun ro hp1 H locs hP1 hV0 hA0 hS => ?_)
  obtain ⟨rfl, dk2, lv2, nb2, lvl2, row2, hm2, hX2, hD2, hK2⟩ := hP1
  refine h_if_eqB (tgt := 50) hx hb dX3_write_43 (by decide) (fun c_43 => ?_) (fun c_43 => ?_)
  · refine lv_iconst (v := nI 0) hx hb dX3_write_50 (by decide) ?_
    exact W.zret hx hb hr (by first | exact narrow_bI _ | rfl) (h_qW ⟨by rw [c_43]; rfl, dk2, lv2, nb2, lvl2, row2, hm2, hX2, hD2, hK.tr hK2⟩ hV0 hA0 hS) hS.2.2 dX3_write_51 hlocks
  · refine lv_iconst (v := nI 1) hx hb dX3_write_46 (by decide) ?_
    refine lv_goto (tgt := 51) hx hb dX3_write_47 (by decide) ?_
    exact W.zret hx hb hr (by first | exact narrow_bI _ | rfl) (h_qW ⟨by rw [c_43]; rfl, dk2, lv2, nb2, lvl2, row2, hm2, hX2, hD2, hK.tr hK2⟩ hV0 hA0 hS) hS.2.2 dX3_write_51 hlocks

set_option maxHeartbeats 1000000 in
set_option maxRecDepth 100000 in
theorem c_X3_writeN (l : Launch) (G : hG) (A : Nat → Prop) (hp : HP) (X : Nat → Prop) (mo dk lv nb : Nat) (lvl : Nat → Nat) (row : Nat → Nat → Nat) (th : Int32) (d : Row) (V : BV) (rm dt : Int32) (hm : mA mo dk lv nb lvl row th d V rm dt hp) (hX : mX X mo dk lv nb hp) (hD : mD dk row V) (v : Int32) (x : Int32) (hb0 : x < 0 ∨ nI 64 ≤ x) (hA0 : hIn A hp) : hWr l yX3_write wsX3_write 2 42 0 0 G A hp [.ref mo, .int x, .int v] (fun ro hp' => ro = some (.int (bI false)) ∧ mP X mo (nI 1) d V rm dt hp hp') := by
  refine Met.ofW (cc := cX3_write) (maxL := 3) (ret := (some .boolean)) (by decide) rfl ?_
  intro p e s m args below meth c s₁ B hml hv
  obtain ⟨rfl, hV0, hK0, hA⟩ := hv
  have hx := B.exec
  have hb := B.bytes
  have hr := B.returns
  have hts := atoms_spec (ws := wsX3_write) B.pre
  have hown : s.vm.findClass RX3 = some m.cls := findClass_of_methodNamed B.named
  have hlocks := B.notSynchronized
  have hF : CallFix p m c cX3_write 3 s [.ref mo, .int x, .int v].toArray wsX3_write RX3 := ⟨hx, hb, hml, hown, hts⟩
  have hw0 := hts (.fieldLink RX3 27 "SlipLevelsModel" "thrown" "I") (by decide +kernel)
  have hi3 : ∀ w ∈ u_ws RX3 TX3 4, w ∈ wsX3_write := by
    intro w h
    unfold wsX3_write
    simp only [List.mem_cons, List.mem_append, h, true_or, or_true]
  have hS : va_S A s.heap s.heap [] := va_S.rf
  have hl := lv_entry ([.ref mo, .int x, .int v]) (n := 3) (Nat.le_of_ble_eq_true rfl)
  rw [lg_entry_eq]
  generalize (lg_sl ([.ref mo, .int x, .int v]) ++ List.replicate (3 - (lg_sl ([.ref mo, .int x, .int v])).length) Slot.unset).toArray = ls at hl ⊢
  replace hl : lv_has ls 3 [(0, .ref mo), (1, .int x), (2, .int v)] := hl
  have hn := hm.le
  have hK : mKp X hp hp := mKp.rf
  refine lv_aload_n hx hb dX3_write_0 rfl (lv_at hl 0 rfl) ?_
  refine lv_iload_n hx hb dX3_write_1 rfl (lv_at hl 1 rfl) ?_
  refine h_rdS (As := [.int x]) (rest := [.ref mo]) hF (c_X3_isNumber l G hp (x)) 1 gX3_write_X3_isNumber rfl (by decide +kernel) ⟨Nat.le_of_ble_eq_true rfl, Nat.le_of_ble_eq_true rfl⟩ hK0 hV0 rfl hl.1 rfl (Nat.le_of_ble_eq_true rfl) (Nat.le_of_ble_eq_true rfl) (Nat.le_of_ble_eq_true rfl) dX3_write_2 ?_
  refine h_if_neB (tgt := 12) hx hb dX3_write_5 (by decide) (fun c_5 => absurd ((isN_n (c := 63) hb0 (by omega)).symm.trans c_5) (by decide)) (fun c_5 => ?_)
  refine lv_iconst (v := nI 1) hx hb dX3_write_8 (by decide) ?_
  refine lv_goto (tgt := 27) hx hb dX3_write_9 (by decide) ?_
  refine h_put (v := .int (nI 1)) hx hb hts hi3 tyX3 tyX3_ok nmX3 hown hK0 hV0 hA0 hS hm.cmo rfl 0 (by decide) hw0 rfl (by rfl) (by rfl) (Nat.le_of_ble_eq_true rfl) dX3_write_27 (fun H locs hV0 hA0 hS => ?_)
  have hm : mA mo dk lv nb lvl row ((nI 1)) d V rm dt (hput hp mo (eO 3 [.int (nI 1), .ref dk, .ref lv, .ref nb])) := hm.setTh (nI 1)
  have hX : mX X mo dk lv nb (hput hp mo (eO 3 [.int (nI 1), .ref dk, .ref lv, .ref nb])) := hX.put _ _
  have hK : mKp X hp (hput hp mo (eO 3 [.int (nI 1), .ref dk, .ref lv, .ref nb])) := hK.put hX.1.1
  have hn := hm.le
  refine lv_aload_n hx hb dX3_write_30 rfl (lv_at hl 0 rfl) ?_
  refine h_get (v := .int (nI 1)) hx hb hts hi3 hown hK0 hV0 hm.cmo rfl 0 (by decide) hw0 rfl dX3_write_31 ?_
  refine h_if_ne (a := 1) (tgt := 50) hx hb dX3_write_34 (by decide) (by omega) (fun c_34 => ?_) (fun c_34 => absurd c_34 (by decide))
  refine lv_iconst (v := nI 0) hx hb dX3_write_50 (by decide) ?_
  exact W.zret hx hb hr (by first | exact narrow_bI _ | rfl) (h_qW ⟨rfl, dk, lv, nb, lvl, row, hm, hX, hD, hK⟩ hV0 hA0 hS) hS.2.2 dX3_write_51 hlocks

set_option maxHeartbeats 1000000 in
set_option maxRecDepth 100000 in
theorem c_X3_writeW (l : Launch) (G : hG) (A : Nat → Prop) (hp : HP) (X : Nat → Prop) (mo dk lv nb : Nat) (lvl : Nat → Nat) (row : Nat → Nat → Nat) (th : Int32) (d : Row) (V : BV) (rm dt : Int32) (hm : mA mo dk lv nb lvl row th d V rm dt hp) (hX : mX X mo dk lv nb hp) (hD : mD dk row V) (x : Nat) (hx6 : x < 64) (v : Int32) (hb0 : v < 0 ∨ nI 100 ≤ v) (hA0 : hIn A hp) : hWr l yX3_write wsX3_write 2 42 0 0 G A hp [.ref mo, .int (nI x), .int v] (fun ro hp' => ro = some (.int (bI false)) ∧ mP X mo (nI 2) d V rm dt hp hp') := by
  refine Met.ofW (cc := cX3_write) (maxL := 3) (ret := (some .boolean)) (by decide) rfl ?_
  intro p e s m args below meth c s₁ B hml hv
  obtain ⟨rfl, hV0, hK0, hA⟩ := hv
  have hx := B.exec
  have hb := B.bytes
  have hr := B.returns
  have hts := atoms_spec (ws := wsX3_write) B.pre
  have hown : s.vm.findClass RX3 = some m.cls := findClass_of_methodNamed B.named
  have hlocks := B.notSynchronized
  have hF : CallFix p m c cX3_write 3 s [.ref mo, .int (nI x), .int v].toArray wsX3_write RX3 := ⟨hx, hb, hml, hown, hts⟩
  have hw0 := hts (.fieldLink RX3 27 "SlipLevelsModel" "thrown" "I") (by decide +kernel)
  have hi3 : ∀ w ∈ u_ws RX3 TX3 4, w ∈ wsX3_write := by
    intro w h
    unfold wsX3_write
    simp only [List.mem_cons, List.mem_append, h, true_or, or_true]
  have hS : va_S A s.heap s.heap [] := va_S.rf
  have hl := lv_entry ([.ref mo, .int (nI x), .int v]) (n := 3) (Nat.le_of_ble_eq_true rfl)
  rw [lg_entry_eq]
  generalize (lg_sl ([.ref mo, .int (nI x), .int v]) ++ List.replicate (3 - (lg_sl ([.ref mo, .int (nI x), .int v])).length) Slot.unset).toArray = ls at hl ⊢
  replace hl : lv_has ls 3 [(0, .ref mo), (1, .int (nI x)), (2, .int v)] := hl
  have hn := hm.le
  have hK : mKp X hp hp := mKp.rf
  refine lv_aload_n hx hb dX3_write_0 rfl (lv_at hl 0 rfl) ?_
  refine lv_iload_n hx hb dX3_write_1 rfl (lv_at hl 1 rfl) ?_
  refine h_rdS (As := [.int (nI x)]) (rest := [.ref mo]) hF (c_X3_isNumber l G hp (nI x)) 1 gX3_write_X3_isNumber rfl (by decide +kernel) ⟨Nat.le_of_ble_eq_true rfl, Nat.le_of_ble_eq_true rfl⟩ hK0 hV0 rfl hl.1 rfl (Nat.le_of_ble_eq_true rfl) (Nat.le_of_ble_eq_true rfl) (Nat.le_of_ble_eq_true rfl) dX3_write_2 ?_
  refine h_if_neB (tgt := 12) hx hb dX3_write_5 (by decide) (fun c_5 => ?_) (fun c_5 => absurd ((isN_y (x := x) (c := 63) (by omega) (by omega)).symm.trans c_5) (by decide))
  refine lv_iload_n hx hb dX3_write_12 rfl (lv_at hl 2 rfl) ?_
  refine lv_iconst (v := nI 0) hx hb dX3_write_13 (by decide) ?_
  refine lv_bipush (v := nI 99) hx hb dX3_write_14 (by decide) ?_
  refine h_rdS (As := [.int v, .int (nI 0), .int (nI 99)]) (rest := [.ref mo]) hF (c_X3_isIn l G hp (v) (nI 0) (nI 99)) 3 gX3_write_X3_isIn rfl (by decide +kernel) ⟨Nat.le_of_ble_eq_true rfl, Nat.le_of_ble_eq_true rfl⟩ hK0 hV0 rfl hl.1 rfl (Nat.le_of_ble_eq_true rfl) (Nat.le_of_ble_eq_true rfl) (Nat.le_of_ble_eq_true rfl) dX3_write_16 ?_
  refine h_if_eqB (tgt := 26) hx hb dX3_write_19 (by decide) (fun c_19 => ?_) (fun c_19 => absurd ((isN_n (c := 99) hb0 (by omega)).symm.trans c_19) (by decide))
  refine lv_iconst (v := nI 2) hx hb dX3_write_26 (by decide) ?_
  refine h_put (v := .int (nI 2)) hx hb hts hi3 tyX3 tyX3_ok nmX3 hown hK0 hV0 hA0 hS hm.cmo rfl 0 (by decide) hw0 rfl (by rfl) (by rfl) (Nat.le_of_ble_eq_true rfl) dX3_write_27 (fun H locs hV0 hA0 hS => ?_)
  have hm : mA mo dk lv nb lvl row ((nI 2)) d V rm dt (hput hp mo (eO 3 [.int (nI 2), .ref dk, .ref lv, .ref nb])) := hm.setTh (nI 2)
  have hX : mX X mo dk lv nb (hput hp mo (eO 3 [.int (nI 2), .ref dk, .ref lv, .ref nb])) := hX.put _ _
  have hK : mKp X hp (hput hp mo (eO 3 [.int (nI 2), .ref dk, .ref lv, .ref nb])) := hK.put hX.1.1
  have hn := hm.le
  refine lv_aload_n hx hb dX3_write_30 rfl (lv_at hl 0 rfl) ?_
  refine h_get (v := .int (nI 2)) hx hb hts hi3 hown hK0 hV0 hm.cmo rfl 0 (by decide) hw0 rfl dX3_write_31 ?_
  refine h_if_ne (a := 2) (tgt := 50) hx hb dX3_write_34 (by decide) (by omega) (fun c_34 => ?_) (fun c_34 => absurd c_34 (by decide))
  refine lv_iconst (v := nI 0) hx hb dX3_write_50 (by decide) ?_
  exact W.zret hx hb hr (by first | exact narrow_bI _ | rfl) (h_qW ⟨rfl, dk, lv, nb, lvl, row, hm, hX, hD, hK⟩ hV0 hA0 hS) hS.2.2 dX3_write_51 hlocks

set_option maxHeartbeats 1000000 in
set_option maxRecDepth 100000 in
theorem c_X3_strike (l : Launch) (G : hG) (A : Nat → Prop) (hp : HP) (X : Nat → Prop) (mo dk lv nb : Nat) (lvl : Nat → Nat) (row : Nat → Nat → Nat) (th : Int32) (d : Row) (V : BV) (rm dt : Int32) (hm : mA mo dk lv nb lvl row th d V rm dt hp) (hX : mX X mo dk lv nb hp) (hD : mD dk row V) (hI : ∀ l, l < 4 → bN V l ≤ 2) (x : Nat) (hx6 : x < 64) (hA0 : hIn A hp) : hWr l yX3_strike wsX3_strike 6 137 14 335 G A hp [.ref mo, .int (nI x)] (fun ro hp' => ro = some (.int (bI (decide (rm ≤ nI (szR (upd d x (sw (-2)))))))) ∧ mP X mo (nI 0) (if rm ≤ nI (szR (upd d x (sw (-2)))) then emR else (upd d x (sw (-2)))) (if rm ≤ nI (szR (upd d x (sw (-2)))) then stB (cmB V 0 (upd d x (sw (-2)))) 4 else V) rm dt hp hp') := by
  refine Met.ofW (cc := cX3_strike) (maxL := 2) (ret := (some .boolean)) (by decide) rfl ?_
  intro p e s m args below meth c s₁ B hml hv
  obtain ⟨rfl, hV0, hK0, hA⟩ := hv
  have hx := B.exec
  have hb := B.bytes
  have hr := B.returns
  have hts := atoms_spec (ws := wsX3_strike) B.pre
  have hown : s.vm.findClass RX3 = some m.cls := findClass_of_methodNamed B.named
  have hlocks := B.notSynchronized
  have hF : CallFix p m c cX3_strike 2 s [.ref mo, .int (nI x)].toArray wsX3_strike RX3 := ⟨hx, hb, hml, hown, hts⟩
  have hw0 := hts (.fieldLink RX3 27 "SlipLevelsModel" "thrown" "I") (by decide +kernel)
  have hi3 : ∀ w ∈ u_ws RX3 TX3 4, w ∈ wsX3_strike := by
    intro w h
    unfold wsX3_strike
    simp only [List.mem_cons, List.mem_append, h, true_or, or_true]
  have hS : va_S A s.heap s.heap [] := va_S.rf
  have hl := lv_entry ([.ref mo, .int (nI x)]) (n := 2) (Nat.le_of_ble_eq_true rfl)
  rw [lg_entry_eq]
  generalize (lg_sl ([.ref mo, .int (nI x)]) ++ List.replicate (2 - (lg_sl ([.ref mo, .int (nI x)])).length) Slot.unset).toArray = ls at hl ⊢
  replace hl : lv_has ls 2 [(0, .ref mo), (1, .int (nI x))] := hl
  have hn := hm.le
  have hK : mKp X hp hp := mKp.rf
  refine lv_aload_n hx hb dX3_strike_0 rfl (lv_at hl 0 rfl) ?_
  refine lv_iload_n hx hb dX3_strike_1 rfl (lv_at hl 1 rfl) ?_
  refine h_rdS (As := [.int (nI x)]) (rest := [.ref mo]) hF (c_X3_isNumber l G hp (nI x)) 1 gX3_strike_X3_isNumber rfl (by decide +kernel) ⟨Nat.le_of_ble_eq_true rfl, Nat.le_of_ble_eq_true rfl⟩ hK0 hV0 rfl hl.1 rfl (Nat.le_of_ble_eq_true rfl) (Nat.le_of_ble_eq_true rfl) (Nat.le_of_ble_eq_true rfl) dX3_strike_2 ?_
  refine h_if_eqB (tgt := 12) hx hb dX3_strike_5 (by decide) (fun c_5 => absurd ((isN_y (x := x) (c := 63) (by omega) (by omega)).symm.trans c_5) (by decide)) (fun c_5 => ?_)
  refine lv_iconst (v := nI 0) hx hb dX3_strike_8 (by decide) ?_
  refine lv_goto (tgt := 13) hx hb dX3_strike_9 (by decide) ?_
  refine h_put (v := .int (nI 0)) hx hb hts hi3 tyX3 tyX3_ok nmX3 hown hK0 hV0 hA0 hS hm.cmo rfl 0 (by decide) hw0 rfl (by rfl) (by rfl) (Nat.le_of_ble_eq_true rfl) dX3_strike_13 (fun H locs hV0 hA0 hS => ?_)
  have hm : mA mo dk lv nb lvl row ((nI 0)) d V rm dt (hput hp mo (eO 3 [.int (nI 0), .ref dk, .ref lv, .ref nb])) := hm.setTh (nI 0)
  have hX : mX X mo dk lv nb (hput hp mo (eO 3 [.int (nI 0), .ref dk, .ref lv, .ref nb])) := hX.put _ _
  have hK : mKp X hp (hput hp mo (eO 3 [.int (nI 0), .ref dk, .ref lv, .ref nb])) := hK.put hX.1.1
  have hn := hm.le
  refine lv_aload_n hx hb dX3_strike_16 rfl (lv_at hl 0 rfl) ?_
  refine h_get (v := .int (nI 0)) hx hb hts hi3 hown hK0 hV0 hm.cmo rfl 0 (by decide) hw0 rfl dX3_strike_17 ?_
  refine h_if_ne (a := 0) (tgt := 37) hx hb dX3_strike_20 (by decide) (by omega) (fun c_20 => absurd rfl c_20) (fun c_20 => ?_)
  refine lv_aload_n hx hb dX3_strike_23 rfl (lv_at hl 0 rfl) ?_
  refine lv_iload_n hx hb dX3_strike_24 rfl (lv_at hl 1 rfl) ?_
  refine lv_bipush (v := (-2)) hx hb dX3_strike_25 (by decide) ?_
  refine h_wrV (As := [.int (nI x), .int (-2)]) (rest := []) hF (c_X3_put l G A (hput hp mo (eO 3 [.int (nI 0), .ref dk, .ref lv, .ref nb])) X mo dk lv nb lvl row ((nI 0)) d V rm dt hm hX hD hI x (by omega) ((-2)) (by decide) hA0) 2 gX3_strike_X3_put rfl (by decide +kernel) ⟨Nat.le_of_ble_eq_true rfl, Nat.le_of_ble_eq_true rfl⟩ hK0 hV0 hA hS hm.cmo rfl rfl rfl hl.1 rfl (Nat.le_of_ble_eq_true rfl) ⟨Nat.le_of_ble_eq_true rfl, Nat.le_of_ble_eq_true rfl⟩ dX3_strike_27 (fun ro hp1 H locs hP1 hV0 hA0 hS => ?_)
  obtain ⟨rfl, dk2, lv2, nb2, lvl2, row2, hm2, hX2, hD2, hK2⟩ := hP1
  refine h_if_eqB (tgt := 37) hx hb dX3_strike_30 (by decide) (fun c_30 => ?_) (fun c_30 => ?_)
  · refine lv_iconst (v := nI 0) hx hb dX3_strike_37 (by decide) ?_
    exact W.zret hx hb hr (by first | exact narrow_bI _ | rfl) (h_qW ⟨by rw [c_30]; rfl, dk2, lv2, nb2, lvl2, row2, hm2, hX2, hD2, hK.tr hK2⟩ hV0 hA0 hS) hS.2.2 dX3_strike_38 hlocks
  · refine lv_iconst (v := nI 1) hx hb dX3_strike_33 (by decide) ?_
    refine lv_goto (tgt := 38) hx hb dX3_strike_34 (by decide) ?_
    exact W.zret hx hb hr (by first | exact narrow_bI _ | rfl) (h_qW ⟨by rw [c_30]; rfl, dk2, lv2, nb2, lvl2, row2, hm2, hX2, hD2, hK.tr hK2⟩ hV0 hA0 hS) hS.2.2 dX3_strike_38 hlocks

set_option maxHeartbeats 1000000 in
set_option maxRecDepth 100000 in
theorem c_X3_strikeN (l : Launch) (G : hG) (A : Nat → Prop) (hp : HP) (X : Nat → Prop) (mo dk lv nb : Nat) (lvl : Nat → Nat) (row : Nat → Nat → Nat) (th : Int32) (d : Row) (V : BV) (rm dt : Int32) (hm : mA mo dk lv nb lvl row th d V rm dt hp) (hX : mX X mo dk lv nb hp) (hD : mD dk row V) (x : Int32) (hb0 : x < 0 ∨ nI 64 ≤ x) (hA0 : hIn A hp) : hWr l yX3_strike wsX3_strike 2 42 0 0 G A hp [.ref mo, .int x] (fun ro hp' => ro = some (.int (bI false)) ∧ mP X mo (nI 1) d V rm dt hp hp') := by
  refine Met.ofW (cc := cX3_strike) (maxL := 2) (ret := (some .boolean)) (by decide) rfl ?_
  intro p e s m args below meth c s₁ B hml hv
  obtain ⟨rfl, hV0, hK0, hA⟩ := hv
  have hx := B.exec
  have hb := B.bytes
  have hr := B.returns
  have hts := atoms_spec (ws := wsX3_strike) B.pre
  have hown : s.vm.findClass RX3 = some m.cls := findClass_of_methodNamed B.named
  have hlocks := B.notSynchronized
  have hF : CallFix p m c cX3_strike 2 s [.ref mo, .int x].toArray wsX3_strike RX3 := ⟨hx, hb, hml, hown, hts⟩
  have hw0 := hts (.fieldLink RX3 27 "SlipLevelsModel" "thrown" "I") (by decide +kernel)
  have hi3 : ∀ w ∈ u_ws RX3 TX3 4, w ∈ wsX3_strike := by
    intro w h
    unfold wsX3_strike
    simp only [List.mem_cons, List.mem_append, h, true_or, or_true]
  have hS : va_S A s.heap s.heap [] := va_S.rf
  have hl := lv_entry ([.ref mo, .int x]) (n := 2) (Nat.le_of_ble_eq_true rfl)
  rw [lg_entry_eq]
  generalize (lg_sl ([.ref mo, .int x]) ++ List.replicate (2 - (lg_sl ([.ref mo, .int x])).length) Slot.unset).toArray = ls at hl ⊢
  replace hl : lv_has ls 2 [(0, .ref mo), (1, .int x)] := hl
  have hn := hm.le
  have hK : mKp X hp hp := mKp.rf
  refine lv_aload_n hx hb dX3_strike_0 rfl (lv_at hl 0 rfl) ?_
  refine lv_iload_n hx hb dX3_strike_1 rfl (lv_at hl 1 rfl) ?_
  refine h_rdS (As := [.int x]) (rest := [.ref mo]) hF (c_X3_isNumber l G hp (x)) 1 gX3_strike_X3_isNumber rfl (by decide +kernel) ⟨Nat.le_of_ble_eq_true rfl, Nat.le_of_ble_eq_true rfl⟩ hK0 hV0 rfl hl.1 rfl (Nat.le_of_ble_eq_true rfl) (Nat.le_of_ble_eq_true rfl) (Nat.le_of_ble_eq_true rfl) dX3_strike_2 ?_
  refine h_if_eqB (tgt := 12) hx hb dX3_strike_5 (by decide) (fun c_5 => ?_) (fun c_5 => absurd ((isN_n (c := 63) hb0 (by omega)).symm.trans c_5) (by decide))
  refine lv_iconst (v := nI 1) hx hb dX3_strike_12 (by decide) ?_
  refine h_put (v := .int (nI 1)) hx hb hts hi3 tyX3 tyX3_ok nmX3 hown hK0 hV0 hA0 hS hm.cmo rfl 0 (by decide) hw0 rfl (by rfl) (by rfl) (Nat.le_of_ble_eq_true rfl) dX3_strike_13 (fun H locs hV0 hA0 hS => ?_)
  have hm : mA mo dk lv nb lvl row ((nI 1)) d V rm dt (hput hp mo (eO 3 [.int (nI 1), .ref dk, .ref lv, .ref nb])) := hm.setTh (nI 1)
  have hX : mX X mo dk lv nb (hput hp mo (eO 3 [.int (nI 1), .ref dk, .ref lv, .ref nb])) := hX.put _ _
  have hK : mKp X hp (hput hp mo (eO 3 [.int (nI 1), .ref dk, .ref lv, .ref nb])) := hK.put hX.1.1
  have hn := hm.le
  refine lv_aload_n hx hb dX3_strike_16 rfl (lv_at hl 0 rfl) ?_
  refine h_get (v := .int (nI 1)) hx hb hts hi3 hown hK0 hV0 hm.cmo rfl 0 (by decide) hw0 rfl dX3_strike_17 ?_
  refine h_if_ne (a := 1) (tgt := 37) hx hb dX3_strike_20 (by decide) (by omega) (fun c_20 => ?_) (fun c_20 => absurd c_20 (by decide))
  refine lv_iconst (v := nI 0) hx hb dX3_strike_37 (by decide) ?_
  exact W.zret hx hb hr (by first | exact narrow_bI _ | rfl) (h_qW ⟨rfl, dk, lv, nb, lvl, row, hm, hX, hD, hK⟩ hV0 hA0 hS) hS.2.2 dX3_strike_38 hlocks

set_option maxHeartbeats 1000000 in
set_option maxRecDepth 100000 in
theorem c_X3_bindN (l : Launch) (G : hG) (A : Nat → Prop) (hp : HP) (X : Nat → Prop) (mo dk lv nb : Nat) (lvl : Nat → Nat) (row : Nat → Nat → Nat) (th : Int32) (d : Row) (V : BV) (rm dt : Int32) (hm : mA mo dk lv nb lvl row th d V rm dt hp) (hX : mX X mo dk lv nb hp) (hD : mD dk row V) (hz : szR d = 0) (hA0 : hIn A hp) : hWr l yX3_bind wsX3_bind 2 46 0 0 G A hp [.ref mo] (fun ro hp' => ro = some (.int (nI 0)) ∧ mP X mo (nI 0) d V rm dt hp hp') := by
  refine Met.ofW (cc := cX3_bind) (maxL := 1) (ret := (some .int)) (by decide) rfl ?_
  intro p e s m args below meth c s₁ B hml hv
  obtain ⟨rfl, hV0, hK0, hA⟩ := hv
  have hx := B.exec
  have hb := B.bytes
  have hr := B.returns
  have hts := atoms_spec (ws := wsX3_bind) B.pre
  have hown : s.vm.findClass RX3 = some m.cls := findClass_of_methodNamed B.named
  have hlocks := B.notSynchronized
  have hF : CallFix p m c cX3_bind 1 s [.ref mo].toArray wsX3_bind RX3 := ⟨hx, hb, hml, hown, hts⟩
  have hw0 := hts (.fieldLink RX3 27 "SlipLevelsModel" "thrown" "I") (by decide +kernel)
  have hi3 : ∀ w ∈ u_ws RX3 TX3 4, w ∈ wsX3_bind := by
    intro w h
    unfold wsX3_bind
    simp only [List.mem_cons, List.mem_append, h, true_or, or_true]
  have hS : va_S A s.heap s.heap [] := va_S.rf
  have hl := lv_entry ([.ref mo]) (n := 1) (Nat.le_of_ble_eq_true rfl)
  rw [lg_entry_eq]
  generalize (lg_sl ([.ref mo]) ++ List.replicate (1 - (lg_sl ([.ref mo])).length) Slot.unset).toArray = ls at hl ⊢
  replace hl : lv_has ls 1 [(0, .ref mo)] := hl
  have hn := hm.le
  have hK : mKp X hp hp := mKp.rf
  refine lv_aload_n hx hb dX3_bind_0 rfl (lv_at hl 0 rfl) ?_
  refine lv_iconst (v := nI 0) hx hb dX3_bind_1 (by decide) ?_
  refine h_put (v := .int (nI 0)) hx hb hts hi3 tyX3 tyX3_ok nmX3 hown hK0 hV0 hA0 hS hm.cmo rfl 0 (by decide) hw0 rfl (by rfl) (by rfl) (Nat.le_of_ble_eq_true rfl) dX3_bind_2 (fun H locs hV0 hA0 hS => ?_)
  have hm : mA mo dk lv nb lvl row ((nI 0)) d V rm dt (hput hp mo (eO 3 [.int (nI 0), .ref dk, .ref lv, .ref nb])) := hm.setTh (nI 0)
  have hX : mX X mo dk lv nb (hput hp mo (eO 3 [.int (nI 0), .ref dk, .ref lv, .ref nb])) := hX.put _ _
  have hK : mKp X hp (hput hp mo (eO 3 [.int (nI 0), .ref dk, .ref lv, .ref nb])) := hK.put hX.1.1
  have hn := hm.le
  refine lv_aload_n hx hb dX3_bind_5 rfl (lv_at hl 0 rfl) ?_
  refine h_wrV (As := []) (rest := []) hF (c_X3_boundN l G A (hput hp mo (eO 3 [.int (nI 0), .ref dk, .ref lv, .ref nb])) X mo dk lv nb lvl row ((nI 0)) d V rm dt hm hX hD hz hA0) 0 gX3_bind_X3_bound rfl (by decide +kernel) ⟨Nat.le_of_ble_eq_true rfl, Nat.le_of_ble_eq_true rfl⟩ hK0 hV0 hA hS hm.cmo rfl rfl rfl hl.1 rfl (Nat.le_of_ble_eq_true rfl) ⟨Nat.le_of_ble_eq_true rfl, Nat.le_of_ble_eq_true rfl⟩ dX3_bind_6 (fun ro hp1 H locs hP1 hV0 hA0 hS => ?_)
  obtain ⟨rfl, lvl2, row2, hm2, hX2, hD2, hK2⟩ := hP1
  exact W.iret hx hb hr (h_qW ⟨rfl, dk, lv, nb, lvl2, row2, hm2, hX2, hD2, hK.tr hK2⟩ hV0 hA0 hS) hS.2.2 dX3_bind_9 hlocks

set_option maxHeartbeats 1000000 in
set_option maxRecDepth 100000 in
theorem c_X3_bind (l : Launch) (G : hG) (A : Nat → Prop) (hp : HP) (X : Nat → Prop) (mo dk lv nb : Nat) (lvl : Nat → Nat) (row : Nat → Nat → Nat) (th : Int32) (d : Row) (V : BV) (rm dt : Int32) (hm : mA mo dk lv nb lvl row th d V rm dt hp) (hX : mX X mo dk lv nb hp) (hD : mD dk row V) (hI : ∀ l, l < 4 → bN V l ≤ 2) (hz : ¬ szR d = 0) (hA0 : hIn A hp) : hWr l yX3_bind wsX3_bind 5 115 14 335 G A hp [.ref mo] (fun ro hp' => ro = some (.int (bM (stB (cmB V 0 d) 4) - bM V)) ∧ mP X mo (nI 0) emR (stB (cmB V 0 d) 4) rm dt hp hp') := by
  refine Met.ofW (cc := cX3_bind) (maxL := 1) (ret := (some .int)) (by decide) rfl ?_
  intro p e s m args below meth c s₁ B hml hv
  obtain ⟨rfl, hV0, hK0, hA⟩ := hv
  have hx := B.exec
  have hb := B.bytes
  have hr := B.returns
  have hts := atoms_spec (ws := wsX3_bind) B.pre
  have hown : s.vm.findClass RX3 = some m.cls := findClass_of_methodNamed B.named
  have hlocks := B.notSynchronized
  have hF : CallFix p m c cX3_bind 1 s [.ref mo].toArray wsX3_bind RX3 := ⟨hx, hb, hml, hown, hts⟩
  have hw0 := hts (.fieldLink RX3 27 "SlipLevelsModel" "thrown" "I") (by decide +kernel)
  have hi3 : ∀ w ∈ u_ws RX3 TX3 4, w ∈ wsX3_bind := by
    intro w h
    unfold wsX3_bind
    simp only [List.mem_cons, List.mem_append, h, true_or, or_true]
  have hS : va_S A s.heap s.heap [] := va_S.rf
  have hl := lv_entry ([.ref mo]) (n := 1) (Nat.le_of_ble_eq_true rfl)
  rw [lg_entry_eq]
  generalize (lg_sl ([.ref mo]) ++ List.replicate (1 - (lg_sl ([.ref mo])).length) Slot.unset).toArray = ls at hl ⊢
  replace hl : lv_has ls 1 [(0, .ref mo)] := hl
  have hn := hm.le
  have hK : mKp X hp hp := mKp.rf
  refine lv_aload_n hx hb dX3_bind_0 rfl (lv_at hl 0 rfl) ?_
  refine lv_iconst (v := nI 0) hx hb dX3_bind_1 (by decide) ?_
  refine h_put (v := .int (nI 0)) hx hb hts hi3 tyX3 tyX3_ok nmX3 hown hK0 hV0 hA0 hS hm.cmo rfl 0 (by decide) hw0 rfl (by rfl) (by rfl) (Nat.le_of_ble_eq_true rfl) dX3_bind_2 (fun H locs hV0 hA0 hS => ?_)
  have hm : mA mo dk lv nb lvl row ((nI 0)) d V rm dt (hput hp mo (eO 3 [.int (nI 0), .ref dk, .ref lv, .ref nb])) := hm.setTh (nI 0)
  have hX : mX X mo dk lv nb (hput hp mo (eO 3 [.int (nI 0), .ref dk, .ref lv, .ref nb])) := hX.put _ _
  have hK : mKp X hp (hput hp mo (eO 3 [.int (nI 0), .ref dk, .ref lv, .ref nb])) := hK.put hX.1.1
  have hn := hm.le
  refine lv_aload_n hx hb dX3_bind_5 rfl (lv_at hl 0 rfl) ?_
  refine h_wrV (As := []) (rest := []) hF (c_X3_bound l G A (hput hp mo (eO 3 [.int (nI 0), .ref dk, .ref lv, .ref nb])) X mo dk lv nb lvl row ((nI 0)) d V rm dt hm hX hD hI hz hA0) 0 gX3_bind_X3_bound rfl (by decide +kernel) ⟨Nat.le_of_ble_eq_true rfl, Nat.le_of_ble_eq_true rfl⟩ hK0 hV0 hA hS hm.cmo rfl rfl rfl hl.1 rfl (Nat.le_of_ble_eq_true rfl) ⟨Nat.le_of_ble_eq_true rfl, Nat.le_of_ble_eq_true rfl⟩ dX3_bind_6 (fun ro hp1 H locs hP1 hV0 hA0 hS => ?_)
  obtain ⟨rfl, dk2, lv2, nb2, lvl2, row2, hm2, hX2, hD2, hK2⟩ := hP1
  have hn := hm2.le
  exact W.iret hx hb hr (h_qW ⟨rfl, dk2, lv2, nb2, lvl2, row2, hm2, hX2, hD2, hK.tr hK2⟩ hV0 hA0 hS) hS.2.2 dX3_bind_9 hlocks

set_option maxHeartbeats 1000000 in
set_option maxRecDepth 100000 in
theorem c_X3_mergeL (l : Launch) (G : hG) (A : Nat → Prop) (hp : HP) (X : Nat → Prop) (mo dk lv nb : Nat) (lvl : Nat → Nat) (row : Nat → Nat → Nat) (th : Int32) (d : Row) (V : BV) (rm dt : Int32) (hm : mA mo dk lv nb lvl row th d V rm dt hp) (hX : mX X mo dk lv nb hp) (hD : mD dk row V) (x : Int32) (hb0 : x < 0 ∨ nI 4 ≤ x) (hA0 : hIn A hp) : hWr l yX3_merge wsX3_merge 2 42 0 0 G A hp [.ref mo, .int x] (fun ro hp' => ro = some (.int (nI 0)) ∧ mP X mo (nI 1) d V rm dt hp hp') := by
  refine Met.ofW (cc := cX3_merge) (maxL := 3) (ret := (some .int)) (by decide) rfl ?_
  intro p e s m args below meth c s₁ B hml hv
  obtain ⟨rfl, hV0, hK0, hA⟩ := hv
  have hx := B.exec
  have hb := B.bytes
  have hr := B.returns
  have hts := atoms_spec (ws := wsX3_merge) B.pre
  have hown : s.vm.findClass RX3 = some m.cls := findClass_of_methodNamed B.named
  have hlocks := B.notSynchronized
  have hF : CallFix p m c cX3_merge 3 s [.ref mo, .int x].toArray wsX3_merge RX3 := ⟨hx, hb, hml, hown, hts⟩
  have hw0 := hts (.fieldLink RX3 27 "SlipLevelsModel" "thrown" "I") (by decide +kernel)
  have hi3 : ∀ w ∈ u_ws RX3 TX3 4, w ∈ wsX3_merge := by
    intro w h
    unfold wsX3_merge
    simp only [List.mem_cons, List.mem_append, h, true_or, or_true]
  have hS : va_S A s.heap s.heap [] := va_S.rf
  have hl := lv_entry ([.ref mo, .int x]) (n := 3) (Nat.le_of_ble_eq_true rfl)
  rw [lg_entry_eq]
  generalize (lg_sl ([.ref mo, .int x]) ++ List.replicate (3 - (lg_sl ([.ref mo, .int x])).length) Slot.unset).toArray = ls at hl ⊢
  replace hl : lv_has ls 3 [(0, .ref mo), (1, .int x)] := hl
  have hn := hm.le
  have hK : mKp X hp hp := mKp.rf
  refine lv_aload_n hx hb dX3_merge_0 rfl (lv_at hl 0 rfl) ?_
  refine lv_iconst (v := nI 0) hx hb dX3_merge_1 (by decide) ?_
  refine h_put (v := .int (nI 0)) hx hb hts hi3 tyX3 tyX3_ok nmX3 hown hK0 hV0 hA0 hS hm.cmo rfl 0 (by decide) hw0 rfl (by rfl) (by rfl) (Nat.le_of_ble_eq_true rfl) dX3_merge_2 (fun H locs hV0 hA0 hS => ?_)
  have hm : mA mo dk lv nb lvl row ((nI 0)) d V rm dt (hput hp mo (eO 3 [.int (nI 0), .ref dk, .ref lv, .ref nb])) := hm.setTh (nI 0)
  have hX : mX X mo dk lv nb (hput hp mo (eO 3 [.int (nI 0), .ref dk, .ref lv, .ref nb])) := hX.put _ _
  have hK : mKp X hp (hput hp mo (eO 3 [.int (nI 0), .ref dk, .ref lv, .ref nb])) := hK.put hX.1.1
  have hn := hm.le
  refine lv_iload_n hx hb dX3_merge_5 rfl (lv_at hl 1 rfl) ?_
  refine h_rdS (As := [.int x]) (rest := []) hF (c_X3_isLevel l G (hput hp mo (eO 3 [.int (nI 0), .ref dk, .ref lv, .ref nb])) (x)) 1 gX3_merge_X3_isLevel rfl (by decide +kernel) ⟨Nat.le_of_ble_eq_true rfl, Nat.le_of_ble_eq_true rfl⟩ hK0 hV0 rfl hl.1 rfl (Nat.le_of_ble_eq_true rfl) (Nat.le_of_ble_eq_true rfl) (Nat.le_of_ble_eq_true rfl) dX3_merge_6 ?_
  refine h_if_neB (tgt := 18) hx hb dX3_merge_9 (by decide) (fun c_9 => absurd ((isN_n (c := 3) hb0 (by omega)).symm.trans c_9) (by decide)) (fun c_9 => ?_)
  refine lv_aload_n hx hb dX3_merge_12 rfl (lv_at hl 0 rfl) ?_
  refine lv_iconst (v := nI 1) hx hb dX3_merge_13 (by decide) ?_
  refine h_wrV (As := [.int (nI 1)]) (rest := []) hF (c_X3_fail l G A (hput hp mo (eO 3 [.int (nI 0), .ref dk, .ref lv, .ref nb])) X mo dk lv nb lvl row ((nI 0)) d V rm dt hm hX 1 hD hA0) 1 gX3_merge_X3_fail rfl (by decide +kernel) ⟨Nat.le_of_ble_eq_true rfl, Nat.le_of_ble_eq_true rfl⟩ hK0 hV0 hA hS hm.cmo rfl rfl rfl hl.1 rfl (Nat.le_of_ble_eq_true rfl) ⟨Nat.le_of_ble_eq_true rfl, Nat.le_of_ble_eq_true rfl⟩ dX3_merge_14 (fun ro hp1 H locs hP1 hV0 hA0 hS => ?_)
  obtain ⟨rfl, lvl2, row2, hm2, hX2, hD2, hK2⟩ := hP1
  exact W.iret hx hb hr (h_qW ⟨rfl, dk, lv, nb, lvl2, row2, hm2, hX2, hD2, hK.tr hK2⟩ hV0 hA0 hS) hS.2.2 dX3_merge_17 hlocks

set_option maxHeartbeats 1000000 in
set_option maxRecDepth 100000 in
theorem c_X3_mergeN (l : Launch) (G : hG) (A : Nat → Prop) (hp : HP) (X : Nat → Prop) (mo dk lv nb : Nat) (lvl : Nat → Nat) (row : Nat → Nat → Nat) (th : Int32) (d : Row) (V : BV) (rm dt : Int32) (hm : mA mo dk lv nb lvl row th d V rm dt hp) (hX : mX X mo dk lv nb hp) (hD : mD dk row V) (lz : Nat) (hl4 : lz < 4) (hz : bN V lz = 0) (hA0 : hIn A hp) : hWr l yX3_merge wsX3_merge 2 42 0 0 G A hp [.ref mo, .int (nI lz)] (fun ro hp' => ro = some (.int (nI 0)) ∧ mP X mo (nI 2) d V rm dt hp hp') := by
  refine Met.ofW (cc := cX3_merge) (maxL := 3) (ret := (some .int)) (by decide) rfl ?_
  intro p e s m args below meth c s₁ B hml hv
  obtain ⟨rfl, hV0, hK0, hA⟩ := hv
  have hx := B.exec
  have hb := B.bytes
  have hr := B.returns
  have hts := atoms_spec (ws := wsX3_merge) B.pre
  have hown : s.vm.findClass RX3 = some m.cls := findClass_of_methodNamed B.named
  have hlocks := B.notSynchronized
  have hF : CallFix p m c cX3_merge 3 s [.ref mo, .int (nI lz)].toArray wsX3_merge RX3 := ⟨hx, hb, hml, hown, hts⟩
  have hw0 := hts (.fieldLink RX3 27 "SlipLevelsModel" "thrown" "I") (by decide +kernel)
  have hw1 := hts (.fieldLink RX3 20 "SlipLevelsModel" "levels" "[[[I") (by decide +kernel)
  have hi3 : ∀ w ∈ u_ws RX3 TX3 4, w ∈ wsX3_merge := by
    intro w h
    unfold wsX3_merge
    simp only [List.mem_cons, List.mem_append, h, true_or, or_true]
  have hS : va_S A s.heap s.heap [] := va_S.rf
  have hl := lv_entry ([.ref mo, .int (nI lz)]) (n := 3) (Nat.le_of_ble_eq_true rfl)
  rw [lg_entry_eq]
  generalize (lg_sl ([.ref mo, .int (nI lz)]) ++ List.replicate (3 - (lg_sl ([.ref mo, .int (nI lz)])).length) Slot.unset).toArray = ls at hl ⊢
  replace hl : lv_has ls 3 [(0, .ref mo), (1, .int (nI lz))] := hl
  have hn := hm.le
  have hK : mKp X hp hp := mKp.rf
  have hnl := hn lz
  refine lv_aload_n hx hb dX3_merge_0 rfl (lv_at hl 0 rfl) ?_
  refine lv_iconst (v := nI 0) hx hb dX3_merge_1 (by decide) ?_
  refine h_put (v := .int (nI 0)) hx hb hts hi3 tyX3 tyX3_ok nmX3 hown hK0 hV0 hA0 hS hm.cmo rfl 0 (by decide) hw0 rfl (by rfl) (by rfl) (Nat.le_of_ble_eq_true rfl) dX3_merge_2 (fun H locs hV0 hA0 hS => ?_)
  have hm : mA mo dk lv nb lvl row ((nI 0)) d V rm dt (hput hp mo (eO 3 [.int (nI 0), .ref dk, .ref lv, .ref nb])) := hm.setTh (nI 0)
  have hX : mX X mo dk lv nb (hput hp mo (eO 3 [.int (nI 0), .ref dk, .ref lv, .ref nb])) := hX.put _ _
  have hK : mKp X hp (hput hp mo (eO 3 [.int (nI 0), .ref dk, .ref lv, .ref nb])) := hK.put hX.1.1
  have hn := hm.le
  refine lv_iload_n hx hb dX3_merge_5 rfl (lv_at hl 1 rfl) ?_
  refine h_rdS (As := [.int (nI lz)]) (rest := []) hF (c_X3_isLevel l G (hput hp mo (eO 3 [.int (nI 0), .ref dk, .ref lv, .ref nb])) (nI lz)) 1 gX3_merge_X3_isLevel rfl (by decide +kernel) ⟨Nat.le_of_ble_eq_true rfl, Nat.le_of_ble_eq_true rfl⟩ hK0 hV0 rfl hl.1 rfl (Nat.le_of_ble_eq_true rfl) (Nat.le_of_ble_eq_true rfl) (Nat.le_of_ble_eq_true rfl) dX3_merge_6 ?_
  refine h_if_neB (tgt := 18) hx hb dX3_merge_9 (by decide) (fun c_9 => ?_) (fun c_9 => absurd ((isN_y (x := lz) (c := 3) (by omega) (by omega)).symm.trans c_9) (by decide))
  refine lv_aload_n hx hb dX3_merge_18 rfl (lv_at hl 0 rfl) ?_
  refine h_get (v := .ref lv) hx hb hts hi3 hown hK0 hV0 hm.cmo rfl 2 (by decide) hw1 rfl dX3_merge_19 ?_
  refine lv_iload_n hx hb dX3_merge_22 rfl (lv_at hl 1 rfl) ?_
  refine h_aaldE (i := lz) hm.clv hx hb hK0 hV0 rfl rfl (by omega) (by omega) dX3_merge_23 ?_
  refine h_alenQ (hm.clvl (l := lz) (by omega)) hx hb hK0 hV0 rfl dX3_merge_24 ?_
  refine h_if_ne (a := bN V lz) (tgt := 34) hx hb dX3_merge_25 (by decide) (by omega) (fun c_25 => absurd hz c_25) (fun c_25 => ?_)
  refine lv_aload_n hx hb dX3_merge_28 rfl (lv_at hl 0 rfl) ?_
  refine lv_iconst (v := nI 2) hx hb dX3_merge_29 (by decide) ?_
  refine h_wrV (As := [.int (nI 2)]) (rest := []) hF (c_X3_fail l G A (hput hp mo (eO 3 [.int (nI 0), .ref dk, .ref lv, .ref nb])) X mo dk lv nb lvl row ((nI 0)) d V rm dt hm hX 2 hD hA0) 1 gX3_merge_X3_fail rfl (by decide +kernel) ⟨Nat.le_of_ble_eq_true rfl, Nat.le_of_ble_eq_true rfl⟩ hK0 hV0 hA hS hm.cmo rfl rfl rfl hl.1 rfl (Nat.le_of_ble_eq_true rfl) ⟨Nat.le_of_ble_eq_true rfl, Nat.le_of_ble_eq_true rfl⟩ dX3_merge_30 (fun ro hp1 H locs hP1 hV0 hA0 hS => ?_)
  obtain ⟨rfl, lvl2, row2, hm2, hX2, hD2, hK2⟩ := hP1
  exact W.iret hx hb hr (h_qW ⟨rfl, dk, lv, nb, lvl2, row2, hm2, hX2, hD2, hK.tr hK2⟩ hV0 hA0 hS) hS.2.2 dX3_merge_33 hlocks

set_option maxHeartbeats 1000000 in
set_option maxRecDepth 100000 in
theorem c_X3_merge (l : Launch) (G : hG) (A : Nat → Prop) (hp : HP) (X : Nat → Prop) (mo dk lv nb : Nat) (lvl : Nat → Nat) (row : Nat → Nat → Nat) (th : Int32) (d : Row) (V : BV) (rm dt : Int32) (hm : mA mo dk lv nb lvl row th d V rm dt hp) (hX : mX X mo dk lv nb hp) (hD : mD dk row V) (hI : ∀ l, l < 4 → bN V l ≤ 2) (lz : Nat) (hl4 : lz < 4) (hz : ¬ bN V lz = 0) (hA0 : hIn A hp) : hWr l yX3_merge wsX3_merge 4 94 15 335 G A hp [.ref mo, .int (nI lz)] (fun ro hp' => ro = some (.int (bM (stB (mgB V lz) 4) - bM V)) ∧ mP X mo (nI 0) d (stB (mgB V lz) 4) rm dt hp hp') := by
  refine Met.ofW (cc := cX3_merge) (maxL := 3) (ret := (some .int)) (by decide) rfl ?_
  intro p e s m args below meth c s₁ B hml hv
  obtain ⟨rfl, hV0, hK0, hA⟩ := hv
  have hx := B.exec
  have hb := B.bytes
  have hr := B.returns
  have hts := atoms_spec (ws := wsX3_merge) B.pre
  have hown : s.vm.findClass RX3 = some m.cls := findClass_of_methodNamed B.named
  have hlocks := B.notSynchronized
  have hF : CallFix p m c cX3_merge 3 s [.ref mo, .int (nI lz)].toArray wsX3_merge RX3 := ⟨hx, hb, hml, hown, hts⟩
  have hw0 := hts (.fieldLink RX3 27 "SlipLevelsModel" "thrown" "I") (by decide +kernel)
  have hw1 := hts (.fieldLink RX3 20 "SlipLevelsModel" "levels" "[[[I") (by decide +kernel)
  have hw2 := hts (.fieldLink RX3 24 "SlipLevelsModel" "numbers" "[I") (by decide +kernel)
  have hi3 : ∀ w ∈ u_ws RX3 TX3 4, w ∈ wsX3_merge := by
    intro w h
    unfold wsX3_merge
    simp only [List.mem_cons, List.mem_append, h, true_or, or_true]
  have hS : va_S A s.heap s.heap [] := va_S.rf
  have hl := lv_entry ([.ref mo, .int (nI lz)]) (n := 3) (Nat.le_of_ble_eq_true rfl)
  rw [lg_entry_eq]
  generalize (lg_sl ([.ref mo, .int (nI lz)]) ++ List.replicate (3 - (lg_sl ([.ref mo, .int (nI lz)])).length) Slot.unset).toArray = ls at hl ⊢
  replace hl : lv_has ls 3 [(0, .ref mo), (1, .int (nI lz))] := hl
  have hn := hm.le
  have hK : mKp X hp hp := mKp.rf
  have hnl := hn lz
  refine lv_aload_n hx hb dX3_merge_0 rfl (lv_at hl 0 rfl) ?_
  refine lv_iconst (v := nI 0) hx hb dX3_merge_1 (by decide) ?_
  refine h_put (v := .int (nI 0)) hx hb hts hi3 tyX3 tyX3_ok nmX3 hown hK0 hV0 hA0 hS hm.cmo rfl 0 (by decide) hw0 rfl (by rfl) (by rfl) (Nat.le_of_ble_eq_true rfl) dX3_merge_2 (fun H locs hV0 hA0 hS => ?_)
  have hm : mA mo dk lv nb lvl row ((nI 0)) d V rm dt (hput hp mo (eO 3 [.int (nI 0), .ref dk, .ref lv, .ref nb])) := hm.setTh (nI 0)
  have hX : mX X mo dk lv nb (hput hp mo (eO 3 [.int (nI 0), .ref dk, .ref lv, .ref nb])) := hX.put _ _
  have hK : mKp X hp (hput hp mo (eO 3 [.int (nI 0), .ref dk, .ref lv, .ref nb])) := hK.put hX.1.1
  have hn := hm.le
  refine lv_iload_n hx hb dX3_merge_5 rfl (lv_at hl 1 rfl) ?_
  refine h_rdS (As := [.int (nI lz)]) (rest := []) hF (c_X3_isLevel l G (hput hp mo (eO 3 [.int (nI 0), .ref dk, .ref lv, .ref nb])) (nI lz)) 1 gX3_merge_X3_isLevel rfl (by decide +kernel) ⟨Nat.le_of_ble_eq_true rfl, Nat.le_of_ble_eq_true rfl⟩ hK0 hV0 rfl hl.1 rfl (Nat.le_of_ble_eq_true rfl) (Nat.le_of_ble_eq_true rfl) (Nat.le_of_ble_eq_true rfl) dX3_merge_6 ?_
  refine h_if_neB (tgt := 18) hx hb dX3_merge_9 (by decide) (fun c_9 => ?_) (fun c_9 => absurd ((isN_y (x := lz) (c := 3) (by omega) (by omega)).symm.trans c_9) (by decide))
  refine lv_aload_n hx hb dX3_merge_18 rfl (lv_at hl 0 rfl) ?_
  refine h_get (v := .ref lv) hx hb hts hi3 hown hK0 hV0 hm.cmo rfl 2 (by decide) hw1 rfl dX3_merge_19 ?_
  refine lv_iload_n hx hb dX3_merge_22 rfl (lv_at hl 1 rfl) ?_
  refine h_aaldE (i := lz) hm.clv hx hb hK0 hV0 rfl rfl (by omega) (by omega) dX3_merge_23 ?_
  refine h_alenQ (hm.clvl (l := lz) (by omega)) hx hb hK0 hV0 rfl dX3_merge_24 ?_
  refine h_if_ne (a := bN V lz) (tgt := 34) hx hb dX3_merge_25 (by decide) (by omega) (fun c_25 => ?_) (fun c_25 => absurd c_25 hz)
  refine lv_aload_n hx hb dX3_merge_34 rfl (lv_at hl 0 rfl) ?_
  refine h_get (v := .ref nb) hx hb hts hi3 hown hK0 hV0 hm.cmo rfl 3 (by decide) hw2 rfl dX3_merge_35 ?_
  refine lv_iconst (v := nI 1) hx hb dX3_merge_38 (by decide) ?_
  refine h_ialdN (i := 1) (x := bM V) hm.cnb rfl (by omega) hx hb hK0 hV0 dX3_merge_39 ?_
  refine lv_istore_n (lv' := [(2, .int (bM V)), (0, .ref mo), (1, .int (nI lz))]) hx hb dX3_merge_40 rfl hl (by decide) rfl (fun ls hl => ?_)
  refine lv_aload_n hx hb dX3_merge_41 rfl (lv_at hl 1 rfl) ?_
  refine lv_iload_n hx hb dX3_merge_42 rfl (lv_at hl 2 rfl) ?_
  refine h_wrV (As := [.int (nI lz)]) (rest := []) hF (c_X3_mergeOne l G A (hput hp mo (eO 3 [.int (nI 0), .ref dk, .ref lv, .ref nb])) X mo dk lv nb lvl row ((nI 0)) d V rm dt hm hX lz (by omega) hD (oneB_all hI lz) hA0) 1 gX3_merge_X3_mergeOne rfl (by decide +kernel) ⟨Nat.le_of_ble_eq_true rfl, Nat.le_of_ble_eq_true rfl⟩ hK0 hV0 hA hS hm.cmo rfl rfl rfl hl.1 rfl (Nat.le_of_ble_eq_true rfl) ⟨Nat.le_of_ble_eq_true rfl, Nat.le_of_ble_eq_true rfl⟩ dX3_merge_43 (fun ro hp1 H locs hP1 hV0 hA0 hS => ?_)
  obtain ⟨rfl, lvl2, row2, hm2, hX2, hD2, hK2⟩ := hP1
  have hn := hm2.le
  refine lv_aload_n hx hb dX3_merge_46 rfl (lv_at hl 1 rfl) ?_
  refine h_wrV (As := []) (rest := []) hF (c_X3_settle l G A hp1 X mo dk lv nb lvl2 row2 ((nI 0)) d ((mgB V lz)) rm dt hm2 hX2 hD2 (lz + 1) (mgB_one hl4 (oneB_all hI lz)) hA0) 0 gX3_merge_X3_settle rfl (by decide +kernel) ⟨Nat.le_of_ble_eq_true rfl, Nat.le_of_ble_eq_true rfl⟩ hK0 hV0 hA hS hm2.cmo rfl rfl rfl hl.1 rfl (Nat.le_of_ble_eq_true rfl) ⟨Nat.le_of_ble_eq_true rfl, Nat.le_of_ble_eq_true rfl⟩ dX3_merge_47 (fun ro hp1 H locs hP1 hV0 hA0 hS => ?_)
  obtain ⟨rfl, lvl3, row3, hm3, hX3, hD3, hK3⟩ := hP1
  have hn := hm3.le
  refine lv_aload_n hx hb dX3_merge_50 rfl (lv_at hl 1 rfl) ?_
  refine h_get (v := .ref nb) hx hb hts hi3 hown hK0 hV0 hm3.cmo rfl 3 (by decide) hw2 rfl dX3_merge_51 ?_
  refine lv_iconst (v := nI 1) hx hb dX3_merge_54 (by decide) ?_
  refine h_ialdN (i := 1) (x := bM ((stB ((mgB V lz)) 4))) hm3.cnb rfl (by omega) hx hb hK0 hV0 dX3_merge_55 ?_
  refine lv_iload_n hx hb dX3_merge_56 rfl (lv_at hl 0 rfl) ?_
  refine lv_isub hx hb dX3_merge_57 ?_
  exact W.iret hx hb hr (h_qW ⟨rfl, dk, lv, nb, lvl3, row3, hm3, hX3, hD3, (hK.tr hK2).tr hK3⟩ hV0 hA0 hS) hS.2.2 dX3_merge_58 hlocks

set_option maxHeartbeats 1000000 in
set_option maxRecDepth 100000 in
theorem c_X3_setRoomN (l : Launch) (G : hG) (A : Nat → Prop) (hp : HP) (X : Nat → Prop) (mo dk lv nb : Nat) (lvl : Nat → Nat) (row : Nat → Nat → Nat) (th : Int32) (d : Row) (V : BV) (rm dt : Int32) (hm : mA mo dk lv nb lvl row th d V rm dt hp) (hX : mX X mo dk lv nb hp) (hD : mD dk row V) (x : Int32) (hb0 : x < nI 1 ∨ nI 8 < x) (hA0 : hIn A hp) : hWr l yX3_setRoom wsX3_setRoom 1 22 0 0 G A hp [.ref mo, .int x] (fun ro hp' => ro = some (.int (nI 0)) ∧ mP X mo (nI 1) d V rm dt hp hp') := by
  refine Met.ofW (cc := cX3_setRoom) (maxL := 3) (ret := (some .int)) (by decide) rfl ?_
  intro p e s m args below meth c s₁ B hml hv
  obtain ⟨rfl, hV0, hK0, hA⟩ := hv
  have hx := B.exec
  have hb := B.bytes
  have hr := B.returns
  have hts := atoms_spec (ws := wsX3_setRoom) B.pre
  have hown : s.vm.findClass RX3 = some m.cls := findClass_of_methodNamed B.named
  have hlocks := B.notSynchronized
  have hF : CallFix p m c cX3_setRoom 3 s [.ref mo, .int x].toArray wsX3_setRoom RX3 := ⟨hx, hb, hml, hown, hts⟩
  have hw0 := hts (.fieldLink RX3 27 "SlipLevelsModel" "thrown" "I") (by decide +kernel)
  have hi3 : ∀ w ∈ u_ws RX3 TX3 4, w ∈ wsX3_setRoom := by
    intro w h
    unfold wsX3_setRoom
    simp only [List.mem_cons, List.mem_append, h, true_or, or_true]
  have hS : va_S A s.heap s.heap [] := va_S.rf
  have hl := lv_entry ([.ref mo, .int x]) (n := 3) (Nat.le_of_ble_eq_true rfl)
  rw [lg_entry_eq]
  generalize (lg_sl ([.ref mo, .int x]) ++ List.replicate (3 - (lg_sl ([.ref mo, .int x])).length) Slot.unset).toArray = ls at hl ⊢
  replace hl : lv_has ls 3 [(0, .ref mo), (1, .int x)] := hl
  have hn := hm.le
  have hK : mKp X hp hp := mKp.rf
  refine lv_aload_n hx hb dX3_setRoom_0 rfl (lv_at hl 0 rfl) ?_
  refine lv_iconst (v := nI 0) hx hb dX3_setRoom_1 (by decide) ?_
  refine h_put (v := .int (nI 0)) hx hb hts hi3 tyX3 tyX3_ok nmX3 hown hK0 hV0 hA0 hS hm.cmo rfl 0 (by decide) hw0 rfl (by rfl) (by rfl) (Nat.le_of_ble_eq_true rfl) dX3_setRoom_2 (fun H locs hV0 hA0 hS => ?_)
  have hm : mA mo dk lv nb lvl row ((nI 0)) d V rm dt (hput hp mo (eO 3 [.int (nI 0), .ref dk, .ref lv, .ref nb])) := hm.setTh (nI 0)
  have hX : mX X mo dk lv nb (hput hp mo (eO 3 [.int (nI 0), .ref dk, .ref lv, .ref nb])) := hX.put _ _
  have hK : mKp X hp (hput hp mo (eO 3 [.int (nI 0), .ref dk, .ref lv, .ref nb])) := hK.put hX.1.1
  have hn := hm.le
  refine lv_iload_n hx hb dX3_setRoom_5 rfl (lv_at hl 1 rfl) ?_
  refine lv_iconst (v := nI 1) hx hb dX3_setRoom_6 (by decide) ?_
  refine lv_bipush (v := nI 8) hx hb dX3_setRoom_7 (by decide) ?_
  refine h_rdS (As := [.int x, .int (nI 1), .int (nI 8)]) (rest := []) hF (c_X3_isIn l G (hput hp mo (eO 3 [.int (nI 0), .ref dk, .ref lv, .ref nb])) (x) (nI 1) (nI 8)) 3 gX3_setRoom_X3_isIn rfl (by decide +kernel) ⟨Nat.le_of_ble_eq_true rfl, Nat.le_of_ble_eq_true rfl⟩ hK0 hV0 rfl hl.1 rfl (Nat.le_of_ble_eq_true rfl) (Nat.le_of_ble_eq_true rfl) (Nat.le_of_ble_eq_true rfl) dX3_setRoom_9 ?_
  refine h_if_neB (tgt := 21) hx hb dX3_setRoom_12 (by decide) (fun c_12 => absurd ((room_n hb0).symm.trans c_12) (by decide)) (fun c_12 => ?_)
  refine lv_aload_n hx hb dX3_setRoom_15 rfl (lv_at hl 0 rfl) ?_
  refine lv_iconst (v := nI 1) hx hb dX3_setRoom_16 (by decide) ?_
  refine h_wrV (As := [.int (nI 1)]) (rest := []) hF (c_X3_fail l G A (hput hp mo (eO 3 [.int (nI 0), .ref dk, .ref lv, .ref nb])) X mo dk lv nb lvl row ((nI 0)) d V rm dt hm hX 1 hD hA0) 1 gX3_setRoom_X3_fail rfl (by decide +kernel) ⟨Nat.le_of_ble_eq_true rfl, Nat.le_of_ble_eq_true rfl⟩ hK0 hV0 hA hS hm.cmo rfl rfl rfl hl.1 rfl (Nat.le_of_ble_eq_true rfl) ⟨Nat.le_of_ble_eq_true rfl, Nat.le_of_ble_eq_true rfl⟩ dX3_setRoom_17 (fun ro hp1 H locs hP1 hV0 hA0 hS => ?_)
  obtain ⟨rfl, lvl2, row2, hm2, hX2, hD2, hK2⟩ := hP1
  exact W.iret hx hb hr (h_qW ⟨rfl, dk, lv, nb, lvl2, row2, hm2, hX2, hD2, hK.tr hK2⟩ hV0 hA0 hS) hS.2.2 dX3_setRoom_20 hlocks

set_option maxHeartbeats 1000000 in
set_option maxRecDepth 100000 in
theorem c_X3_setRoom (l : Launch) (G : hG) (A : Nat → Prop) (hp : HP) (X : Nat → Prop) (mo dk lv nb : Nat) (lvl : Nat → Nat) (row : Nat → Nat → Nat) (th : Int32) (d : Row) (V : BV) (rm dt : Int32) (hm : mA mo dk lv nb lvl row th d V rm dt hp) (hX : mX X mo dk lv nb hp) (hD : mD dk row V) (hI : ∀ l, l < 4 → bN V l ≤ 2) (r : Nat) (hr1 : 1 ≤ r) (hr8 : r ≤ 8) (hA0 : hIn A hp) : hWr l yX3_setRoom wsX3_setRoom 5 115 14 335 G A hp [.ref mo, .int (nI r)] (fun ro hp' => ro = some (.int rm) ∧ mP X mo (nI 0) (if szR d < r then d else emR) (if szR d < r then V else stB (cmB V 0 d) 4) (nI r) dt hp hp') := by
  refine Met.ofW (cc := cX3_setRoom) (maxL := 3) (ret := (some .int)) (by decide) rfl ?_
  intro p e s m args below meth c s₁ B hml hv
  obtain ⟨rfl, hV0, hK0, hA⟩ := hv
  have hx := B.exec
  have hb := B.bytes
  have hr := B.returns
  have hts := atoms_spec (ws := wsX3_setRoom) B.pre
  have hown : s.vm.findClass RX3 = some m.cls := findClass_of_methodNamed B.named
  have hlocks := B.notSynchronized
  have hF : CallFix p m c cX3_setRoom 3 s [.ref mo, .int (nI r)].toArray wsX3_setRoom RX3 := ⟨hx, hb, hml, hown, hts⟩
  have hw0 := hts (.fieldLink RX3 27 "SlipLevelsModel" "thrown" "I") (by decide +kernel)
  have hw1 := hts (.fieldLink RX3 24 "SlipLevelsModel" "numbers" "[I") (by decide +kernel)
  have hw2 := hts (.fieldLink RX3 13 "SlipLevelsModel" "desk" "[I") (by decide +kernel)
  have hi3 : ∀ w ∈ u_ws RX3 TX3 4, w ∈ wsX3_setRoom := by
    intro w h
    unfold wsX3_setRoom
    simp only [List.mem_cons, List.mem_append, h, true_or, or_true]
  have hS : va_S A s.heap s.heap [] := va_S.rf
  have hl := lv_entry ([.ref mo, .int (nI r)]) (n := 3) (Nat.le_of_ble_eq_true rfl)
  rw [lg_entry_eq]
  generalize (lg_sl ([.ref mo, .int (nI r)]) ++ List.replicate (3 - (lg_sl ([.ref mo, .int (nI r)])).length) Slot.unset).toArray = ls at hl ⊢
  replace hl : lv_has ls 3 [(0, .ref mo), (1, .int (nI r))] := hl
  have hn := hm.le
  have hK : mKp X hp hp := mKp.rf
  have hz9 := szR_le d
  refine lv_aload_n hx hb dX3_setRoom_0 rfl (lv_at hl 0 rfl) ?_
  refine lv_iconst (v := nI 0) hx hb dX3_setRoom_1 (by decide) ?_
  refine h_put (v := .int (nI 0)) hx hb hts hi3 tyX3 tyX3_ok nmX3 hown hK0 hV0 hA0 hS hm.cmo rfl 0 (by decide) hw0 rfl (by rfl) (by rfl) (Nat.le_of_ble_eq_true rfl) dX3_setRoom_2 (fun H locs hV0 hA0 hS => ?_)
  have hm : mA mo dk lv nb lvl row ((nI 0)) d V rm dt (hput hp mo (eO 3 [.int (nI 0), .ref dk, .ref lv, .ref nb])) := hm.setTh (nI 0)
  have hX : mX X mo dk lv nb (hput hp mo (eO 3 [.int (nI 0), .ref dk, .ref lv, .ref nb])) := hX.put _ _
  have hK : mKp X hp (hput hp mo (eO 3 [.int (nI 0), .ref dk, .ref lv, .ref nb])) := hK.put hX.1.1
  have hn := hm.le
  refine lv_iload_n hx hb dX3_setRoom_5 rfl (lv_at hl 1 rfl) ?_
  refine lv_iconst (v := nI 1) hx hb dX3_setRoom_6 (by decide) ?_
  refine lv_bipush (v := nI 8) hx hb dX3_setRoom_7 (by decide) ?_
  refine h_rdS (As := [.int (nI r), .int (nI 1), .int (nI 8)]) (rest := []) hF (c_X3_isIn l G (hput hp mo (eO 3 [.int (nI 0), .ref dk, .ref lv, .ref nb])) (nI r) (nI 1) (nI 8)) 3 gX3_setRoom_X3_isIn rfl (by decide +kernel) ⟨Nat.le_of_ble_eq_true rfl, Nat.le_of_ble_eq_true rfl⟩ hK0 hV0 rfl hl.1 rfl (Nat.le_of_ble_eq_true rfl) (Nat.le_of_ble_eq_true rfl) (Nat.le_of_ble_eq_true rfl) dX3_setRoom_9 ?_
  refine h_if_neB (tgt := 21) hx hb dX3_setRoom_12 (by decide) (fun c_12 => ?_) (fun c_12 => absurd ((room_y hr1 hr8).symm.trans c_12) (by decide))
  refine lv_aload_n hx hb dX3_setRoom_21 rfl (lv_at hl 0 rfl) ?_
  refine h_get (v := .ref nb) hx hb hts hi3 hown hK0 hV0 hm.cmo rfl 3 (by decide) hw1 rfl dX3_setRoom_22 ?_
  refine lv_iconst (v := nI 0) hx hb dX3_setRoom_25 (by decide) ?_
  refine h_ialdN (i := 0) (x := rm) hm.cnb rfl (by omega) hx hb hK0 hV0 dX3_setRoom_26 ?_
  refine lv_istore_n (lv' := [(2, .int rm), (0, .ref mo), (1, .int (nI r))]) hx hb dX3_setRoom_27 rfl hl (by decide) rfl (fun ls hl => ?_)
  refine lv_aload_n hx hb dX3_setRoom_28 rfl (lv_at hl 1 rfl) ?_
  refine h_get (v := .ref nb) hx hb hts hi3 hown hK0 hV0 hm.cmo rfl 3 (by decide) hw1 rfl dX3_setRoom_29 ?_
  refine lv_iconst (v := nI 0) hx hb dX3_setRoom_32 (by decide) ?_
  refine lv_iload_n hx hb dX3_setRoom_33 rfl (lv_at hl 2 rfl) ?_
  obtain ⟨NF1, hNF1, n0NF1, n1NF1, n2NF1, n3NF1⟩ := hm.cnb
  refine h_iast (i := 0) (x := nI r) hx hb hK0 hV0 hA0 hS hNF1 (by omega) (by omega) dX3_setRoom_34 (fun H locs hV0 hA0 hS => ?_)
  have hm : mA mo dk lv nb lvl row ((nI 0)) d V (nI r) dt (hput (hput hp mo (eO 3 [.int (nI 0), .ref dk, .ref lv, .ref nb])) nb (eI 4 (upd NF1 0 (nI r)))) := hm.setN (F := upd NF1 0 (nI r)) rfl n1NF1 n2NF1 n3NF1
  have hX : mX X mo dk lv nb (hput (hput hp mo (eO 3 [.int (nI 0), .ref dk, .ref lv, .ref nb])) nb (eI 4 (upd NF1 0 (nI r)))) := hX.put _ _
  have hK : mKp X hp (hput (hput hp mo (eO 3 [.int (nI 0), .ref dk, .ref lv, .ref nb])) nb (eI 4 (upd NF1 0 (nI r)))) := hK.put hX.1.2.2.2
  have hn := hm.le
  refine lv_aload_n hx hb dX3_setRoom_35 rfl (lv_at hl 1 rfl) ?_
  refine h_get (v := .ref dk) hx hb hts hi3 hown hK0 hV0 hm.cmo rfl 1 (by decide) hw2 rfl dX3_setRoom_36 ?_
  refine h_rdS (As := [.ref dk]) (rest := []) hF (c_X3_size l G (hput (hput hp mo (eO 3 [.int (nI 0), .ref dk, .ref lv, .ref nb])) nb (eI 4 (upd NF1 0 (nI r)))) dk d hm.cdk) 1 gX3_setRoom_X3_size rfl (by decide +kernel) ⟨Nat.le_of_ble_eq_true rfl, Nat.le_of_ble_eq_true rfl⟩ hK0 hV0 rfl hl.1 rfl (Nat.le_of_ble_eq_true rfl) (Nat.le_of_ble_eq_true rfl) (Nat.le_of_ble_eq_true rfl) dX3_setRoom_39 ?_
  refine lv_iload_n hx hb dX3_setRoom_42 rfl (lv_at hl 2 rfl) ?_
  refine h_icmp_lt (a := szR d) (b := r) (tgt := 51) hx hb dX3_setRoom_43 (by decide) (by omega) (by omega) (fun c_43 => ?_) (fun c_43 => ?_)
  · refine lv_iload_n hx hb dX3_setRoom_51 rfl (lv_at hl 0 rfl) ?_
    refine W.widen (k := 14) (n := 335) (by omega) (by omega) ?_
    exact W.iret hx hb hr (h_qW ⟨rfl, by rw [if_pos c_43, if_pos c_43]; exact ⟨dk, lv, nb, lvl, row, hm, hX, hD, hK⟩⟩ hV0 hA0 hS) hS.2.2 dX3_setRoom_52 hlocks
  · refine lv_aload_n hx hb dX3_setRoom_46 rfl (lv_at hl 1 rfl) ?_
    refine h_wrV (As := []) (rest := []) hF (c_X3_bound l G A (hput (hput hp mo (eO 3 [.int (nI 0), .ref dk, .ref lv, .ref nb])) nb (eI 4 (upd NF1 0 (nI r)))) X mo dk lv nb lvl row ((nI 0)) d V (nI r) dt hm hX hD hI (by omega) hA0) 0 gX3_setRoom_X3_bound rfl (by decide +kernel) ⟨Nat.le_of_ble_eq_true rfl, Nat.le_of_ble_eq_true rfl⟩ hK0 hV0 hA hS hm.cmo rfl rfl rfl hl.1 rfl (Nat.le_of_ble_eq_true rfl) ⟨Nat.le_of_ble_eq_true rfl, Nat.le_of_ble_eq_true rfl⟩ dX3_setRoom_47 (fun ro hp1 H locs hP1 hV0 hA0 hS => ?_)
    obtain ⟨rfl, dk2, lv2, nb2, lvl2, row2, hm2, hX2, hD2, hK2⟩ := hP1
    have hn := hm2.le
    refine lv_pop hx hb dX3_setRoom_50 rfl ?_
    refine lv_iload_n hx hb dX3_setRoom_51 rfl (lv_at hl 0 rfl) ?_
    exact W.iret hx hb hr (h_qW ⟨rfl, by rw [if_neg c_43, if_neg c_43]; exact ⟨dk2, lv2, nb2, lvl2, row2, hm2, hX2, hD2, hK.tr hK2⟩⟩ hV0 hA0 hS) hS.2.2 dX3_setRoom_52 hlocks

set_option maxHeartbeats 1000000 in
set_option maxRecDepth 100000 in
theorem c_X3_readN (l : Launch) (G : hG) (A : Nat → Prop) (hp : HP) (X : Nat → Prop) (mo dk lv nb : Nat) (lvl : Nat → Nat) (row : Nat → Nat → Nat) (th : Int32) (d : Row) (V : BV) (rm dt : Int32) (hm : mA mo dk lv nb lvl row th d V rm dt hp) (hX : mX X mo dk lv nb hp) (hD : mD dk row V) (x : Int32) (hb0 : x < 0 ∨ nI 64 ≤ x) (hA0 : hIn A hp) : hWr l yX3_read wsX3_read 2 42 0 0 G A hp [.ref mo, .int x] (fun ro hp' => ro = some (.int (nI 0)) ∧ mP X mo (nI 1) d V rm dt hp hp') := by
  refine Met.ofW (cc := cX3_read) (maxL := 2) (ret := (some .int)) (by decide) rfl ?_
  intro p e s m args below meth c s₁ B hml hv
  obtain ⟨rfl, hV0, hK0, hA⟩ := hv
  have hx := B.exec
  have hb := B.bytes
  have hr := B.returns
  have hts := atoms_spec (ws := wsX3_read) B.pre
  have hown : s.vm.findClass RX3 = some m.cls := findClass_of_methodNamed B.named
  have hlocks := B.notSynchronized
  have hF : CallFix p m c cX3_read 2 s [.ref mo, .int x].toArray wsX3_read RX3 := ⟨hx, hb, hml, hown, hts⟩
  have hw0 := hts (.fieldLink RX3 27 "SlipLevelsModel" "thrown" "I") (by decide +kernel)
  have hi3 : ∀ w ∈ u_ws RX3 TX3 4, w ∈ wsX3_read := by
    intro w h
    unfold wsX3_read
    simp only [List.mem_cons, List.mem_append, h, true_or, or_true]
  have hS : va_S A s.heap s.heap [] := va_S.rf
  have hl := lv_entry ([.ref mo, .int x]) (n := 2) (Nat.le_of_ble_eq_true rfl)
  rw [lg_entry_eq]
  generalize (lg_sl ([.ref mo, .int x]) ++ List.replicate (2 - (lg_sl ([.ref mo, .int x])).length) Slot.unset).toArray = ls at hl ⊢
  replace hl : lv_has ls 2 [(0, .ref mo), (1, .int x)] := hl
  have hn := hm.le
  have hK : mKp X hp hp := mKp.rf
  refine lv_aload_n hx hb dX3_read_0 rfl (lv_at hl 0 rfl) ?_
  refine lv_iconst (v := nI 0) hx hb dX3_read_1 (by decide) ?_
  refine h_put (v := .int (nI 0)) hx hb hts hi3 tyX3 tyX3_ok nmX3 hown hK0 hV0 hA0 hS hm.cmo rfl 0 (by decide) hw0 rfl (by rfl) (by rfl) (Nat.le_of_ble_eq_true rfl) dX3_read_2 (fun H locs hV0 hA0 hS => ?_)
  have hm : mA mo dk lv nb lvl row ((nI 0)) d V rm dt (hput hp mo (eO 3 [.int (nI 0), .ref dk, .ref lv, .ref nb])) := hm.setTh (nI 0)
  have hX : mX X mo dk lv nb (hput hp mo (eO 3 [.int (nI 0), .ref dk, .ref lv, .ref nb])) := hX.put _ _
  have hK : mKp X hp (hput hp mo (eO 3 [.int (nI 0), .ref dk, .ref lv, .ref nb])) := hK.put hX.1.1
  have hn := hm.le
  refine lv_iload_n hx hb dX3_read_5 rfl (lv_at hl 1 rfl) ?_
  refine h_rdS (As := [.int x]) (rest := []) hF (c_X3_isNumber l G (hput hp mo (eO 3 [.int (nI 0), .ref dk, .ref lv, .ref nb])) (x)) 1 gX3_read_X3_isNumber rfl (by decide +kernel) ⟨Nat.le_of_ble_eq_true rfl, Nat.le_of_ble_eq_true rfl⟩ hK0 hV0 rfl hl.1 rfl (Nat.le_of_ble_eq_true rfl) (Nat.le_of_ble_eq_true rfl) (Nat.le_of_ble_eq_true rfl) dX3_read_6 ?_
  refine h_if_neB (tgt := 18) hx hb dX3_read_9 (by decide) (fun c_9 => absurd ((isN_n (c := 63) hb0 (by omega)).symm.trans c_9) (by decide)) (fun c_9 => ?_)
  refine lv_aload_n hx hb dX3_read_12 rfl (lv_at hl 0 rfl) ?_
  refine lv_iconst (v := nI 1) hx hb dX3_read_13 (by decide) ?_
  refine h_wrV (As := [.int (nI 1)]) (rest := []) hF (c_X3_fail l G A (hput hp mo (eO 3 [.int (nI 0), .ref dk, .ref lv, .ref nb])) X mo dk lv nb lvl row ((nI 0)) d V rm dt hm hX 1 hD hA0) 1 gX3_read_X3_fail rfl (by decide +kernel) ⟨Nat.le_of_ble_eq_true rfl, Nat.le_of_ble_eq_true rfl⟩ hK0 hV0 hA hS hm.cmo rfl rfl rfl hl.1 rfl (Nat.le_of_ble_eq_true rfl) ⟨Nat.le_of_ble_eq_true rfl, Nat.le_of_ble_eq_true rfl⟩ dX3_read_14 (fun ro hp1 H locs hP1 hV0 hA0 hS => ?_)
  obtain ⟨rfl, lvl2, row2, hm2, hX2, hD2, hK2⟩ := hP1
  exact W.iret hx hb hr (h_qW ⟨rfl, dk, lv, nb, lvl2, row2, hm2, hX2, hD2, hK.tr hK2⟩ hV0 hA0 hS) hS.2.2 dX3_read_17 hlocks

set_option maxHeartbeats 1000000 in
set_option maxRecDepth 100000 in
theorem c_X3_read (l : Launch) (G : hG) (A : Nat → Prop) (hp : HP) (X : Nat → Prop) (mo dk lv nb : Nat) (lvl : Nat → Nat) (row : Nat → Nat → Nat) (th : Int32) (d : Row) (V : BV) (rm dt : Int32) (hm : mA mo dk lv nb lvl row th d V rm dt hp) (hX : mX X mo dk lv nb hp) (hD : mD dk row V) (x : Nat) (hx6 : x < 64) (hA0 : hIn A hp) : hWr l yX3_read wsX3_read 2 53 0 0 G A hp [.ref mo, .int (nI x)] (fun ro hp' => ro = some (.int (wdS d (bN V) (bG V) x)) ∧ mP X mo (nI 0) d V rm (dt + nI (dtS d (bN V) (bG V) x)) hp hp') := by
  refine Met.ofW (cc := cX3_read) (maxL := 2) (ret := (some .int)) (by decide) rfl ?_
  intro p e s m args below meth c s₁ B hml hv
  obtain ⟨rfl, hV0, hK0, hA⟩ := hv
  have hx := B.exec
  have hb := B.bytes
  have hr := B.returns
  have hts := atoms_spec (ws := wsX3_read) B.pre
  have hown : s.vm.findClass RX3 = some m.cls := findClass_of_methodNamed B.named
  have hlocks := B.notSynchronized
  have hF : CallFix p m c cX3_read 2 s [.ref mo, .int (nI x)].toArray wsX3_read RX3 := ⟨hx, hb, hml, hown, hts⟩
  have hw0 := hts (.fieldLink RX3 27 "SlipLevelsModel" "thrown" "I") (by decide +kernel)
  have hw1 := hts (.fieldLink RX3 24 "SlipLevelsModel" "numbers" "[I") (by decide +kernel)
  have hi3 : ∀ w ∈ u_ws RX3 TX3 4, w ∈ wsX3_read := by
    intro w h
    unfold wsX3_read
    simp only [List.mem_cons, List.mem_append, h, true_or, or_true]
  have hS : va_S A s.heap s.heap [] := va_S.rf
  have hl := lv_entry ([.ref mo, .int (nI x)]) (n := 2) (Nat.le_of_ble_eq_true rfl)
  rw [lg_entry_eq]
  generalize (lg_sl ([.ref mo, .int (nI x)]) ++ List.replicate (2 - (lg_sl ([.ref mo, .int (nI x)])).length) Slot.unset).toArray = ls at hl ⊢
  replace hl : lv_has ls 2 [(0, .ref mo), (1, .int (nI x))] := hl
  have hn := hm.le
  have hK : mKp X hp hp := mKp.rf
  refine lv_aload_n hx hb dX3_read_0 rfl (lv_at hl 0 rfl) ?_
  refine lv_iconst (v := nI 0) hx hb dX3_read_1 (by decide) ?_
  refine h_put (v := .int (nI 0)) hx hb hts hi3 tyX3 tyX3_ok nmX3 hown hK0 hV0 hA0 hS hm.cmo rfl 0 (by decide) hw0 rfl (by rfl) (by rfl) (Nat.le_of_ble_eq_true rfl) dX3_read_2 (fun H locs hV0 hA0 hS => ?_)
  have hm : mA mo dk lv nb lvl row ((nI 0)) d V rm dt (hput hp mo (eO 3 [.int (nI 0), .ref dk, .ref lv, .ref nb])) := hm.setTh (nI 0)
  have hX : mX X mo dk lv nb (hput hp mo (eO 3 [.int (nI 0), .ref dk, .ref lv, .ref nb])) := hX.put _ _
  have hK : mKp X hp (hput hp mo (eO 3 [.int (nI 0), .ref dk, .ref lv, .ref nb])) := hK.put hX.1.1
  have hn := hm.le
  refine lv_iload_n hx hb dX3_read_5 rfl (lv_at hl 1 rfl) ?_
  refine h_rdS (As := [.int (nI x)]) (rest := []) hF (c_X3_isNumber l G (hput hp mo (eO 3 [.int (nI 0), .ref dk, .ref lv, .ref nb])) (nI x)) 1 gX3_read_X3_isNumber rfl (by decide +kernel) ⟨Nat.le_of_ble_eq_true rfl, Nat.le_of_ble_eq_true rfl⟩ hK0 hV0 rfl hl.1 rfl (Nat.le_of_ble_eq_true rfl) (Nat.le_of_ble_eq_true rfl) (Nat.le_of_ble_eq_true rfl) dX3_read_6 ?_
  refine h_if_neB (tgt := 18) hx hb dX3_read_9 (by decide) (fun c_9 => ?_) (fun c_9 => absurd ((isN_y (x := x) (c := 63) (by omega) (by omega)).symm.trans c_9) (by decide))
  refine lv_aload_n hx hb dX3_read_18 rfl (lv_at hl 0 rfl) ?_
  refine h_get (v := .ref nb) hx hb hts hi3 hown hK0 hV0 hm.cmo rfl 3 (by decide) hw1 rfl dX3_read_19 ?_
  refine lv_iconst (v := nI 2) hx hb dX3_read_22 (by decide) ?_
  refine lv_dup2_11 hx hb dX3_read_23 rfl rfl ?_
  refine h_ialdN (i := 2) (x := dt) hm.cnb rfl (by omega) hx hb hK0 hV0 dX3_read_24 ?_
  refine lv_aload_n hx hb dX3_read_25 rfl (lv_at hl 0 rfl) ?_
  refine lv_iload_n hx hb dX3_read_26 rfl (lv_at hl 1 rfl) ?_
  refine h_rdV (As := [.int (nI x)]) (rest := [.int dt, .int (nI 2), .ref nb]) hF (c_X3_opened l G (hput hp mo (eO 3 [.int (nI 0), .ref dk, .ref lv, .ref nb])) mo dk lv nb lvl row ((nI 0)) d V rm dt hm x (by omega)) 1 gX3_read_X3_opened rfl (by decide +kernel) ⟨Nat.le_of_ble_eq_true rfl, Nat.le_of_ble_eq_true rfl⟩ hK0 hV0 hm.cmo rfl rfl rfl hl.1 rfl (Nat.le_of_ble_eq_true rfl) (Nat.le_of_ble_eq_true rfl) (Nat.le_of_ble_eq_true rfl) dX3_read_27 ?_
  refine lv_iadd hx hb dX3_read_30 ?_
  obtain ⟨NF1, hNF1, n0NF1, n1NF1, n2NF1, n3NF1⟩ := hm.cnb
  refine h_iast (i := 2) (x := (dt + nI (dtS d (bN V) (bG V) x))) hx hb hK0 hV0 hA0 hS hNF1 (by omega) (by omega) dX3_read_31 (fun H locs hV0 hA0 hS => ?_)
  have hm : mA mo dk lv nb lvl row ((nI 0)) d V rm ((dt + nI (dtS d (bN V) (bG V) x))) (hput (hput hp mo (eO 3 [.int (nI 0), .ref dk, .ref lv, .ref nb])) nb (eI 4 (upd NF1 2 ((dt + nI (dtS d (bN V) (bG V) x)))))) := hm.setN (F := upd NF1 2 ((dt + nI (dtS d (bN V) (bG V) x)))) n0NF1 n1NF1 rfl n3NF1
  have hX : mX X mo dk lv nb (hput (hput hp mo (eO 3 [.int (nI 0), .ref dk, .ref lv, .ref nb])) nb (eI 4 (upd NF1 2 ((dt + nI (dtS d (bN V) (bG V) x)))))) := hX.put _ _
  have hK : mKp X hp (hput (hput hp mo (eO 3 [.int (nI 0), .ref dk, .ref lv, .ref nb])) nb (eI 4 (upd NF1 2 ((dt + nI (dtS d (bN V) (bG V) x)))))) := hK.put hX.1.2.2.2
  have hn := hm.le
  refine lv_aload_n hx hb dX3_read_32 rfl (lv_at hl 0 rfl) ?_
  refine lv_iload_n hx hb dX3_read_33 rfl (lv_at hl 1 rfl) ?_
  refine h_rdV (As := [.int (nI x)]) (rest := []) hF (c_X3_word l G (hput (hput hp mo (eO 3 [.int (nI 0), .ref dk, .ref lv, .ref nb])) nb (eI 4 (upd NF1 2 ((dt + nI (dtS d (bN V) (bG V) x)))))) mo dk lv nb lvl row ((nI 0)) d V rm ((dt + nI (dtS d (bN V) (bG V) x))) hm x (by omega)) 1 gX3_read_X3_word rfl (by decide +kernel) ⟨Nat.le_of_ble_eq_true rfl, Nat.le_of_ble_eq_true rfl⟩ hK0 hV0 hm.cmo rfl rfl rfl hl.1 rfl (Nat.le_of_ble_eq_true rfl) (Nat.le_of_ble_eq_true rfl) (Nat.le_of_ble_eq_true rfl) dX3_read_34 ?_
  exact W.iret hx hb hr (h_qW ⟨rfl, dk, lv, nb, lvl, row, hm, hX, hD, hK⟩ hV0 hA0 hS) hS.2.2 dX3_read_37 hlocks
