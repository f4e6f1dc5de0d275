theorem mgB_0 {V : BV} {l : Nat} (h : szR (mkB V l) = 0) : mgB V l = clB V l := if_pos h
theorem mgB_1 {V : BV} {l : Nat} (h : ¬ szR (mkB V l) = 0) : mgB V l = cmB (clB V l) (min (l + 1) 3) (mkB V l) := if_neg h

set_option maxHeartbeats 1000000 in
set_option maxRecDepth 100000 in
theorem c_X3_mergeOne (l : Launch) (G : hG) (A : Nat → Prop) (hp : HP) (X : Nat → Prop) (mo dk lv nb : Nat) (lvl : Nat → Nat) (row : Nat → Nat → Nat) (th : Int32) (d : Row) (V : BV) (rm dt : Int32) (hm : mA mo dk lv nb lvl row th d V rm dt hp) (hX : mX X mo dk lv nb hp) (lz : Nat) (hl4 : lz < 4) (hD : mD dk row V) (h1 : oneB (bN V) lz) (hA0 : hIn A hp) : hWr l yX3_mergeOne wsX3_mergeOne 2 49 3 67 G A hp [.ref mo, .int (nI lz)] (fun ro hp' => ro = none ∧ mPk X mo dk lv nb th d (mgB V lz) rm dt hp hp') := by
  refine Met.ofW (cc := cX3_mergeOne) (maxL := 5) (ret := none) (by decide) rfl ?_
  intro p e s m args below meth c s₁ B hml hv
  obtain ⟨rfl, hV0, hK0, hA⟩ := hv
  have hx := B.exec
  have hb := B.bytes
  have hr := B.returns
  have hts := atoms_spec (ws := wsX3_mergeOne) B.pre
  have hown : s.vm.findClass RX3 = some m.cls := findClass_of_methodNamed B.named
  have hlocks := B.notSynchronized
  have hF : CallFix p m c cX3_mergeOne 5 s [.ref mo, .int (nI lz)].toArray wsX3_mergeOne RX3 := ⟨hx, hb, hml, hown, hts⟩
  have hw0 := hts (.fieldLink RX3 20 "SlipLevelsModel" "levels" "[[[I") (by decide +kernel)
  have hw1 := hts (.classLink RX3 19 "[I") (by decide +kernel)
  have hw2 := hts (.fieldLink RX3 24 "SlipLevelsModel" "numbers" "[I") (by decide +kernel)
  have hw3 := hts (.methodLink RX3 49 Lib.Math.min.name) (by decide +kernel)
  have hw4 := hts (.static Lib.Math.min.name) (by decide +kernel)
  have hw5 := hts (.initialized "java/lang/Math") (by decide +kernel)
  have hw6 := hts (.code Lib.Math.min.name Lib.Math.min.code 2 (some .int)) (by decide +kernel)
  have hi3 : ∀ w ∈ u_ws RX3 TX3 4, w ∈ wsX3_mergeOne := by
    intro w h
    unfold wsX3_mergeOne
    simp only [List.mem_cons, List.mem_append, h, true_or, or_true]
  have hS : va_S A s.heap s.heap [] := va_S.rf
  have hl := lv_entry ([.ref mo, .int (nI lz)]) (n := 5) (Nat.le_of_ble_eq_true rfl)
  rw [lg_entry_eq]
  generalize (lg_sl ([.ref mo, .int (nI lz)]) ++ List.replicate (5 - (lg_sl ([.ref mo, .int (nI lz)])).length) Slot.unset).toArray = ls at hl ⊢
  replace hl : lv_has ls 5 [(0, .ref mo), (1, .int (nI lz))] := hl
  have hn := hm.le
  have hK : mKp X hp hp := mKp.rf
  have hnl := hn lz
  refine h_wrS (As := []) (rest := []) hF (c_X3_empty l G A hp  hA0) 0 gX3_mergeOne_X3_empty rfl (by decide +kernel) ⟨Nat.le_of_ble_eq_true rfl, Nat.le_of_ble_eq_true rfl⟩ hK0 hV0 hA hS rfl hl.1 rfl (Nat.le_of_ble_eq_true rfl) ⟨Nat.le_of_ble_eq_true rfl, Nat.le_of_ble_eq_true rfl⟩ dX3_mergeOne_0 (fun ro hp1 H locs hP1 hV0 hA0 hS => ?_)
  obtain ⟨q1, rfl, hqq1, rfl⟩ := hP1
  have hm0 := hm
  have hX0 := hX
  have hne1 := hm.ne hqq1
  have hnX1 := hX.new hqq1
  have hm : mA mo dk lv nb lvl row th d V rm dt (hput hp q1 (eI 64 (fun _ => -1))) := hm.put hne1 _
  have hX : mX X mo dk lv nb (hput hp q1 (eI 64 (fun _ => -1))) := hX.put _ _
  have hK : mKp X hp (hput hp q1 (eI 64 (fun _ => -1))) := hK.put hnX1
  have hn := hm.le
  refine lv_astore_n (lv' := [(2, .ref q1), (0, .ref mo), (1, .int (nI lz))]) hx hb dX3_mergeOne_3 rfl hl (by decide) rfl (fun ls hl => ?_)
  refine lv_aload_n hx hb dX3_mergeOne_4 rfl (lv_at hl 1 rfl) ?_
  refine h_get (v := .ref lv) hx hb hts hi3 hown hK0 hV0 hm.cmo rfl 2 (by decide) hw0 rfl dX3_mergeOne_5 ?_
  refine lv_iload_n hx hb dX3_mergeOne_8 rfl (lv_at hl 2 rfl) ?_
  refine h_aaldE (i := lz) hm.clv hx hb hK0 hV0 rfl rfl (by omega) (by omega) dX3_mergeOne_9 ?_
  refine h_alenQ (hm.clvl (l := lz) (by omega)) hx hb hK0 hV0 rfl dX3_mergeOne_10 ?_
  refine lv_iconst (v := nI 1) hx hb dX3_mergeOne_11 (by decide) ?_
  refine lv_isub hx hb dX3_mergeOne_12 ?_
  refine lv_istore_n (lv' := [(3, .int (nI (bN V lz) - nI 1)), (2, .ref q1), (0, .ref mo), (1, .int (nI lz))]) hx hb dX3_mergeOne_13 rfl hl (by decide) rfl (fun ls hl => ?_)
  replace hl : lv_has ls 5 [(3, .int (nI (bN V lz - 0) - nI 1)), (2, .ref q1), (0, .ref mo), (1, .int (nI lz))] := lv_sub hl [0, 1, 2, 3] rfl
  refine h_loopW (G := G) (A := A) (H0 := s.heap) (Wf := fun i H locs ls => W p l e (headSpec wsX3_mergeOne { frames := 2, cells := 3, slots := 67, locals := 49 }).room s m ([.ref mo, .int (nI lz)].toArray) below meth c H locs 1 64 (MQ below (hW G A (fun ro hp' => ro = none ∧ mPk X mo dk lv nb th d (mgB V lz) rm dt hp hp')) ([.ref mo, .int (nI lz)].toArray) s 3 67 A) (F0 m 14 ls [])) (bN V lz) (fun i => [(3, .int (nI (bN V lz - i) - nI 1)), (2, .ref q1), (0, .ref mo), (1, .int (nI lz))]) (fun i hp' => ∃ F : Nat → Int32, hp' = hput hp q1 (eI 64 F) ∧ ∀ x, x < 64 → F x = sw (fsL (bG V lz) x i (bN V lz - i))) (fun i hi14 hp' H locs hI14 hV0 hA0 hS ih14 ls hl => ?_) 0 (Nat.zero_le _) _ H locs ⟨_, rfl, fun x _ => sw_2.symm⟩ hV0 hA0 hS ls hl
  obtain ⟨F, rfl, hFs⟩ := hI14
  have hm := hm0.put hne1 (eI 64 F)
  have hX := hX0.put q1 (eI 64 F)
  have hK : mKp X hp (hput hp q1 (eI 64 F)) := mKp.rf.put hnX1
  have hn := hm.le
  refine lv_iload_n hx hb dX3_mergeOne_14 rfl (lv_at hl 0 rfl) ?_
  refine lv_if_lt (tgt := 70) hx hb dX3_mergeOne_15 (by decide) (fun c_15 => ?_) (fun c_15 => ?_)
  · have hnl := hn lz
    have hie := dn_t hi14 (by omega) c_15
    subst hie
    rw [Nat.sub_self] at hFs
    refine lv_aload_n hx hb dX3_mergeOne_70 rfl (lv_at hl 2 rfl) ?_
    refine h_get (v := .ref lv) hx hb hts hi3 hown hK0 hV0 hm.cmo rfl 2 (by decide) hw0 rfl dX3_mergeOne_71 ?_
    refine lv_iload_n hx hb dX3_mergeOne_74 rfl (lv_at hl 3 rfl) ?_
    refine lv_iconst (v := nI 0) hx hb dX3_mergeOne_75 (by decide) ?_
    refine h_newqA (t := 3) (ty := .int) hx hb hK0.2.2.1 rfl hown hw1 hK0 hV0 hA0 hS hA (n := 0) (by omega) (Nat.le_of_ble_eq_true rfl) (Nat.le_of_ble_eq_true rfl) dX3_mergeOne_76 (fun q2 H hqq2 hV0 hA0 hS => ?_)
    have hne2 := hm.ne hqq2
    have hnX2 := hX.new hqq2
    have hq21 : q2 ≠ q1 := (hput_none hqq2).1
    have hm : mA mo dk lv nb lvl row th d V rm dt (hput (hput hp q1 (eI 64 F)) q2 (eQ 3 0 (fun _ => none))) := hm.put hne2 _
    have hX : mX X mo dk lv nb (hput (hput hp q1 (eI 64 F)) q2 (eQ 3 0 (fun _ => none))) := hX.put _ _
    have hK : mKp X hp (hput (hput hp q1 (eI 64 F)) q2 (eQ 3 0 (fun _ => none))) := hK.put hnX2
    have hn := hm.le
    have he1 : (hput (hput hp q1 (eI 64 F)) q2 (eQ 3 0 (fun _ => none))) q1 = some (eI 64 F) := (hput_n _ _ (Ne.symm hq21)).trans (hput_s _ _ _)
    obtain ⟨LF, hLF, hLs⟩ := hm.clv
    have hq2 : (hput (hput hp q1 (eI 64 F)) q2 (eQ 3 0 (fun _ => none))) q2 = some (eQ 3 0 (fun _ => none)) := (hput_s _ _ _)
    refine h_aastA (i := lz) hx hb hK0 hV0 hA0 hS hLF hq2 (by omega) (by omega) dX3_mergeOne_79 (fun H locs hV0 hA0 hS => ?_)
    have hm : mA mo dk lv nb ((fun l2 => if l2 = lz then q2 else lvl l2)) ((fun l2 => if l2 = lz then (fun _ => 0) else row l2)) th d ((setL V lz 0 (fun _ => emR))) rm dt (hput (hput (hput hp q1 (eI 64 F)) q2 (eQ 3 0 (fun _ => none))) lv (eQ 4 4 (va_up LF lz (some q2)))) := hm.setLv hLF hLs (rw2 := fun _ => 0) (g := fun _ => emR) ⟨_, hq2, fun i9 h9 => absurd h9 (Nat.not_lt_zero i9)⟩ (fun r9 h9 => absurd h9 (Nat.not_lt_zero r9)) (by omega)
    have hX : mX X mo dk lv nb (hput (hput (hput hp q1 (eI 64 F)) q2 (eQ 3 0 (fun _ => none))) lv (eQ 4 4 (va_up LF lz (some q2)))) := hX.put _ _
    have hK : mKp X hp (hput (hput (hput hp q1 (eI 64 F)) q2 (eQ 3 0 (fun _ => none))) lv (eQ 4 4 (va_up LF lz (some q2)))) := hK.put hX.1.2.2.1
    have hn := hm.le
    have he2 : (hput (hput (hput hp q1 (eI 64 F)) q2 (eQ 3 0 (fun _ => none))) lv (eQ 4 4 (va_up LF lz (some q2)))) q1 = some (eI 64 F) := (hput_n _ _ hne1.2.2.1.symm).trans he1
    have he3 : (hput (hput (hput hp q1 (eI 64 F)) q2 (eQ 3 0 (fun _ => none))) lv (eQ 4 4 (va_up LF lz (some q2)))) q2 = some (eQ 3 0 (fun _ => none)) := (hput_n _ _ hne2.2.2.1.symm).trans (hput_s _ _ _)
    have hne1c : mNe mo dk lv nb (fun l2 => if l2 = lz then q2 else lvl l2) (fun l2 => if l2 = lz then (fun _ => 0) else row l2) (clB V lz) q1 := hne1.clear hq21
    have hDc : mD dk (fun l2 => if l2 = lz then (fun _ => 0) else row l2) (clB V lz) := hD.clear
    refine lv_aload_n hx hb dX3_mergeOne_80 rfl (lv_at hl 2 rfl) ?_
    refine h_get (v := .ref nb) hx hb hts hi3 hown hK0 hV0 hm.cmo rfl 3 (by decide) hw2 rfl dX3_mergeOne_81 ?_
    refine lv_iconst (v := nI 3) hx hb dX3_mergeOne_84 (by decide) ?_
    refine lv_dup2_11 hx hb dX3_mergeOne_85 rfl rfl ?_
    refine h_ialdN (i := 3) (x := bK ((setL V lz 0 (fun _ => emR)))) hm.cnb rfl (by omega) hx hb hK0 hV0 dX3_mergeOne_86 ?_
    refine lv_iconst (v := nI 1) hx hb dX3_mergeOne_87 (by decide) ?_
    refine lv_iadd hx hb dX3_mergeOne_88 ?_
    obtain ⟨NF4, hNF4, n0NF4, n1NF4, n2NF4, n3NF4⟩ := hm.cnb
    refine h_iast (i := 3) (x := ((bK ((setL V lz 0 (fun _ => emR)))) + nI 1)) hx hb hK0 hV0 hA0 hS hNF4 (by omega) (by omega) dX3_mergeOne_89 (fun H locs hV0 hA0 hS => ?_)
    have hm : mA mo dk lv nb ((fun l2 => if l2 = lz then q2 else lvl l2)) ((fun l2 => if l2 = lz then (fun _ => 0) else row l2)) th d ((setK ((setL V lz 0 (fun _ => emR))) (((bK ((setL V lz 0 (fun _ => emR)))) + nI 1)))) rm dt (hput (hput (hput (hput hp q1 (eI 64 F)) q2 (eQ 3 0 (fun _ => none))) lv (eQ 4 4 (va_up LF lz (some q2)))) nb (eI 4 (upd NF4 3 (((bK ((setL V lz 0 (fun _ => emR)))) + nI 1))))) := hm.setN (F := upd NF4 3 (((bK ((setL V lz 0 (fun _ => emR)))) + nI 1))) n0NF4 n1NF4 n2NF4 rfl
    have hX : mX X mo dk lv nb (hput (hput (hput (hput hp q1 (eI 64 F)) q2 (eQ 3 0 (fun _ => none))) lv (eQ 4 4 (va_up LF lz (some q2)))) nb (eI 4 (upd NF4 3 (((bK ((setL V lz 0 (fun _ => emR)))) + nI 1))))) := hX.put _ _
    have hK : mKp X hp (hput (hput (hput (hput hp q1 (eI 64 F)) q2 (eQ 3 0 (fun _ => none))) lv (eQ 4 4 (va_up LF lz (some q2)))) nb (eI 4 (upd NF4 3 (((bK ((setL V lz 0 (fun _ => emR)))) + nI 1))))) := hK.put hX.1.2.2.2
    have hn := hm.le
    have he5 : (hput (hput (hput (hput hp q1 (eI 64 F)) q2 (eQ 3 0 (fun _ => none))) lv (eQ 4 4 (va_up LF lz (some q2)))) nb (eI 4 (upd NF4 3 (((bK ((setL V lz 0 (fun _ => emR)))) + nI 1))))) q1 = some (eI 64 F) := (hput_n _ _ hne1.2.2.2.1.symm).trans he2
    have he6 : (hput (hput (hput (hput hp q1 (eI 64 F)) q2 (eQ 3 0 (fun _ => none))) lv (eQ 4 4 (va_up LF lz (some q2)))) nb (eI 4 (upd NF4 3 (((bK ((setL V lz 0 (fun _ => emR)))) + nI 1))))) q2 = some (eQ 3 0 (fun _ => none)) := (hput_n _ _ hne2.2.2.2.1.symm).trans he3
    have hq1c : (hput (hput (hput (hput hp q1 (eI 64 F)) q2 (eQ 3 0 (fun _ => none))) lv (eQ 4 4 (va_up LF lz (some q2)))) nb (eI 4 (upd NF4 3 (((bK ((setL V lz 0 (fun _ => emR)))) + nI 1))))) q1 = some (eI 64 F) := he5
    replace hV0 : hV G (hput (hput (hput (hput hp q1 (eI 64 F)) q2 (eQ 3 0 (fun _ => none))) lv (eQ 4 4 (va_up LF lz (some q2)))) nb (eI 4 (upd NF4 3 (((bK ((setL V lz 0 (fun _ => emR)))) + nI 1))))) H := hV0
    replace hA0 : hIn A (hput (hput (hput (hput hp q1 (eI 64 F)) q2 (eQ 3 0 (fun _ => none))) lv (eQ 4 4 (va_up LF lz (some q2)))) nb (eI 4 (upd NF4 3 (((bK ((setL V lz 0 (fun _ => emR)))) + nI 1))))) := hA0
    replace hm : mA mo dk lv nb (fun l2 => if l2 = lz then q2 else lvl l2) (fun l2 => if l2 = lz then (fun _ => 0) else row l2) th d (clB V lz) rm dt (hput (hput (hput (hput hp q1 (eI 64 F)) q2 (eQ 3 0 (fun _ => none))) lv (eQ 4 4 (va_up LF lz (some q2)))) nb (eI 4 (upd NF4 3 (((bK ((setL V lz 0 (fun _ => emR)))) + nI 1))))) := hm
    generalize (hput (hput (hput (hput hp q1 (eI 64 F)) q2 (eQ 3 0 (fun _ => none))) lv (eQ 4 4 (va_up LF lz (some q2)))) nb (eI 4 (upd NF4 3 (((bK ((setL V lz 0 (fun _ => emR)))) + nI 1))))) = HB at hV0 hA0 hm hX hK hq1c
    generalize (fun l2 => if l2 = lz then q2 else lvl l2) = lvl2 at hm hne1c
    generalize (fun l2 => if l2 = lz then (fun _ => 0) else row l2) = row2 at hm hne1c hDc
    have hmB := hm
    have hXB := hX
    have hKB := hK
    have hn := hm.le
    refine lv_iconst (v := nI 1) hx hb dX3_mergeOne_90 (by decide) ?_
    have h91 : nI 1 = bI (alB (bN (clB V lz)) lz (lz + 1)) := by rw [al_0]; rfl
    rw [h91]
    refine lv_istore_n (lv' := [(3, .int (bI (alB (bN (clB V lz)) lz (lz + 1)))), (2, .ref q1), (0, .ref mo), (1, .int (nI lz))]) hx hb dX3_mergeOne_91 rfl hl (by decide) rfl (fun ls hl => ?_)
    refine lv_iload_n hx hb dX3_mergeOne_92 rfl (lv_at hl 3 rfl) ?_
    refine lv_iconst (v := nI 1) hx hb dX3_mergeOne_93 (by decide) ?_
    refine h_iaddN hx hb dX3_mergeOne_94 ?_
    refine lv_istore (lv' := [(4, .int (nI (lz + 1))), (3, .int (bI (alB (bN (clB V lz)) lz (lz + 1)))), (2, .ref q1), (0, .ref mo), (1, .int (nI lz))]) hx hb dX3_mergeOne_95 hl (by decide) rfl (fun ls hl => ?_)
    replace hl : lv_has ls 5 [(4, .int (nI (lz + 1))), (3, .int (bI (alB (bN (clB V lz)) lz (lz + 1)))), (2, .ref q1), (0, .ref mo), (1, .int (nI lz))] := lv_sub hl [0, 1, 2, 3, 4] rfl
    revert ls
    refine h_loop 4 (fun k => [(4, .int (nI k)), (3, .int (bI (alB (bN (clB V lz)) lz k))), (2, .ref q1), (0, .ref mo), (1, .int (nI lz))]) (fun k => lz < k) (fun k hi97 hI97 ih97 ls hl => ?_) (lz + 1) (by omega) (Nat.lt_succ_self lz)
    refine lv_iload hx hb dX3_mergeOne_97 (lv_at hl 0 rfl) ?_
    refine lv_iconst (v := nI 4) hx hb dX3_mergeOne_99 (by decide) ?_
    refine h_icmp_ge (a := k) (b := 4) (tgt := 130) hx hb dX3_mergeOne_100 (by decide) (by omega) (by omega) (fun c_100 => ?_) (fun c_100 => ?_)
    · obtain rfl : k = 4 := by omega
      replace hl : lv_has ls 5 [(4, .int (nI 4)), (3, .int (bI (nbA (bN V) lz))), (2, .ref q1), (0, .ref mo), (1, .int (nI lz))] := by rw [← nb_al hl4]; exact hl
      refine lv_iconst (v := nI 0) hx hb dX3_mergeOne_130 (by decide) ?_
      refine lv_istore (lv' := [(4, .int (nI 0)), (3, .int (bI (nbA (bN V) lz))), (2, .ref q1), (0, .ref mo), (1, .int (nI lz))]) hx hb dX3_mergeOne_131 hl (by decide) rfl (fun ls hl => ?_)
      replace hl : lv_has ls 5 [(4, .int (nI 0)), (3, .int (bI (nbA (bN V) lz))), (2, .ref q1), (0, .ref mo), (1, .int (nI lz))] := lv_sub hl [0, 1, 2, 3, 4] rfl
      refine h_loopW (G := G) (A := A) (H0 := s.heap) (Wf := fun k H locs ls => W p l e (headSpec wsX3_mergeOne { frames := 2, cells := 3, slots := 67, locals := 49 }).room s m ([.ref mo, .int (nI lz)].toArray) below meth c H locs 2 64 (MQ below (hW G A (fun ro hp' => ro = none ∧ mPk X mo dk lv nb th d (mgB V lz) rm dt hp hp')) ([.ref mo, .int (nI lz)].toArray) s 3 67 A) (F0 m 133 ls [])) 64 (fun k => [(4, .int (nI k)), (3, .int (bI (nbA (bN V) lz))), (2, .ref q1), (0, .ref mo), (1, .int (nI lz))]) (fun k hp' => ∃ F3 : Nat → Int32, hp' = hput HB q1 (eI 64 F3) ∧ ∀ x, x < 64 → F3 x = if x < k then sw (gaW (bN V lz) (bG V lz) (nbA (bN V) lz) x) else sw (fsL (bG V lz) x (bN V lz) 0)) (fun k hi133 hp' H locs hI133 hV0 hA0 hS ih133 ls hl => ?_) 0 (Nat.zero_le _) _ H locs ⟨F, (hput_same hq1c).symm, fun x hx => (hFs x hx).trans (if_neg (Nat.not_lt_zero x)).symm⟩ hV0 hA0 hS ls hl
      obtain ⟨F3, rfl, hF3⟩ := hI133
      have hm := hmB.put hne1c (eI 64 F3)
      have hX := hXB.put q1 (eI 64 F3)
      have hK : mKp X hp (hput HB q1 (eI 64 F3)) := hKB.put hnX1
      have hn := hm.le
      refine lv_iload hx hb dX3_mergeOne_133 (lv_at hl 0 rfl) ?_
      refine lv_bipush (v := nI 64) hx hb dX3_mergeOne_135 (by decide) ?_
      refine h_icmp_ge (a := k) (b := 64) (tgt := 164) hx hb dX3_mergeOne_137 (by decide) (by omega) (by omega) (fun c_137 => ?_) (fun c_137 => ?_)
      · have hG3 : ∀ x, x < 64 → F3 x = sw (gaW (bN V lz) (bG V lz) (nbA (bN V) lz) x) := fun x hx => (hF3 x hx).trans (if_pos (by omega))
        have hRq : mR (hput HB q1 (eI 64 F3)) q1 (mkB V lz) := mk_R (hput_s _ _ _) hG3
        have hzl := szR_le (mkB V lz)
        refine lv_aload_n hx hb dX3_mergeOne_164 rfl (lv_at hl 2 rfl) ?_
        refine h_rdS (As := [.ref q1]) (rest := []) hF (c_X3_size l G (hput HB q1 (eI 64 F3)) q1 (mkB V lz) hRq) 1 gX3_mergeOne_X3_size rfl (by decide +kernel) ⟨Nat.le_of_ble_eq_true rfl, Nat.le_of_ble_eq_true rfl⟩ hK0 hV0 rfl hl.1 rfl (Nat.le_of_ble_eq_true rfl) (Nat.le_of_ble_eq_true rfl) (Nat.le_of_ble_eq_true rfl) dX3_mergeOne_165 ?_
        refine h_if_le (a := szR (mkB V lz)) (tgt := 183) hx hb dX3_mergeOne_168 (by decide) (by omega) (fun c_168 => ?_) (fun c_168 => ?_)
        · refine W.widen (k := 3) (n := 67) (by omega) (by omega) ?_
          exact W.vret hx hb hr (h_qW ⟨rfl, by rw [mgB_0 c_168]; exact ⟨_, _, hm, hX, hDc, hK⟩⟩ hV0 hA0 hS) hS.2.2 dX3_mergeOne_183 hlocks
        · refine lv_aload_n hx hb dX3_mergeOne_171 rfl (lv_at hl 3 rfl) ?_
          refine lv_iload_n hx hb dX3_mergeOne_172 rfl (lv_at hl 4 rfl) ?_
          refine lv_iconst (v := nI 1) hx hb dX3_mergeOne_173 (by decide) ?_
          refine h_iaddN hx hb dX3_mergeOne_174 ?_
          refine lv_iconst (v := nI 3) hx hb dX3_mergeOne_175 (by decide) ?_
          refine va_mmin hx hb (hml.trans hl.1.symm) hown hw3 hw4 hw5 hw6 (Nat.le_of_ble_eq_true rfl) (Nat.le_of_ble_eq_true rfl) (Nat.le_of_ble_eq_true rfl) (Nat.le_of_ble_eq_true rfl) dX3_mergeOne_176 ?_
          rw [min_lv hl4]
          refine lv_aload_n hx hb dX3_mergeOne_179 rfl (lv_at hl 2 rfl) ?_
          refine h_wrV (As := [.int (nI (min (lz + 1) 3)), .ref q1]) (rest := []) hF (c_X3_come l G A (hput HB q1 (eI 64 F3)) X mo dk lv nb lvl2 row2 th d ((clB V lz)) rm dt hm hX (min (lz + 1) 3) (by omega) (mgB_pre hl4 h1) q1 (mkB V lz) hRq (by omega) hA0) 2 gX3_mergeOne_X3_come rfl (by decide +kernel) ⟨Nat.le_of_ble_eq_true rfl, Nat.le_of_ble_eq_true rfl⟩ hK0 hV0 hA hS hm.cmo rfl rfl rfl hl.1 rfl (Nat.le_of_ble_eq_true rfl) ⟨Nat.le_of_ble_eq_true rfl, Nat.le_of_ble_eq_true rfl⟩ dX3_mergeOne_180 (fun ro hp1 H locs hP1 hV0 hA0 hS => ?_)
          obtain ⟨rfl, q3, hqq3, hm3, hX3, hK3⟩ := hP1
          exact W.vret hx hb hr (h_qW ⟨rfl, by rw [mgB_1 c_168]; exact ⟨_, _, hm3, hX3, hDc.come (by omega) hne1.2.1.symm, hK.tr hK3⟩⟩ hV0 hA0 hS) hS.2.2 dX3_mergeOne_183 hlocks
      · refine lv_iload_n hx hb dX3_mergeOne_140 rfl (lv_at hl 1 rfl) ?_
        refine h_if_eqB (tgt := 164) hx hb dX3_mergeOne_141 (by decide) (fun c_141 => ?_) (fun c_141 => ?_)
        · have hG3 : ∀ x, x < 64 → F3 x = sw (gaW (bN V lz) (bG V lz) (nbA (bN V) lz) x) := ga_f c_141 hF3
          have hRq : mR (hput HB q1 (eI 64 F3)) q1 (mkB V lz) := mk_R (hput_s _ _ _) hG3
          have hzl := szR_le (mkB V lz)
          refine lv_aload_n hx hb dX3_mergeOne_164 rfl (lv_at hl 2 rfl) ?_
          refine h_rdS (As := [.ref q1]) (rest := []) hF (c_X3_size l G (hput HB q1 (eI 64 F3)) q1 (mkB V lz) hRq) 1 gX3_mergeOne_X3_size rfl (by decide +kernel) ⟨Nat.le_of_ble_eq_true rfl, Nat.le_of_ble_eq_true rfl⟩ hK0 hV0 rfl hl.1 rfl (Nat.le_of_ble_eq_true rfl) (Nat.le_of_ble_eq_true rfl) (Nat.le_of_ble_eq_true rfl) dX3_mergeOne_165 ?_
          refine h_if_le (a := szR (mkB V lz)) (tgt := 183) hx hb dX3_mergeOne_168 (by decide) (by omega) (fun c_168 => ?_) (fun c_168 => ?_)
          · refine W.widen (k := 3) (n := 67) (by omega) (by omega) ?_
            exact W.vret hx hb hr (h_qW ⟨rfl, by rw [mgB_0 c_168]; exact ⟨_, _, hm, hX, hDc, hK⟩⟩ hV0 hA0 hS) hS.2.2 dX3_mergeOne_183 hlocks
          · refine lv_aload_n hx hb dX3_mergeOne_171 rfl (lv_at hl 3 rfl) ?_
            refine lv_iload_n hx hb dX3_mergeOne_172 rfl (lv_at hl 4 rfl) ?_
            refine lv_iconst (v := nI 1) hx hb dX3_mergeOne_173 (by decide) ?_
            refine h_iaddN hx hb dX3_mergeOne_174 ?_
            refine lv_iconst (v := nI 3) hx hb dX3_mergeOne_175 (by decide) ?_
            refine va_mmin hx hb (hml.trans hl.1.symm) hown hw3 hw4 hw5 hw6 (Nat.le_of_ble_eq_true rfl) (Nat.le_of_ble_eq_true rfl) (Nat.le_of_ble_eq_true rfl) (Nat.le_of_ble_eq_true rfl) dX3_mergeOne_176 ?_
            rw [min_lv hl4]
            refine lv_aload_n hx hb dX3_mergeOne_179 rfl (lv_at hl 2 rfl) ?_
            refine h_wrV (As := [.int (nI (min (lz + 1) 3)), .ref q1]) (rest := []) hF (c_X3_come l G A (hput HB q1 (eI 64 F3)) X mo dk lv nb lvl2 row2 th d ((clB V lz)) rm dt hm hX (min (lz + 1) 3) (by omega) (mgB_pre hl4 h1) q1 (mkB V lz) hRq (by omega) hA0) 2 gX3_mergeOne_X3_come rfl (by decide +kernel) ⟨Nat.le_of_ble_eq_true rfl, Nat.le_of_ble_eq_true rfl⟩ hK0 hV0 hA hS hm.cmo rfl rfl rfl hl.1 rfl (Nat.le_of_ble_eq_true rfl) ⟨Nat.le_of_ble_eq_true rfl, Nat.le_of_ble_eq_true rfl⟩ dX3_mergeOne_180 (fun ro hp1 H locs hP1 hV0 hA0 hS => ?_)
            obtain ⟨rfl, q3, hqq3, hm3, hX3, hK3⟩ := hP1
            exact W.vret hx hb hr (h_qW ⟨rfl, by rw [mgB_1 c_168]; exact ⟨_, _, hm3, hX3, hDc.come (by omega) hne1.2.1.symm, hK.tr hK3⟩⟩ hV0 hA0 hS) hS.2.2 dX3_mergeOne_183 hlocks
        · refine lv_aload_n hx hb dX3_mergeOne_144 rfl (lv_at hl 2 rfl) ?_
          refine lv_iload hx hb dX3_mergeOne_145 (lv_at hl 0 rfl) ?_
          refine h_iald (i := k) hx hb hK0 hV0 (hput_s _ _ _) (by omega) (by omega) dX3_mergeOne_147 ?_
          refine lv_bipush (v := (-2)) hx hb dX3_mergeOne_148 (by decide) ?_
          refine lv_icmp_ne (tgt := 158) hx hb dX3_mergeOne_150 (by decide) (fun c_150 => ?_) (fun c_150 => ?_)
          · refine lv_iinc (v := nI (k + 1)) (lv' := [(4, .int (nI (k + 1))), (3, .int (bI (nbA (bN V) lz))), (2, .ref q1), (0, .ref mo), (1, .int (nI lz))]) hx hb dX3_mergeOne_158 hl (k := 0) rfl (nI_add (k) 1) (by decide) rfl (fun ls hl => ?_)
            refine lv_goto (tgt := 133) hx hb dX3_mergeOne_161 (by decide) ?_
            exact ih133 _ H locs (by omega) ⟨_, rfl, mg_s hF3 (congrArg sw (gaW_w (fun z => c_150 (((hF3 k (by omega)).trans (if_neg (Nat.lt_irrefl k))).trans (sw_n2.mpr z)))))⟩ hV0 hA0 hS ls (lv_sub hl [0, 1, 2, 3, 4] rfl)
          · refine lv_aload_n hx hb dX3_mergeOne_153 rfl (lv_at hl 2 rfl) ?_
            refine lv_iload hx hb dX3_mergeOne_154 (lv_at hl 0 rfl) ?_
            refine lv_iconst (v := (-1)) hx hb dX3_mergeOne_156 (by decide) ?_
            refine h_iast (i := k) (x := (-1)) hx hb hK0 hV0 hA0 hS (hput_s _ _ _) (by omega) (by omega) dX3_mergeOne_157 (fun H locs hV0 hA0 hS => ?_)
            rw [hput_hput] at hV0 hA0
            refine lv_iinc (v := nI (k + 1)) (lv' := [(4, .int (nI (k + 1))), (3, .int (bI (nbA (bN V) lz))), (2, .ref q1), (0, .ref mo), (1, .int (nI lz))]) hx hb dX3_mergeOne_158 hl (k := 0) rfl (nI_add (k) 1) (by decide) rfl (fun ls hl => ?_)
            refine lv_goto (tgt := 133) hx hb dX3_mergeOne_161 (by decide) ?_
            exact ih133 _ H locs (by omega) ⟨_, rfl, mg_w hF3 (by show sw (gaW (bN V lz) (bG V lz) (nbA (bN V) lz) k) = -1; rw [gaW_t c_141 (sw_n2.mp (((hF3 k (by omega)).trans (if_neg (Nat.lt_irrefl k))).symm.trans c_150)), sw_2])⟩ hV0 hA0 hS ls (lv_sub hl [0, 1, 2, 3, 4] rfl)
    · refine lv_iload_n hx hb dX3_mergeOne_103 rfl (lv_at hl 1 rfl) ?_
      refine h_if_eqB (tgt := 122) hx hb dX3_mergeOne_104 (by decide) (fun c_104 => ?_) (fun c_104 => ?_)
      · refine lv_iconst (v := nI 0) hx hb dX3_mergeOne_122 (by decide) ?_
        refine lv_istore_n (lv' := [(3, .int (nI 0)), (4, .int (nI k)), (2, .ref q1), (0, .ref mo), (1, .int (nI lz))]) hx hb dX3_mergeOne_123 rfl hl (by decide) rfl (fun ls hl => ?_)
        refine lv_iinc (v := nI (k + 1)) (lv' := [(4, .int (nI (k + 1))), (3, .int (nI 0)), (2, .ref q1), (0, .ref mo), (1, .int (nI lz))]) hx hb dX3_mergeOne_124 hl (k := 1) rfl (nI_add (k) 1) (by decide) rfl (fun ls hl => ?_)
        refine lv_goto (tgt := 97) hx hb dX3_mergeOne_127 (by decide) ?_
        exact ih97 (by omega) (by omega) ls (by show lv_has ls 5 [(4, .int (nI (k + 1))), (3, .int (bI (alB (bN (clB V lz)) lz (k + 1)))), (2, .ref q1), (0, .ref mo), (1, .int (nI lz))]; rw [al_f c_104]; exact lv_sub hl [0, 1, 2, 3, 4] rfl)
      · have hnk := hn k
        refine lv_aload_n hx hb dX3_mergeOne_107 rfl (lv_at hl 3 rfl) ?_
        refine h_get (v := .ref lv) hx hb hts hi3 hown hK0 hV0 hm.cmo rfl 2 (by decide) hw0 rfl dX3_mergeOne_108 ?_
        refine lv_iload hx hb dX3_mergeOne_111 (lv_at hl 0 rfl) ?_
        refine h_aaldE (i := k) hm.clv hx hb hK0 hV0 rfl rfl (by omega) (by omega) dX3_mergeOne_113 ?_
        refine h_alenQ (hm.clvl (l := k) (by omega)) hx hb hK0 hV0 rfl dX3_mergeOne_114 ?_
        refine h_if_ne (a := bN ((clB V lz)) k) (tgt := 122) hx hb dX3_mergeOne_115 (by decide) (by omega) (fun c_115 => ?_) (fun c_115 => ?_)
        · refine lv_iconst (v := nI 0) hx hb dX3_mergeOne_122 (by decide) ?_
          refine lv_istore_n (lv' := [(3, .int (nI 0)), (4, .int (nI k)), (2, .ref q1), (0, .ref mo), (1, .int (nI lz))]) hx hb dX3_mergeOne_123 rfl hl (by decide) rfl (fun ls hl => ?_)
          refine lv_iinc (v := nI (k + 1)) (lv' := [(4, .int (nI (k + 1))), (3, .int (nI 0)), (2, .ref q1), (0, .ref mo), (1, .int (nI lz))]) hx hb dX3_mergeOne_124 hl (k := 1) rfl (nI_add (k) 1) (by decide) rfl (fun ls hl => ?_)
          refine lv_goto (tgt := 97) hx hb dX3_mergeOne_127 (by decide) ?_
          exact ih97 (by omega) (by omega) ls (by show lv_has ls 5 [(4, .int (nI (k + 1))), (3, .int (bI (alB (bN (clB V lz)) lz (k + 1)))), (2, .ref q1), (0, .ref mo), (1, .int (nI lz))]; rw [al_g hI97 c_115]; exact lv_sub hl [0, 1, 2, 3, 4] rfl)
        · refine lv_iconst (v := nI 1) hx hb dX3_mergeOne_118 (by decide) ?_
          refine lv_goto (tgt := 123) hx hb dX3_mergeOne_119 (by decide) ?_
          refine lv_istore_n (lv' := [(3, .int (nI 1)), (4, .int (nI k)), (2, .ref q1), (0, .ref mo), (1, .int (nI lz))]) hx hb dX3_mergeOne_123 rfl hl (by decide) rfl (fun ls hl => ?_)
          refine lv_iinc (v := nI (k + 1)) (lv' := [(4, .int (nI (k + 1))), (3, .int (nI 1)), (2, .ref q1), (0, .ref mo), (1, .int (nI lz))]) hx hb dX3_mergeOne_124 hl (k := 1) rfl (nI_add (k) 1) (by decide) rfl (fun ls hl => ?_)
          refine lv_goto (tgt := 97) hx hb dX3_mergeOne_127 (by decide) ?_
          exact ih97 (by omega) (by omega) ls (by show lv_has ls 5 [(4, .int (nI (k + 1))), (3, .int (bI (alB (bN (clB V lz)) lz (k + 1)))), (2, .ref q1), (0, .ref mo), (1, .int (nI lz))]; rw [al_t c_104 c_115]; exact lv_sub hl [0, 1, 2, 3, 4] rfl)
  · have hin := dn_f hi14 c_15
    replace hl : lv_has ls 5 [(3, .int (nI (bN V lz - i - 1))), (2, .ref q1), (0, .ref mo), (1, .int (nI lz))] := by rw [← dn_e hin]; exact hl
    refine lv_iconst (v := nI 0) hx hb dX3_mergeOne_18 (by decide) ?_
    refine lv_istore (lv' := [(4, .int (nI 0)), (3, .int (nI (bN V lz - i - 1))), (2, .ref q1), (0, .ref mo), (1, .int (nI lz))]) hx hb dX3_mergeOne_19 hl (by decide) rfl (fun ls hl => ?_)
    replace hl : lv_has ls 5 [(4, .int (nI 0)), (3, .int (nI (bN V lz - i - 1))), (2, .ref q1), (0, .ref mo), (1, .int (nI lz))] := lv_sub hl [0, 1, 2, 3, 4] rfl
    refine h_loopW (G := G) (A := A) (H0 := s.heap) (Wf := fun k H locs ls => W p l e (headSpec wsX3_mergeOne { frames := 2, cells := 3, slots := 67, locals := 49 }).room s m ([.ref mo, .int (nI lz)].toArray) below meth c H locs 1 64 (MQ below (hW G A (fun ro hp' => ro = none ∧ mPk X mo dk lv nb th d (mgB V lz) rm dt hp hp')) ([.ref mo, .int (nI lz)].toArray) s 3 67 A) (F0 m 21 ls [])) 64 (fun k => [(4, .int (nI k)), (3, .int (nI (bN V lz - i - 1))), (2, .ref q1), (0, .ref mo), (1, .int (nI lz))]) (fun k hp' => ∃ F2 : Nat → Int32, hp' = hput hp q1 (eI 64 F2) ∧ ∀ x, x < 64 → F2 x = if x < k then sw (fsL (bG V lz) x (i + 1) (bN V lz - i - 1)) else sw (fsL (bG V lz) x i (bN V lz - i))) (fun k hi21 hp' H locs hI21 hV0 hA0 hS ih21 ls hl => ?_) 0 (Nat.zero_le _) _ H locs ⟨F, rfl, fun x hx => (hFs x hx).trans (if_neg (Nat.not_lt_zero x)).symm⟩ hV0 hA0 hS ls hl
    obtain ⟨F2, rfl, hF2⟩ := hI21
    have hm := hm0.put hne1 (eI 64 F2)
    have hX := hX0.put q1 (eI 64 F2)
    have hK : mKp X hp (hput hp q1 (eI 64 F2)) := mKp.rf.put hnX1
    have hn := hm.le
    refine lv_iload hx hb dX3_mergeOne_21 (lv_at hl 0 rfl) ?_
    refine lv_bipush (v := nI 64) hx hb dX3_mergeOne_23 (by decide) ?_
    refine h_icmp_ge (a := k) (b := 64) (tgt := 64) hx hb dX3_mergeOne_25 (by decide) (by omega) (by omega) (fun c_25 => ?_) (fun c_25 => ?_)
    · refine lv_iinc (v := (nI (bN V lz - i - 1) + (-1))) (lv' := [(3, .int (nI (bN V lz - i - 1) + (-1))), (4, .int (nI k)), (2, .ref q1), (0, .ref mo), (1, .int (nI lz))]) hx hb dX3_mergeOne_64 hl (k := 1) rfl rfl (by decide) rfl (fun ls hl => ?_)
      refine lv_goto (tgt := 14) hx hb dX3_mergeOne_67 (by decide) ?_
      exact ih14 _ H locs hin ⟨_, rfl, fun x hx => (hF2 x hx).trans (if_pos (by omega))⟩ hV0 hA0 hS ls (by show lv_has ls 5 [(3, .int (nI (bN V lz - (i + 1)) - nI 1)), (2, .ref q1), (0, .ref mo), (1, .int (nI lz))]; rw [← dn_b]; exact lv_sub hl [0, 2, 3, 4] rfl)
    · refine lv_aload_n hx hb dX3_mergeOne_28 rfl (lv_at hl 3 rfl) ?_
      refine h_get (v := .ref lv) hx hb hts hi3 hown hK0 hV0 hm.cmo rfl 2 (by decide) hw0 rfl dX3_mergeOne_29 ?_
      refine lv_iload_n hx hb dX3_mergeOne_32 rfl (lv_at hl 4 rfl) ?_
      refine h_aaldE (i := lz) hm.clv hx hb hK0 hV0 rfl rfl (by omega) (by omega) dX3_mergeOne_33 ?_
      refine lv_iload_n hx hb dX3_mergeOne_34 rfl (lv_at hl 1 rfl) ?_
      refine h_aaldE (i := bN V lz - i - 1) (hm.clvl (l := lz) (by omega)) hx hb hK0 hV0 rfl rfl (by omega) (by omega) dX3_mergeOne_35 ?_
      refine lv_iload hx hb dX3_mergeOne_36 (lv_at hl 0 rfl) ?_
      refine h_ialdE (i := k) (hm.crow (l := lz) (r := (bN V lz - i - 1)) (by omega) (by omega)) hx hb hK0 hV0 (by omega) dX3_mergeOne_38 ?_
      refine lv_iconst (v := (-1)) hx hb dX3_mergeOne_39 (by decide) ?_
      refine lv_icmp_eq (tgt := 58) hx hb dX3_mergeOne_40 (by decide) (fun c_40 => ?_) (fun c_40 => ?_)
      · refine lv_iinc (v := nI (k + 1)) (lv' := [(4, .int (nI (k + 1))), (3, .int (nI (bN V lz - i - 1))), (2, .ref q1), (0, .ref mo), (1, .int (nI lz))]) hx hb dX3_mergeOne_58 hl (k := 0) rfl (nI_add (k) 1) (by decide) rfl (fun ls hl => ?_)
        refine lv_goto (tgt := 21) hx hb dX3_mergeOne_61 (by decide) ?_
        exact ih21 _ H locs (by omega) ⟨_, rfl, mg_s hF2 (congrArg sw (fs_n hin (sw_hf c_40)))⟩ hV0 hA0 hS ls (lv_sub hl [0, 1, 2, 3, 4] rfl)
      · refine lv_aload_n hx hb dX3_mergeOne_43 rfl (lv_at hl 2 rfl) ?_
        refine lv_iload hx hb dX3_mergeOne_44 (lv_at hl 0 rfl) ?_
        refine lv_aload_n hx hb dX3_mergeOne_46 rfl (lv_at hl 3 rfl) ?_
        refine h_get (v := .ref lv) hx hb hts hi3 hown hK0 hV0 hm.cmo rfl 2 (by decide) hw0 rfl dX3_mergeOne_47 ?_
        refine lv_iload_n hx hb dX3_mergeOne_50 rfl (lv_at hl 4 rfl) ?_
        refine h_aaldE (i := lz) hm.clv hx hb hK0 hV0 rfl rfl (by omega) (by omega) dX3_mergeOne_51 ?_
        refine lv_iload_n hx hb dX3_mergeOne_52 rfl (lv_at hl 1 rfl) ?_
        refine h_aaldE (i := bN V lz - i - 1) (hm.clvl (l := lz) (by omega)) hx hb hK0 hV0 rfl rfl (by omega) (by omega) dX3_mergeOne_53 ?_
        refine lv_iload hx hb dX3_mergeOne_54 (lv_at hl 0 rfl) ?_
        refine h_ialdE (i := k) (hm.crow (l := lz) (r := (bN V lz - i - 1)) (by omega) (by omega)) hx hb hK0 hV0 (by omega) dX3_mergeOne_56 ?_
        refine h_iast (i := k) (x := (sw ((bG V lz (bN V lz - i - 1)) k))) hx hb hK0 hV0 hA0 hS (hput_s _ _ _) (by omega) (by omega) dX3_mergeOne_57 (fun H locs hV0 hA0 hS => ?_)
        rw [hput_hput] at hV0 hA0
        refine lv_iinc (v := nI (k + 1)) (lv' := [(4, .int (nI (k + 1))), (3, .int (nI (bN V lz - i - 1))), (2, .ref q1), (0, .ref mo), (1, .int (nI lz))]) hx hb dX3_mergeOne_58 hl (k := 0) rfl (nI_add (k) 1) (by decide) rfl (fun ls hl => ?_)
        refine lv_goto (tgt := 21) hx hb dX3_mergeOne_61 (by decide) ?_
        exact ih21 _ H locs (by omega) ⟨_, rfl, mg_w hF2 (congrArg sw (fs_y (sw_ht c_40)))⟩ hV0 hA0 hS ls (lv_sub hl [0, 1, 2, 3, 4] rfl)
