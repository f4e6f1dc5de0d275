/-! Sim: mergeOne -/
set_option maxHeartbeats 1000000 in
set_option maxRecDepth 100000 in
theorem c_X3_mergeOne (l : Launch) (G : hG) (A : Nat → Prop) (hp : HP) (mo dk lv : Nat) (lvl : Nat → Nat) (row : Nat → Nat → Nat) (rm : Int32) (tm : Nat) (dt : Int32) (d : Row) (δ : TG) (V : BV) (ω : TS) (hm : sA mo dk lv lvl row rm tm dt d δ V ω hp) (lz : Nat) (hl4 : lz < 4) (h1 : oneB (bN V) lz) (hord : ordL (bG V lz) (ω lz) (bN V lz)) (hA0 : hIn A hp) : hWr l yX3_mergeOne wsX3_mergeOne 1 28 (mgC V lz) (65 * mgC V lz) G A hp [.ref mo, .int (nI lz)] (fun ro hp' => ro = none ∧ (∃ lvl2 row2, sA mo dk lv lvl2 row2 rm tm dt d δ (mgB V lz) (mgT V ω lz) hp') ∧ exH hp hp') := by
  refine Met.ofW (cc := cX3_mergeOne) (maxL := 11) (ret := none) (by decide) rfl ?_
  intro p e s m args below meth c s₁ B hml hv
  obtain ⟨rfl, hV0, hK0, hA⟩ := hv
  have hx := B.exec
  have hb := B.bytes
  have hr := B.returns
  have hts := atoms_spec (ws := wsX3_mergeOne) B.pre
  have hown : s.vm.findClass RX3 = some m.cls := findClass_of_methodNamed B.named
  have hlocks := B.notSynchronized
  have hF : CallFix p m c cX3_mergeOne 11 s [.ref mo, .int (nI lz)].toArray wsX3_mergeOne RX3 := ⟨hx, hb, hml, hown, hts⟩
  have hw0 := hts (.classLink RX3 13 "[I") (by decide +kernel)
  have hw1 := hts (.fieldLink RX3 22 "SlipLevelsLaw$Sim" "levels" "[[[[I") (by decide +kernel)
  have hw2 := hts (.classLink RX3 21 "[[I") (by decide +kernel)
  have hw3 := hts (.fieldLink RX3 36 "SlipLevelsLaw$Sim" "merges" "I") (by decide +kernel)
  have hw4 := hts (.initialized RL) (by decide +kernel)
  have hw5 := hts (.static yL_with) (by decide +kernel)
  have hi3 : ∀ w ∈ u_ws RX3 TX3 7, w ∈ wsX3_mergeOne := by
    intro w h
    unfold wsX3_mergeOne
    simp only [List.mem_cons, List.mem_append, h, true_or, or_true]
  have hS : va_S A s.heap s.heap [] := va_S.rf
  have hl := lv_entry ([.ref mo, .int (nI lz)]) (n := 11) (Nat.le_of_ble_eq_true rfl)
  rw [lg_entry_eq]
  generalize (lg_sl ([.ref mo, .int (nI lz)]) ++ List.replicate (11 - (lg_sl ([.ref mo, .int (nI lz)])).length) Slot.unset).toArray = ls at hl ⊢
  replace hl : lv_has ls 11 [(0, .ref mo), (1, .int (nI lz))] := hl
  have hn := hm.le
  have hm0 := hm
  have hmgC : mgC V lz = 4 + 2 * (qL V lz + szR (acF (bG V lz) (bN V lz))) := rfl
  have hqL : qL V lz = snA (fun r => szR (bG V lz r)) (bN V lz) := rfl
  have hnl := hn lz
  have hzA := szR_le (acF (bG V lz) (bN V lz))
  refine lv_iconst (v := nI 0) hx hb dX3_mergeOne_0 (by decide) ?_
  refine h_newqA (t := 3) (ty := .int) hx hb hK0.2.2.1 rfl hown hw0 hK0 hV0 hA0 hS hA (n := 0) (by omega) (by show _ ≤ mgC V lz; omega) (by show _ ≤ 65 * mgC V lz; omega) dX3_mergeOne_1 (fun q0 H hqq0 hV0 hA0 hS => ?_)
  have hle : leH hp (hput hp q0 (eQ 3 0 (fun _ => none))) := leH.rf.new hqq0
  have hqa : rn (hput hp q0 (eQ 3 0 (fun _ => none))) q0 (acF (bG V lz) 0) (acW (bG V lz) (ω lz) 0) := rn_new (hput_s _ _ _)
  replace hm := hm.mv hle
  generalize hput hp q0 (eQ 3 0 (fun _ => none)) = hp0 at hV0 hA0 hm hle hqa
  refine W.widen (k := 1 + 2 * snA (fun r => szR (bG V lz r)) 0) (n := 65 * (1 + 2 * snA (fun r => szR (bG V lz r)) 0)) (by show _ ≤ 1 + 2 * 0; omega) (by show _ ≤ 65 * (1 + 2 * 0); omega) ?_
  refine lv_astore_n (lv' := [(2, .ref q0), (0, .ref mo), (1, .int (nI lz))]) hx hb dX3_mergeOne_4 rfl hl (by decide) rfl (fun ls hl => ?_)
  refine lv_aload_n hx hb dX3_mergeOne_5 rfl (lv_at hl 1 rfl) ?_
  refine h_get (v := .ref lv) hx hb hts hi3 hown hK0 hV0 hm.cmo rfl 6 (by decide) hw1 rfl dX3_mergeOne_6 ?_
  refine lv_iload_n hx hb dX3_mergeOne_9 rfl (lv_at hl 2 rfl) ?_
  refine h_aaldE (i := lz) hm.clv hx hb hK0 hV0 rfl rfl (by omega) (by omega) dX3_mergeOne_10 ?_
  refine lv_astore_n (lv' := [(3, .ref (lvl lz)), (2, .ref q0), (0, .ref mo), (1, .int (nI lz))]) hx hb dX3_mergeOne_11 rfl hl (by decide) rfl (fun ls hl => ?_)
  refine lv_aload_n hx hb dX3_mergeOne_12 rfl (lv_at hl 0 rfl) ?_
  refine h_alenQ (hm.clvl (l := lz) (by omega)) hx hb hK0 hV0 rfl dX3_mergeOne_13 ?_
  refine lv_istore (lv' := [(4, .int (nI (bN V lz))), (3, .ref (lvl lz)), (2, .ref q0), (0, .ref mo), (1, .int (nI lz))]) hx hb dX3_mergeOne_14 hl (by decide) rfl (fun ls hl => ?_)
  refine lv_iconst (v := nI 0) hx hb dX3_mergeOne_16 (by decide) ?_
  refine lv_istore (lv' := [(5, .int (nI 0)), (4, .int (nI (bN V lz))), (3, .ref (lvl lz)), (2, .ref q0), (0, .ref mo), (1, .int (nI lz))]) hx hb dX3_mergeOne_17 hl (by decide) rfl (fun ls hl => ?_)
  replace hl : lv_has ls 11 [(5, .int (nI 0)), (2, .ref q0), (3, .ref (lvl lz)), (4, .int (nI (bN V lz))), (0, .ref mo), (1, .int (nI lz))] := lv_sub hl [0, 3, 2, 1, 4, 5] rfl
  refine h_loopWO (G := G) (A := A) (H0 := s.heap) (Wf := fun r H locs ls => W p l e (headSpec wsX3_mergeOne { frames := 1, cells := (mgC V lz), slots := (65 * mgC V lz), locals := 28 }).room s m ([.ref mo, .int (nI lz)].toArray) below meth c H locs (1 + 2 * snA (fun r => szR (bG V lz r)) r) (65 * (1 + 2 * snA (fun r => szR (bG V lz r)) r)) (MQ below (hW G A (fun ro hp' => ro = none ∧ (∃ lvl2 row2, sA mo dk lv lvl2 row2 rm tm dt d δ (mgB V lz) (mgT V ω lz) hp') ∧ exH hp hp')) ([.ref mo, .int (nI lz)].toArray) s (mgC V lz) (65 * mgC V lz) A) (F0 m 19 ls [])) (bN V lz) (fun r qa => [(5, .int (nI r)), (2, .ref qa), (3, .ref (lvl lz)), (4, .int (nI (bN V lz))), (0, .ref mo), (1, .int (nI lz))]) (fun r qa hp' => rn hp' qa (acF (bG V lz) r) (acW (bG V lz) (ω lz) r) ∧ leH hp hp') (fun r hi19 qa hp' H locs hI19 hV0 hA0 hS ih19 ls hl => ?_) 0 (Nat.zero_le _) _ _ H [] ⟨hqa, hle⟩ hV0 hA0 hS ls hl
  obtain ⟨hqa, hle⟩ := hI19
  replace hm := hm0.mv hle
  refine lv_iload hx hb dX3_mergeOne_19 (lv_at hl 0 rfl) ?_
  refine lv_iload hx hb dX3_mergeOne_21 (lv_at hl 3 rfl) ?_
  refine h_icmp_ge (a := r) (b := bN V lz) (tgt := 77) hx hb dX3_mergeOne_23 (by decide) (by omega) (by omega) (fun c_23 => ?_) (fun c_23 => ?_)
  · obtain rfl : r = bN V lz := by omega
    refine W.widen (k := 1 + 2 * qL V lz) (n := 65 * (1 + 2 * qL V lz)) (by show _ ≤ 1 + 2 * snA (fun r => szR (bG V lz r)) (bN V lz); omega) (by show _ ≤ 65 * (1 + 2 * snA (fun r => szR (bG V lz r)) (bN V lz)); omega) ?_
    replace hl : lv_has ls 11 [(2, .ref qa), (0, .ref mo), (1, .int (nI lz))] := lv_sub hl [1, 4, 5] rfl
    refine lv_aload_n hx hb dX3_mergeOne_77 rfl (lv_at hl 1 rfl) ?_
    refine h_get (v := .ref lv) hx hb hts hi3 hown hK0 hV0 hm.cmo rfl 6 (by decide) hw1 rfl dX3_mergeOne_78 ?_
    refine lv_iload_n hx hb dX3_mergeOne_81 rfl (lv_at hl 2 rfl) ?_
    refine lv_iconst (v := nI 0) hx hb dX3_mergeOne_82 (by decide) ?_
    refine h_newqA (t := 4) (ty := .array .int) hx hb hK0.2.2.2.1 rfl hown hw2 hK0 hV0 hA0 hS hA (n := 0) (by omega) (by show _ ≤ mgC V lz; omega) (by show _ ≤ 65 * mgC V lz; omega) dX3_mergeOne_83 (fun q1 H hqq1 hV0 hA0 hS => ?_)
    have hle1 : leH hp' (hput hp' q1 (eQ 4 0 (fun _ => none))) := leH.rf.new hqq1
    have hq1 : (hput hp' q1 (eQ 4 0 (fun _ => none))) q1 = some (eQ 4 0 (fun _ => none)) := hput_s _ _ _
    replace hm := hm.mv hle1
    replace hle := hle.tr hle1
    replace hqa := hqa.mv hle1.x
    generalize hput hp' q1 (eQ 4 0 (fun _ => none)) = hp2 at hV0 hA0 hm hle hle1 hqa hq1
    refine W.widen (k := 1 + 2 * qL V lz + 1) (n := 65 * (1 + 2 * qL V lz + 1)) (by omega) (by omega) ?_
    obtain ⟨LF, hLF, hLs⟩ := hm.clv
    refine h_aastB (i := lz) hx hb hK0 hV0 hA0 hS hLF hq1 (by omega) (by omega) dX3_mergeOne_86 (fun H locs hV0 hA0 hS => ?_)
    have hE9 : exH hp2 (hput hp2 lv (eQ 5 4 (va_up LF lz (some q1)))) := exH.rf.set hLF rfl
    have hE : exH hp (hput hp2 lv (eQ 5 4 (va_up LF lz (some q1)))) := hle.x.tr hE9
    replace hqa := hqa.mv hE9
    replace hm : sA mo dk lv ((fun l2 => if l2 = lz then q1 else lvl l2)) ((fun l2 => if l2 = lz then (fun _ => 0) else row l2)) rm tm dt d δ ((setL V lz 0 (fun _ => emR))) ω (hput hp2 lv (eQ 5 4 (va_up LF lz (some q1)))) := by
      have h9 := hm.setL hLF hLs (l := lz) (n := 0) (rw2 := fun _ => 0) (g := fun _ => emR) (w2 := ω lz) ⟨_, hq1, fun i9 h9 => absurd h9 (Nat.not_lt_zero i9)⟩ (fun r9 h9 => absurd h9 (Nat.not_lt_zero r9)) (fun r9 h9 => absurd h9 (Nat.not_lt_zero r9)) (by omega)
      rw [om_same] at h9
      exact h9
    have hn := hm.le
    replace hV0 : hV G (hput hp2 lv (eQ 5 4 (va_up LF lz (some q1)))) H := hV0
    replace hA0 : hIn A (hput hp2 lv (eQ 5 4 (va_up LF lz (some q1)))) := hA0
    generalize hput hp2 lv (eQ 5 4 (va_up LF lz (some q1))) = hp3 at hV0 hA0 hm hE hE9 hqa
    refine lv_iconst (v := nI 0) hx hb dX3_mergeOne_87 (by decide) ?_
    refine lv_istore_n (lv' := [(3, .int (nI 0)), (2, .ref qa), (0, .ref mo), (1, .int (nI lz))]) hx hb dX3_mergeOne_88 rfl hl (by decide) rfl (fun ls hl => ?_)
    refine lv_iload_n hx hb dX3_mergeOne_89 rfl (lv_at hl 3 rfl) ?_
    refine lv_iconst (v := nI 1) hx hb dX3_mergeOne_90 (by decide) ?_
    refine h_iaddN hx hb dX3_mergeOne_91 ?_
    refine lv_istore (lv' := [(4, .int (nI (lz + 1))), (3, .int (nI 0)), (2, .ref qa), (0, .ref mo), (1, .int (nI lz))]) hx hb dX3_mergeOne_92 hl (by decide) rfl (fun ls hl => ?_)
    replace hl : lv_has ls 11 [(4, .int (nI (lz + 1))), (3, .int (nI (snA (sbF (bN (setL V lz 0 (fun _ => emR))) (lz + 1)) (lz + 1)))), (2, .ref qa), (0, .ref mo), (1, .int (nI lz))] := by rw [sb_0 _ _ _ (Nat.le_refl _)]; exact hl
    replace hl : lv_has ls 11 [(4, .int (nI (lz + 1))), (3, .int (nI (snA (sbF (bN (setL V lz 0 (fun _ => emR))) (lz + 1)) (lz + 1)))), (2, .ref qa), (0, .ref mo), (1, .int (nI lz))] := lv_sub hl [0, 1, 2, 3, 4] rfl
    revert ls
    refine h_loop 4 (fun i => [(4, .int (nI i)), (3, .int (nI (snA (sbF (bN (setL V lz 0 (fun _ => emR))) (lz + 1)) i))), (2, .ref qa), (0, .ref mo), (1, .int (nI lz))]) (fun i => lz < i) (fun i hi94 hI94 ih94 ls hl => ?_) (lz + 1) (by omega) (Nat.lt_succ_self lz)
    refine lv_iload hx hb dX3_mergeOne_94 (lv_at hl 0 rfl) ?_
    refine lv_iconst (v := nI 4) hx hb dX3_mergeOne_96 (by decide) ?_
    refine h_icmp_ge (a := i) (b := 4) (tgt := 117) hx hb dX3_mergeOne_97 (by decide) (by omega) (by omega) (fun c_97 => ?_) (fun c_97 => ?_)
    · obtain rfl : i = 4 := by omega
      have hsb4 := sb_le (n := bN (setL V lz 0 (fun _ => emR))) hn (lz + 1) 4
      have hnb := sb_nb (V := V) hl4
      have hnb2 : nbA (bN V) lz = decide (snA (sbF (bN (setL V lz 0 (fun _ => emR))) (lz + 1)) 4 = 0) := hnb
      refine lv_iload_n hx hb dX3_mergeOne_117 rfl (lv_at hl 1 rfl) ?_
      refine h_if_ne (a := snA (sbF (bN (setL V lz 0 (fun _ => emR))) (lz + 1)) 4) (tgt := 177) hx hb dX3_mergeOne_118 (by decide) (by omega) (fun c_118 => ?_) (fun c_118 => ?_)
      · have hnbf : nbA (bN V) lz = false := by rw [hnb2, decide_eq_false (by omega)]
        rw [← mk_0 (fun r hr => hm0.ok hl4 hr) hnbf] at hqa
        have hqf := hqa
        replace hl : lv_has ls 11 [(2, .ref qa), (0, .ref mo), (1, .int (nI lz))] := lv_sub hl [2, 3, 4] rfl
        refine W.widen (k := 1 + 2 * qL V lz + 1 + 1 + 2 * szR (acF (bG V lz) (bN V lz))) (n := 65 * (1 + 2 * qL V lz + 1 + 1 + 2 * szR (acF (bG V lz) (bN V lz)))) (by omega) (by omega) ?_
        have hzM := szR_le (mkB V lz)
        refine lv_aload_n hx hb dX3_mergeOne_177 rfl (lv_at hl 1 rfl) ?_
        refine lv_dup hx hb dX3_mergeOne_178 rfl ?_
        refine h_get (v := .int (bK ((setL V lz 0 (fun _ => emR))))) hx hb hts hi3 hown hK0 hV0 hm.cmo rfl 4 (by decide) hw3 rfl dX3_mergeOne_179 ?_
        refine lv_iconst (v := nI 1) hx hb dX3_mergeOne_182 (by decide) ?_
        refine lv_iadd hx hb dX3_mergeOne_183 ?_
        refine h_put (v := .int ((bK ((setL V lz 0 (fun _ => emR)))) + nI 1)) hx hb hts hi3 tyX3 tyX3_ok nmX3 hown hK0 hV0 hA0 hS hm.cmo rfl 4 (by decide) hw3 rfl (by rfl) (by rfl) (Nat.le_of_ble_eq_true rfl) dX3_mergeOne_184 (fun H locs hV0 hA0 hS => ?_)
        have hE0 := exH.rf.set (hp0 := hp3) hm.cmo (e := eO 3 [.int rm, .int (nI tm), .int (bM ((setL V lz 0 (fun _ => emR)))), .int dt, .int (((bK ((setL V lz 0 (fun _ => emR)))) + nI 1)), .ref dk, .ref lv]) rfl
        replace hE := hE.tr hE0
        replace hm : sA mo dk lv ((fun l2 => if l2 = lz then q1 else lvl l2)) ((fun l2 => if l2 = lz then (fun _ => 0) else row l2)) rm tm dt d δ (setK ((setL V lz 0 (fun _ => emR))) (((bK ((setL V lz 0 (fun _ => emR)))) + nI 1))) ω (hput hp3 mo (eO 3 [.int rm, .int (nI tm), .int (bM ((setL V lz 0 (fun _ => emR)))), .int dt, .int (((bK ((setL V lz 0 (fun _ => emR)))) + nI 1)), .ref dk, .ref lv])) := hm.setO hm.cdk
        have hn := hm.le
        replace hV0 : hV G (hput hp3 mo (eO 3 [.int rm, .int (nI tm), .int (bM ((setL V lz 0 (fun _ => emR)))), .int dt, .int (((bK ((setL V lz 0 (fun _ => emR)))) + nI 1)), .ref dk, .ref lv])) H := hV0
        replace hA0 : hIn A (hput hp3 mo (eO 3 [.int rm, .int (nI tm), .int (bM ((setL V lz 0 (fun _ => emR)))), .int dt, .int (((bK ((setL V lz 0 (fun _ => emR)))) + nI 1)), .ref dk, .ref lv])) := hA0
        generalize hput hp3 mo (eO 3 [.int rm, .int (nI tm), .int (bM ((setL V lz 0 (fun _ => emR)))), .int dt, .int (((bK ((setL V lz 0 (fun _ => emR)))) + nI 1)), .ref dk, .ref lv]) = hp101 at hV0 hA0 hm hE hE0
        replace hqf := hqf.mv hE0
        refine lv_aload_n hx hb dX3_mergeOne_187 rfl (lv_at hl 0 rfl) ?_
        refine h_alenQ hqf.1 hx hb hK0 hV0 rfl dX3_mergeOne_188 ?_
        refine h_if_le (a := szR (mkB V lz)) (tgt := 209) hx hb dX3_mergeOne_189 (by decide) (by omega) (fun c_189 => ?_) (fun c_189 => ?_)
        · refine W.widen (k := (mgC V lz)) (n := (65 * mgC V lz)) (by omega) (by omega) ?_
          exact W.vret hx hb hr (h_qW ⟨rfl, by rw [mgB_0 (show szR (mkB V lz) = 0 by omega), mgT_0 (show szR (mkB V lz) = 0 by omega)]; exact ⟨_, _, hm⟩, hE⟩ hV0 hA0 hS) hS.2.2 dX3_mergeOne_209 hlocks
        · refine lv_aload_n hx hb dX3_mergeOne_192 rfl (lv_at hl 1 rfl) ?_
          refine lv_iload_n hx hb dX3_mergeOne_193 rfl (lv_at hl 2 rfl) ?_
          refine lv_iconst (v := nI 3) hx hb dX3_mergeOne_194 (by decide) ?_
          refine h_icmp_ne (a := lz) (b := 3) (tgt := 202) hx hb dX3_mergeOne_195 (by decide) (by omega) (by omega) (fun c_195 => ?_) (fun c_195 => ?_)
          · refine lv_iload_n hx hb dX3_mergeOne_202 rfl (lv_at hl 2 rfl) ?_
            refine lv_iconst (v := nI 1) hx hb dX3_mergeOne_203 (by decide) ?_
            refine h_iaddN hx hb dX3_mergeOne_204 ?_
            refine lv_aload_n hx hb dX3_mergeOne_205 rfl (lv_at hl 0 rfl) ?_
            have hm9 : sA mo dk lv ((fun l2 => if l2 = lz then q1 else lvl l2)) ((fun l2 => if l2 = lz then (fun _ => 0) else row l2)) rm tm dt d δ (clB V lz) ω hp101 := hm
            have hp9 := mgB_pre hl4 h1
            rw [(show min (lz + 1) 3 = lz + 1 by omega)] at hp9
            refine h_wrV (As := [.int (nI (lz + 1)), .ref qa]) (rest := []) hF (c_X3_front l G A hp101 mo dk lv ((fun l2 => if l2 = lz then q1 else lvl l2)) ((fun l2 => if l2 = lz then (fun _ => 0) else row l2)) rm tm dt d δ (clB V lz) ω hm9 (lz + 1) (by omega) hp9 qa (mkB V lz) (acW (bG V lz) (ω lz) (bN V lz)) hqf (by omega) (mk_ok (fun r hr => hm0.ok hl4 hr)) hA0) 2 gX3_mergeOne_X3_front rfl (by decide +kernel) ⟨Nat.le_of_ble_eq_true rfl, Nat.le_of_ble_eq_true rfl⟩ hK0 hV0 hA hS hm.cmo rfl rfl rfl hl.1 rfl (Nat.le_of_ble_eq_true rfl) ⟨by show _ ≤ (mgC V lz); omega, by show _ ≤ (65 * mgC V lz); omega⟩ dX3_mergeOne_206 (fun ro hp1 H locs hP1 hV0 hA0 hS => ?_)
            obtain ⟨rfl, ⟨lvl2, row2, hm3⟩, hE3⟩ := hP1
            have e9 : min (lz + 1) 3 = lz + 1 := by omega
            refine W.widen (k := (mgC V lz)) (n := (65 * mgC V lz)) (by omega) (by omega) ?_
            exact W.vret hx hb hr (h_qW ⟨rfl, by rw [mgB_1 (show ¬ szR (mkB V lz) = 0 by omega), mgT_1 (show ¬ szR (mkB V lz) = 0 by omega), e9]; exact ⟨_, _, hm3⟩, hE.tr hE3⟩ hV0 hA0 hS) hS.2.2 dX3_mergeOne_209 hlocks
          · refine lv_iconst (v := nI 3) hx hb dX3_mergeOne_198 (by decide) ?_
            refine lv_goto (tgt := 205) hx hb dX3_mergeOne_199 (by decide) ?_
            refine lv_aload_n hx hb dX3_mergeOne_205 rfl (lv_at hl 0 rfl) ?_
            have hm9 : sA mo dk lv ((fun l2 => if l2 = lz then q1 else lvl l2)) ((fun l2 => if l2 = lz then (fun _ => 0) else row l2)) rm tm dt d δ (clB V lz) ω hp101 := hm
            have hp9 := mgB_pre hl4 h1
            rw [(show min (lz + 1) 3 = 3 by omega)] at hp9
            refine h_wrV (As := [.int (nI 3), .ref qa]) (rest := []) hF (c_X3_front l G A hp101 mo dk lv ((fun l2 => if l2 = lz then q1 else lvl l2)) ((fun l2 => if l2 = lz then (fun _ => 0) else row l2)) rm tm dt d δ (clB V lz) ω hm9 3 (by omega) hp9 qa (mkB V lz) (acW (bG V lz) (ω lz) (bN V lz)) hqf (by omega) (mk_ok (fun r hr => hm0.ok hl4 hr)) hA0) 2 gX3_mergeOne_X3_front rfl (by decide +kernel) ⟨Nat.le_of_ble_eq_true rfl, Nat.le_of_ble_eq_true rfl⟩ hK0 hV0 hA hS hm.cmo rfl rfl rfl hl.1 rfl (Nat.le_of_ble_eq_true rfl) ⟨by show _ ≤ (mgC V lz); omega, by show _ ≤ (65 * mgC V lz); omega⟩ dX3_mergeOne_206 (fun ro hp1 H locs hP1 hV0 hA0 hS => ?_)
            obtain ⟨rfl, ⟨lvl2, row2, hm3⟩, hE3⟩ := hP1
            have e9 : min (lz + 1) 3 = 3 := by omega
            refine W.widen (k := (mgC V lz)) (n := (65 * mgC V lz)) (by omega) (by omega) ?_
            exact W.vret hx hb hr (h_qW ⟨rfl, by rw [mgB_1 (show ¬ szR (mkB V lz) = 0 by omega), mgT_1 (show ¬ szR (mkB V lz) = 0 by omega), e9]; exact ⟨_, _, hm3⟩, hE.tr hE3⟩ hV0 hA0 hS) hS.2.2 dX3_mergeOne_209 hlocks
      · have hnbt : nbA (bN V) lz = true := by rw [hnb2, decide_eq_true (by omega)]
        have hokF : okR (acF (bG V lz) (bN V lz)) := ac_ok (fun r hr => hm0.ok hl4 hr)
        refine lv_iconst (v := nI 0) hx hb dX3_mergeOne_121 (by decide) ?_
        refine h_newqA (t := 3) (ty := .int) hx hb hK0.2.2.1 rfl hown hw0 hK0 hV0 hA0 hS hA (n := 0) (by omega) (by show _ ≤ mgC V lz; omega) (by show _ ≤ 65 * mgC V lz; omega) dX3_mergeOne_122 (fun q3 H hqq3 hV0 hA0 hS => ?_)
        have hle3 : leH hp3 (hput hp3 q3 (eQ 3 0 (fun _ => none))) := leH.rf.new hqq3
        have hql : rn (hput hp3 q3 (eQ 3 0 (fun _ => none))) q3 (lfP (acF (bG V lz) (bN V lz)) 0) (acW (bG V lz) (ω lz) (bN V lz)) := by rw [lfP_0]; exact rn_new (hput_s _ _ _)
        generalize hput hp3 q3 (eQ 3 0 (fun _ => none)) = hp4 at hV0 hA0 hle3 hql
        refine W.widen (k := 1 + 2 * qL V lz + 1 + 1 + 2 * 0) (n := 65 * (1 + 2 * qL V lz + 1 + 1 + 2 * 0)) (by omega) (by omega) ?_
        have hqa4 := hqa.mv hle3.x
        refine lv_astore (lv' := [(4, .ref q3), (3, .int (nI (snA (sbF (bN (setL V lz 0 (fun _ => emR))) (lz + 1)) 4))), (2, .ref qa), (0, .ref mo), (1, .int (nI lz))]) hx hb dX3_mergeOne_125 hl (by decide) rfl (fun ls hl => ?_)
        refine lv_aload_n hx hb dX3_mergeOne_127 rfl (lv_at hl 2 rfl) ?_
        refine lv_astore (lv' := [(5, .ref qa), (4, .ref q3), (3, .int (nI (snA (sbF (bN (setL V lz 0 (fun _ => emR))) (lz + 1)) 4))), (2, .ref qa), (0, .ref mo), (1, .int (nI lz))]) hx hb dX3_mergeOne_128 hl (by decide) rfl (fun ls hl => ?_)
        refine lv_aload hx hb dX3_mergeOne_130 (lv_at hl 0 rfl) ?_
        refine h_alenQ hqa4.1 hx hb hK0 hV0 rfl dX3_mergeOne_132 ?_
        refine lv_istore (lv' := [(6, .int (nI (szR (acF (bG V lz) (bN V lz))))), (5, .ref qa), (4, .ref q3), (3, .int (nI (snA (sbF (bN (setL V lz 0 (fun _ => emR))) (lz + 1)) 4))), (2, .ref qa), (0, .ref mo), (1, .int (nI lz))]) hx hb dX3_mergeOne_133 hl (by decide) rfl (fun ls hl => ?_)
        refine lv_iconst (v := nI 0) hx hb dX3_mergeOne_135 (by decide) ?_
        refine lv_istore (lv' := [(7, .int (nI 0)), (6, .int (nI (szR (acF (bG V lz) (bN V lz))))), (5, .ref qa), (4, .ref q3), (3, .int (nI (snA (sbF (bN (setL V lz 0 (fun _ => emR))) (lz + 1)) 4))), (2, .ref qa), (0, .ref mo), (1, .int (nI lz))]) hx hb dX3_mergeOne_136 hl (by decide) rfl (fun ls hl => ?_)
        replace hl : lv_has ls 11 [(7, .int (nI 0)), (4, .ref q3), (5, .ref qa), (6, .int (nI (szR (acF (bG V lz) (bN V lz))))), (2, .ref qa), (0, .ref mo), (1, .int (nI lz))] := lv_sub hl [0, 3, 2, 1, 5, 6, 7] rfl
        refine h_loopWO (G := G) (A := A) (H0 := s.heap) (Wf := fun k H locs ls => W p l e (headSpec wsX3_mergeOne { frames := 1, cells := (mgC V lz), slots := (65 * mgC V lz), locals := 28 }).room s m ([.ref mo, .int (nI lz)].toArray) below meth c H locs (1 + 2 * qL V lz + 1 + 1 + 2 * k) (65 * (1 + 2 * qL V lz + 1 + 1 + 2 * k)) (MQ below (hW G A (fun ro hp' => ro = none ∧ (∃ lvl2 row2, sA mo dk lv lvl2 row2 rm tm dt d δ (mgB V lz) (mgT V ω lz) hp') ∧ exH hp hp')) ([.ref mo, .int (nI lz)].toArray) s (mgC V lz) (65 * mgC V lz) A) (F0 m 138 ls [])) (szR (acF (bG V lz) (bN V lz))) (fun k ql => [(7, .int (nI k)), (4, .ref ql), (5, .ref qa), (6, .int (nI (szR (acF (bG V lz) (bN V lz))))), (2, .ref qa), (0, .ref mo), (1, .int (nI lz))]) (fun k ql hp' => rn hp' ql (lfP (acF (bG V lz) (bN V lz)) k) (acW (bG V lz) (ω lz) (bN V lz)) ∧ leH hp3 hp') (fun k hi138 ql hp' H locs hI138 hV0 hA0 hS ih138 ls hl => ?_) 0 (Nat.zero_le _) _ _ H locs ⟨hql, hle3⟩ hV0 hA0 hS ls hl
        obtain ⟨hql, hle3⟩ := hI138
        have hqa4 := hqa.mv hle3.x
        refine lv_iload hx hb dX3_mergeOne_138 (lv_at hl 0 rfl) ?_
        refine lv_iload hx hb dX3_mergeOne_140 (lv_at hl 3 rfl) ?_
        refine h_icmp_ge (a := k) (b := szR (acF (bG V lz) (bN V lz))) (tgt := 174) hx hb dX3_mergeOne_142 (by decide) (by omega) (by omega) (fun c_142 => ?_) (fun c_142 => ?_)
        · obtain rfl : k = szR (acF (bG V lz) (bN V lz)) := by omega
          rw [← mk_1 (fun r hr => hm0.ok hl4 hr) hnbt] at hql
          replace hm := hm.mv hle3
          replace hE := hE.tr hle3.x
          have hn := hm.le
          replace hl : lv_has ls 11 [(4, .ref ql), (0, .ref mo), (1, .int (nI lz))] := lv_sub hl [1, 5, 6] rfl
          have hqf := hql
          refine lv_aload hx hb dX3_mergeOne_174 (lv_at hl 0 rfl) ?_
          refine lv_astore_n (lv' := [(2, .ref ql), (4, .ref ql), (0, .ref mo), (1, .int (nI lz))]) hx hb dX3_mergeOne_176 rfl hl (by decide) rfl (fun ls hl => ?_)
          replace hl : lv_has ls 11 [(2, .ref ql), (0, .ref mo), (1, .int (nI lz))] := lv_sub hl [0, 2, 3] rfl
          refine W.widen (k := 1 + 2 * qL V lz + 1 + 1 + 2 * szR (acF (bG V lz) (bN V lz))) (n := 65 * (1 + 2 * qL V lz + 1 + 1 + 2 * szR (acF (bG V lz) (bN V lz)))) (by omega) (by omega) ?_
          have hzM := szR_le (mkB V lz)
          refine lv_aload_n hx hb dX3_mergeOne_177 rfl (lv_at hl 1 rfl) ?_
          refine lv_dup hx hb dX3_mergeOne_178 rfl ?_
          refine h_get (v := .int (bK ((setL V lz 0 (fun _ => emR))))) hx hb hts hi3 hown hK0 hV0 hm.cmo rfl 4 (by decide) hw3 rfl dX3_mergeOne_179 ?_
          refine lv_iconst (v := nI 1) hx hb dX3_mergeOne_182 (by decide) ?_
          refine lv_iadd hx hb dX3_mergeOne_183 ?_
          refine h_put (v := .int ((bK ((setL V lz 0 (fun _ => emR)))) + nI 1)) hx hb hts hi3 tyX3 tyX3_ok nmX3 hown hK0 hV0 hA0 hS hm.cmo rfl 4 (by decide) hw3 rfl (by rfl) (by rfl) (Nat.le_of_ble_eq_true rfl) dX3_mergeOne_184 (fun H locs hV0 hA0 hS => ?_)
          have hE0 := exH.rf.set (hp0 := hp') hm.cmo (e := eO 3 [.int rm, .int (nI tm), .int (bM ((setL V lz 0 (fun _ => emR)))), .int dt, .int (((bK ((setL V lz 0 (fun _ => emR)))) + nI 1)), .ref dk, .ref lv]) rfl
          replace hE := hE.tr hE0
          replace hm : sA mo dk lv ((fun l2 => if l2 = lz then q1 else lvl l2)) ((fun l2 => if l2 = lz then (fun _ => 0) else row l2)) rm tm dt d δ (setK ((setL V lz 0 (fun _ => emR))) (((bK ((setL V lz 0 (fun _ => emR)))) + nI 1))) ω (hput (hp') mo (eO 3 [.int rm, .int (nI tm), .int (bM ((setL V lz 0 (fun _ => emR)))), .int dt, .int (((bK ((setL V lz 0 (fun _ => emR)))) + nI 1)), .ref dk, .ref lv])) := hm.setO hm.cdk
          have hn := hm.le
          replace hV0 : hV G (hput (hp') mo (eO 3 [.int rm, .int (nI tm), .int (bM ((setL V lz 0 (fun _ => emR)))), .int dt, .int (((bK ((setL V lz 0 (fun _ => emR)))) + nI 1)), .ref dk, .ref lv])) H := hV0
          replace hA0 : hIn A (hput (hp') mo (eO 3 [.int rm, .int (nI tm), .int (bM ((setL V lz 0 (fun _ => emR)))), .int dt, .int (((bK ((setL V lz 0 (fun _ => emR)))) + nI 1)), .ref dk, .ref lv])) := hA0
          generalize hput (hp') mo (eO 3 [.int rm, .int (nI tm), .int (bM ((setL V lz 0 (fun _ => emR)))), .int dt, .int (((bK ((setL V lz 0 (fun _ => emR)))) + nI 1)), .ref dk, .ref lv]) = hp102 at hV0 hA0 hm hE hE0
          replace hqf := hqf.mv hE0
          refine lv_aload_n hx hb dX3_mergeOne_187 rfl (lv_at hl 0 rfl) ?_
          refine h_alenQ hqf.1 hx hb hK0 hV0 rfl dX3_mergeOne_188 ?_
          refine h_if_le (a := szR (mkB V lz)) (tgt := 209) hx hb dX3_mergeOne_189 (by decide) (by omega) (fun c_189 => ?_) (fun c_189 => ?_)
          · refine W.widen (k := (mgC V lz)) (n := (65 * mgC V lz)) (by omega) (by omega) ?_
            exact W.vret hx hb hr (h_qW ⟨rfl, by rw [mgB_0 (show szR (mkB V lz) = 0 by omega), mgT_0 (show szR (mkB V lz) = 0 by omega)]; exact ⟨_, _, hm⟩, hE⟩ hV0 hA0 hS) hS.2.2 dX3_mergeOne_209 hlocks
          · refine lv_aload_n hx hb dX3_mergeOne_192 rfl (lv_at hl 1 rfl) ?_
            refine lv_iload_n hx hb dX3_mergeOne_193 rfl (lv_at hl 2 rfl) ?_
            refine lv_iconst (v := nI 3) hx hb dX3_mergeOne_194 (by decide) ?_
            refine h_icmp_ne (a := lz) (b := 3) (tgt := 202) hx hb dX3_mergeOne_195 (by decide) (by omega) (by omega) (fun c_195 => ?_) (fun c_195 => ?_)
            · refine lv_iload_n hx hb dX3_mergeOne_202 rfl (lv_at hl 2 rfl) ?_
              refine lv_iconst (v := nI 1) hx hb dX3_mergeOne_203 (by decide) ?_
              refine h_iaddN hx hb dX3_mergeOne_204 ?_
              refine lv_aload_n hx hb dX3_mergeOne_205 rfl (lv_at hl 0 rfl) ?_
              have hm9 : sA mo dk lv ((fun l2 => if l2 = lz then q1 else lvl l2)) ((fun l2 => if l2 = lz then (fun _ => 0) else row l2)) rm tm dt d δ (clB V lz) ω hp102 := hm
              have hp9 := mgB_pre hl4 h1
              rw [(show min (lz + 1) 3 = lz + 1 by omega)] at hp9
              refine h_wrV (As := [.int (nI (lz + 1)), .ref ql]) (rest := []) hF (c_X3_front l G A hp102 mo dk lv ((fun l2 => if l2 = lz then q1 else lvl l2)) ((fun l2 => if l2 = lz then (fun _ => 0) else row l2)) rm tm dt d δ (clB V lz) ω hm9 (lz + 1) (by omega) hp9 ql (mkB V lz) (acW (bG V lz) (ω lz) (bN V lz)) hqf (by omega) (mk_ok (fun r hr => hm0.ok hl4 hr)) hA0) 2 gX3_mergeOne_X3_front rfl (by decide +kernel) ⟨Nat.le_of_ble_eq_true rfl, Nat.le_of_ble_eq_true rfl⟩ hK0 hV0 hA hS hm.cmo rfl rfl rfl hl.1 rfl (Nat.le_of_ble_eq_true rfl) ⟨by show _ ≤ (mgC V lz); omega, by show _ ≤ (65 * mgC V lz); omega⟩ dX3_mergeOne_206 (fun ro hp1 H locs hP1 hV0 hA0 hS => ?_)
              obtain ⟨rfl, ⟨lvl2, row2, hm3⟩, hE3⟩ := hP1
              have e9 : min (lz + 1) 3 = lz + 1 := by omega
              refine W.widen (k := (mgC V lz)) (n := (65 * mgC V lz)) (by omega) (by omega) ?_
              exact W.vret hx hb hr (h_qW ⟨rfl, by rw [mgB_1 (show ¬ szR (mkB V lz) = 0 by omega), mgT_1 (show ¬ szR (mkB V lz) = 0 by omega), e9]; exact ⟨_, _, hm3⟩, hE.tr hE3⟩ hV0 hA0 hS) hS.2.2 dX3_mergeOne_209 hlocks
            · refine lv_iconst (v := nI 3) hx hb dX3_mergeOne_198 (by decide) ?_
              refine lv_goto (tgt := 205) hx hb dX3_mergeOne_199 (by decide) ?_
              refine lv_aload_n hx hb dX3_mergeOne_205 rfl (lv_at hl 0 rfl) ?_
              have hm9 : sA mo dk lv ((fun l2 => if l2 = lz then q1 else lvl l2)) ((fun l2 => if l2 = lz then (fun _ => 0) else row l2)) rm tm dt d δ (clB V lz) ω hp102 := hm
              have hp9 := mgB_pre hl4 h1
              rw [(show min (lz + 1) 3 = 3 by omega)] at hp9
              refine h_wrV (As := [.int (nI 3), .ref ql]) (rest := []) hF (c_X3_front l G A hp102 mo dk lv ((fun l2 => if l2 = lz then q1 else lvl l2)) ((fun l2 => if l2 = lz then (fun _ => 0) else row l2)) rm tm dt d δ (clB V lz) ω hm9 3 (by omega) hp9 ql (mkB V lz) (acW (bG V lz) (ω lz) (bN V lz)) hqf (by omega) (mk_ok (fun r hr => hm0.ok hl4 hr)) hA0) 2 gX3_mergeOne_X3_front rfl (by decide +kernel) ⟨Nat.le_of_ble_eq_true rfl, Nat.le_of_ble_eq_true rfl⟩ hK0 hV0 hA hS hm.cmo rfl rfl rfl hl.1 rfl (Nat.le_of_ble_eq_true rfl) ⟨by show _ ≤ (mgC V lz); omega, by show _ ≤ (65 * mgC V lz); omega⟩ dX3_mergeOne_206 (fun ro hp1 H locs hP1 hV0 hA0 hS => ?_)
              obtain ⟨rfl, ⟨lvl2, row2, hm3⟩, hE3⟩ := hP1
              have e9 : min (lz + 1) 3 = 3 := by omega
              refine W.widen (k := (mgC V lz)) (n := (65 * mgC V lz)) (by omega) (by omega) ?_
              exact W.vret hx hb hr (h_qW ⟨rfl, by rw [mgB_1 (show ¬ szR (mkB V lz) = 0 by omega), mgT_1 (show ¬ szR (mkB V lz) = 0 by omega), e9]; exact ⟨_, _, hm3⟩, hE.tr hE3⟩ hV0 hA0 hS) hS.2.2 dX3_mergeOne_209 hlocks
        · refine lv_aload hx hb dX3_mergeOne_145 (lv_at hl 2 rfl) ?_
          refine lv_iload hx hb dX3_mergeOne_147 (lv_at hl 0 rfl) ?_
          refine h_aaldE (i := k) hqa4.1 hx hb hK0 hV0 rfl rfl (by omega) (by omega) dX3_mergeOne_149 ?_
          refine lv_astore (lv' := [(8, .ref (((acW (bG V lz) (ω lz) (bN V lz)) (nthR (acF (bG V lz) (bN V lz)) k)).2)), (7, .int (nI k)), (4, .ref ql), (5, .ref qa), (6, .int (nI (szR (acF (bG V lz) (bN V lz))))), (2, .ref qa), (0, .ref mo), (1, .int (nI lz))]) hx hb dX3_mergeOne_150 hl (by decide) rfl (fun ls hl => ?_)
          refine lv_aload hx hb dX3_mergeOne_152 (lv_at hl 0 rfl) ?_
          refine lv_iconst (v := nI 1) hx hb dX3_mergeOne_154 (by decide) ?_
          refine h_sl1 (hqa4.at (k := k) (by omega)) hx hb hK0 hV0 dX3_mergeOne_155 ?_
          refine lv_if_lt (tgt := 168) hx hb dX3_mergeOne_156 (by decide) (fun c_156 => ?_) (fun c_156 => ?_)
          · refine lv_iinc (v := nI (k + 1)) (lv' := [(7, .int (nI (k + 1))), (8, .ref (((acW (bG V lz) (ω lz) (bN V lz)) (nthR (acF (bG V lz) (bN V lz)) k)).2)), (4, .ref ql), (5, .ref qa), (6, .int (nI (szR (acF (bG V lz) (bN V lz))))), (2, .ref qa), (0, .ref mo), (1, .int (nI lz))]) hx hb dX3_mergeOne_168 hl (k := 1) rfl (nI_add (k) 1) (by decide) rfl (fun ls hl => ?_)
            refine lv_goto (tgt := 138) hx hb dX3_mergeOne_171 (by decide) ?_
            rw [← lf_s2 hokF (k := k) (by omega) ((hokF.w (nth_at (f := acF (bG V lz) (bN V lz)) (k := k) (by omega)).2.1).lt.mp c_156)] at hql
            refine W.widen (k := 1 + 2 * qL V lz + 1 + 1 + 2 * (k + 1)) (n := 65 * (1 + 2 * qL V lz + 1 + 1 + 2 * (k + 1))) (by omega) (by omega) ?_
            exact ih138 _ _ H locs (by omega) ⟨hql, hle3⟩ hV0 hA0 hS ls (lv_sub hl [0, 2, 3, 4, 5, 6, 7] rfl)
          · refine lv_aload hx hb dX3_mergeOne_159 (lv_at hl 2 rfl) ?_
            refine lv_aload hx hb dX3_mergeOne_161 (lv_at hl 0 rfl) ?_
            refine h_wrSN (As := [.ref ql, .ref (((acW (bG V lz) (ω lz) (bN V lz)) (nthR (acF (bG V lz) (bN V lz)) k)).2)]) (rest := []) hF (c_L_with l G A hp' ql (lfP (acF (bG V lz) (bN V lz)) k) (acW (bG V lz) (ω lz) (bN V lz)) hql (((acW (bG V lz) (ω lz) (bN V lz)) (nthR (acF (bG V lz) (bN V lz)) k)).2) (nthR (acF (bG V lz) (bN V lz)) k) ((acF (bG V lz) (bN V lz)) (nthR (acF (bG V lz) (bN V lz)) k)) ((acW (bG V lz) (ω lz) (bN V lz)) (nthR (acF (bG V lz) (bN V lz)) k)).1 (hqa4.at (k := k) (by omega)) (ne_has (nth_at (f := acF (bG V lz) (bN V lz)) (k := k) (by omega)).2.1) hA0) 2 gX3_mergeOne_L_with_n39 rfl hK0.2.2.2.2.2.1 hw4 hw5 (by decide +kernel) ⟨Nat.le_of_ble_eq_true rfl, Nat.le_of_ble_eq_true rfl⟩ hK0 hV0 hA hS rfl hl.1 rfl (Nat.le_of_ble_eq_true rfl) ⟨by show _ ≤ (mgC V lz); omega, by show _ ≤ (65 * mgC V lz); omega⟩ dX3_mergeOne_163 (fun ro hp1 H locs hP1 hV0 hA0 hS => ?_)
            obtain ⟨q9, rfl, hq9, hle9⟩ := hP1
            replace hql := lf_step hokF (by omega) (fun z => by rw [z] at c_156; exact c_156 (by decide)) hq9
            replace hle3 := hle3.tr hle9
            refine W.widen (k := 1 + 2 * qL V lz + 1 + 1 + 2 * (k + 1)) (n := 65 * (1 + 2 * qL V lz + 1 + 1 + 2 * (k + 1))) (by omega) (by omega) ?_
            refine lv_astore (lv' := [(4, .ref q9), (8, .ref (((acW (bG V lz) (ω lz) (bN V lz)) (nthR (acF (bG V lz) (bN V lz)) k)).2)), (7, .int (nI k)), (5, .ref qa), (6, .int (nI (szR (acF (bG V lz) (bN V lz))))), (2, .ref qa), (0, .ref mo), (1, .int (nI lz))]) hx hb dX3_mergeOne_166 hl (by decide) rfl (fun ls hl => ?_)
            refine lv_iinc (v := nI (k + 1)) (lv' := [(7, .int (nI (k + 1))), (4, .ref q9), (8, .ref (((acW (bG V lz) (ω lz) (bN V lz)) (nthR (acF (bG V lz) (bN V lz)) k)).2)), (5, .ref qa), (6, .int (nI (szR (acF (bG V lz) (bN V lz))))), (2, .ref qa), (0, .ref mo), (1, .int (nI lz))]) hx hb dX3_mergeOne_168 hl (k := 2) rfl (nI_add (k) 1) (by decide) rfl (fun ls hl => ?_)
            refine lv_goto (tgt := 138) hx hb dX3_mergeOne_171 (by decide) ?_
            exact ih138 _ _ H locs (by omega) ⟨hql, hle3⟩ hV0 hA0 hS ls (lv_sub hl [0, 1, 3, 4, 5, 6, 7] rfl)
    · refine lv_iload_n hx hb dX3_mergeOne_100 rfl (lv_at hl 1 rfl) ?_
      refine lv_aload_n hx hb dX3_mergeOne_101 rfl (lv_at hl 3 rfl) ?_
      refine h_get (v := .ref lv) hx hb hts hi3 hown hK0 hV0 hm.cmo rfl 6 (by decide) hw1 rfl dX3_mergeOne_102 ?_
      refine lv_iload hx hb dX3_mergeOne_105 (lv_at hl 0 rfl) ?_
      refine h_aaldE (i := i) hm.clv hx hb hK0 hV0 rfl rfl (by omega) (by omega) dX3_mergeOne_107 ?_
      refine h_alenQ (hm.clvl (l := i) (by omega)) hx hb hK0 hV0 rfl dX3_mergeOne_108 ?_
      refine h_iaddN hx hb dX3_mergeOne_109 ?_
      refine lv_istore_n (lv' := [(3, .int (nI (snA (sbF (bN (setL V lz 0 (fun _ => emR))) (lz + 1)) i + bN ((setL V lz 0 (fun _ => emR))) i))), (4, .int (nI i)), (2, .ref qa), (0, .ref mo), (1, .int (nI lz))]) hx hb dX3_mergeOne_110 rfl hl (by decide) rfl (fun ls hl => ?_)
      refine lv_iinc (v := nI (i + 1)) (lv' := [(4, .int (nI (i + 1))), (3, .int (nI (snA (sbF (bN (setL V lz 0 (fun _ => emR))) (lz + 1)) i + bN ((setL V lz 0 (fun _ => emR))) i))), (2, .ref qa), (0, .ref mo), (1, .int (nI lz))]) hx hb dX3_mergeOne_111 hl (k := 1) rfl (nI_add (i) 1) (by decide) rfl (fun ls hl => ?_)
      refine lv_goto (tgt := 94) hx hb dX3_mergeOne_114 (by decide) ?_
      exact ih94 (by omega) (by omega) ls (by show lv_has ls 11 [(4, .int (nI (i + 1))), (3, .int (nI (snA (sbF (bN (setL V lz 0 (fun _ => emR))) (lz + 1)) (i + 1)))), (2, .ref qa), (0, .ref mo), (1, .int (nI lz))]; rw [← sb_s (show lz + 1 ≤ i by omega)]; exact lv_sub hl [0, 1, 2, 3, 4] rfl)
  · refine lv_aload_n hx hb dX3_mergeOne_26 rfl (lv_at hl 2 rfl) ?_
    refine lv_iload hx hb dX3_mergeOne_27 (lv_at hl 0 rfl) ?_
    refine h_aaldE (i := r) (hm.clvl (l := lz) (by omega)) hx hb hK0 hV0 rfl rfl (by omega) (by omega) dX3_mergeOne_29 ?_
    refine lv_astore (lv' := [(6, .ref (row lz r)), (5, .int (nI r)), (2, .ref qa), (3, .ref (lvl lz)), (4, .int (nI (bN V lz))), (0, .ref mo), (1, .int (nI lz))]) hx hb dX3_mergeOne_30 hl (by decide) rfl (fun ls hl => ?_)
    refine lv_aload hx hb dX3_mergeOne_32 (lv_at hl 0 rfl) ?_
    refine lv_astore (lv' := [(7, .ref (row lz r)), (6, .ref (row lz r)), (5, .int (nI r)), (2, .ref qa), (3, .ref (lvl lz)), (4, .int (nI (bN V lz))), (0, .ref mo), (1, .int (nI lz))]) hx hb dX3_mergeOne_34 hl (by decide) rfl (fun ls hl => ?_)
    refine lv_aload hx hb dX3_mergeOne_36 (lv_at hl 0 rfl) ?_
    refine h_alenQ (hm.crow (l := lz) (r := r) (by omega) (by omega)).1 hx hb hK0 hV0 rfl dX3_mergeOne_38 ?_
    refine lv_istore (lv' := [(8, .int (nI (szR (bG V lz r)))), (7, .ref (row lz r)), (6, .ref (row lz r)), (5, .int (nI r)), (2, .ref qa), (3, .ref (lvl lz)), (4, .int (nI (bN V lz))), (0, .ref mo), (1, .int (nI lz))]) hx hb dX3_mergeOne_39 hl (by decide) rfl (fun ls hl => ?_)
    refine lv_iconst (v := nI 0) hx hb dX3_mergeOne_41 (by decide) ?_
    refine lv_istore (lv' := [(9, .int (nI 0)), (8, .int (nI (szR (bG V lz r)))), (7, .ref (row lz r)), (6, .ref (row lz r)), (5, .int (nI r)), (2, .ref qa), (3, .ref (lvl lz)), (4, .int (nI (bN V lz))), (0, .ref mo), (1, .int (nI lz))]) hx hb dX3_mergeOne_42 hl (by decide) rfl (fun ls hl => ?_)
    have hrn : r < bN V lz := by omega
    have hok9 := hm.ok (l := lz) (r := r) (by omega) (by omega)
    have hz8 := szR_le (bG V lz r)
    replace hqa := ac_in hqa
    have hs8 : snA (fun r => szR (bG V lz r)) (r + 1) = snA (fun r => szR (bG V lz r)) r + szR (bG V lz r) := rfl
    have hs7 : snA (fun r => szR (bG V lz r)) (r + 1) ≤ snA (fun r => szR (bG V lz r)) (bN V lz) := snA_mono (by omega)
    refine W.widen (k := 1 + 2 * (snA (fun r => szR (bG V lz r)) r + 0)) (n := 65 * (1 + 2 * (snA (fun r => szR (bG V lz r)) r + 0))) (by omega) (by omega) ?_
    replace hl : lv_has ls 11 [(9, .int (nI 0)), (2, .ref qa), (7, .ref (row lz r)), (8, .int (nI (szR (bG V lz r)))), (6, .ref (row lz r)), (5, .int (nI r)), (3, .ref (lvl lz)), (4, .int (nI (bN V lz))), (0, .ref mo), (1, .int (nI lz))] := lv_sub hl [0, 5, 2, 1, 3, 4, 6, 7, 8, 9] rfl
    refine h_loopWO (G := G) (A := A) (H0 := s.heap) (Wf := fun k H locs ls => W p l e (headSpec wsX3_mergeOne { frames := 1, cells := (mgC V lz), slots := (65 * mgC V lz), locals := 28 }).room s m ([.ref mo, .int (nI lz)].toArray) below meth c H locs (1 + 2 * (snA (fun r => szR (bG V lz r)) r + k)) (65 * (1 + 2 * (snA (fun r => szR (bG V lz r)) r + k))) (MQ below (hW G A (fun ro hp' => ro = none ∧ (∃ lvl2 row2, sA mo dk lv lvl2 row2 rm tm dt d δ (mgB V lz) (mgT V ω lz) hp') ∧ exH hp hp')) ([.ref mo, .int (nI lz)].toArray) s (mgC V lz) (65 * mgC V lz) A) (F0 m 44 ls [])) (szR (bG V lz r)) (fun k qa => [(9, .int (nI k)), (2, .ref qa), (7, .ref (row lz r)), (8, .int (nI (szR (bG V lz r)))), (6, .ref (row lz r)), (5, .int (nI r)), (3, .ref (lvl lz)), (4, .int (nI (bN V lz))), (0, .ref mo), (1, .int (nI lz))]) (fun k qa hp' => rn hp' qa (acP (acF (bG V lz) r) (bG V lz r) k) (acW (bG V lz) (ω lz) (r + 1)) ∧ leH hp hp') (fun k hi44 qa hp' H locs hI44 hV0 hA0 hS ih44 ls hl => ?_) 0 (Nat.zero_le _) _ _ H locs ⟨hqa, hle⟩ hV0 hA0 hS ls hl
    obtain ⟨hqa, hle⟩ := hI44
    replace hm := hm0.mv hle
    refine lv_iload hx hb dX3_mergeOne_44 (lv_at hl 0 rfl) ?_
    refine lv_iload hx hb dX3_mergeOne_46 (lv_at hl 3 rfl) ?_
    refine h_icmp_ge (a := k) (b := szR (bG V lz r)) (tgt := 71) hx hb dX3_mergeOne_48 (by decide) (by omega) (by omega) (fun c_48 => ?_) (fun c_48 => ?_)
    · refine lv_iinc (v := nI (r + 1)) (lv' := [(5, .int (nI (r + 1))), (9, .int (nI k)), (2, .ref qa), (7, .ref (row lz r)), (8, .int (nI (szR (bG V lz r)))), (6, .ref (row lz r)), (3, .ref (lvl lz)), (4, .int (nI (bN V lz))), (0, .ref mo), (1, .int (nI lz))]) hx hb dX3_mergeOne_71 hl (k := 5) rfl (nI_add (r) 1) (by decide) rfl (fun ls hl => ?_)
      refine lv_goto (tgt := 19) hx hb dX3_mergeOne_74 (by decide) ?_
      replace hqa := ac_out hok9 (show k = szR (bG V lz r) by omega) hqa
      have hs9 : snA (fun r => szR (bG V lz r)) (r + 1) = snA (fun r => szR (bG V lz r)) r + szR (bG V lz r) := rfl
      refine W.widen (k := 1 + 2 * snA (fun r => szR (bG V lz r)) (r + 1)) (n := 65 * (1 + 2 * snA (fun r => szR (bG V lz r)) (r + 1))) (by omega) (by omega) ?_
      exact ih19 _ _ H locs (by omega) ⟨hqa, hle⟩ hV0 hA0 hS ls (lv_sub hl [0, 2, 6, 7, 8, 9] rfl)
    · refine lv_aload hx hb dX3_mergeOne_51 (lv_at hl 2 rfl) ?_
      refine lv_iload hx hb dX3_mergeOne_53 (lv_at hl 0 rfl) ?_
      refine h_aaldE (i := k) (hm.crow (l := lz) (r := r) (by omega) (by omega)).1 hx hb hK0 hV0 rfl rfl (by omega) (by omega) dX3_mergeOne_55 ?_
      refine lv_astore (lv' := [(10, .ref (((ω lz r) (nthR (bG V lz r) k)).2)), (9, .int (nI k)), (2, .ref qa), (7, .ref (row lz r)), (8, .int (nI (szR (bG V lz r)))), (6, .ref (row lz r)), (5, .int (nI r)), (3, .ref (lvl lz)), (4, .int (nI (bN V lz))), (0, .ref mo), (1, .int (nI lz))]) hx hb dX3_mergeOne_56 hl (by decide) rfl (fun ls hl => ?_)
      refine lv_aload_n hx hb dX3_mergeOne_58 rfl (lv_at hl 2 rfl) ?_
      refine lv_aload hx hb dX3_mergeOne_59 (lv_at hl 0 rfl) ?_
      refine h_wrSN (As := [.ref qa, .ref (((ω lz r) (nthR (bG V lz r) k)).2)]) (rest := []) hF (c_L_with l G A hp' qa (acP (acF (bG V lz) r) (bG V lz r) k) (acW (bG V lz) (ω lz) (r + 1)) hqa (((ω lz r) (nthR (bG V lz r) k)).2) (nthR (bG V lz r) k) (bG V lz r (nthR (bG V lz r) k)) ((ω lz r) (nthR (bG V lz r) k)).1 ((hm.crow (l := lz) (r := r) (by omega) (by omega)).at (k := k) (by omega)) (ne_has (nth_at (f := bG V lz r) (k := k) (by omega)).2.1) hA0) 2 gX3_mergeOne_L_with_n39 rfl hK0.2.2.2.2.2.1 hw4 hw5 (by decide +kernel) ⟨Nat.le_of_ble_eq_true rfl, Nat.le_of_ble_eq_true rfl⟩ hK0 hV0 hA hS rfl hl.1 rfl (Nat.le_of_ble_eq_true rfl) ⟨by show _ ≤ (mgC V lz); omega, by show _ ≤ (65 * mgC V lz); omega⟩ dX3_mergeOne_61 (fun ro hp1 H locs hP1 hV0 hA0 hS => ?_)
      obtain ⟨q9, rfl, hq9, hle9⟩ := hP1
      replace hqa := ac_step hord (by omega) hok9 (by omega) hq9
      replace hm := hm.mv hle9
      replace hle := hle.tr hle9
      have hn := hm.le
      refine W.widen (k := 1 + 2 * (snA (fun r => szR (bG V lz r)) r + (k + 1))) (n := 65 * (1 + 2 * (snA (fun r => szR (bG V lz r)) r + (k + 1)))) (by omega) (by omega) ?_
      refine lv_astore_n (lv' := [(2, .ref q9), (10, .ref (((ω lz r) (nthR (bG V lz r) k)).2)), (9, .int (nI k)), (7, .ref (row lz r)), (8, .int (nI (szR (bG V lz r)))), (6, .ref (row lz r)), (5, .int (nI r)), (3, .ref (lvl lz)), (4, .int (nI (bN V lz))), (0, .ref mo), (1, .int (nI lz))]) hx hb dX3_mergeOne_64 rfl hl (by decide) rfl (fun ls hl => ?_)
      refine lv_iinc (v := nI (k + 1)) (lv' := [(9, .int (nI (k + 1))), (2, .ref q9), (10, .ref (((ω lz r) (nthR (bG V lz r) k)).2)), (7, .ref (row lz r)), (8, .int (nI (szR (bG V lz r)))), (6, .ref (row lz r)), (5, .int (nI r)), (3, .ref (lvl lz)), (4, .int (nI (bN V lz))), (0, .ref mo), (1, .int (nI lz))]) hx hb dX3_mergeOne_65 hl (k := 2) rfl (nI_add (k) 1) (by decide) rfl (fun ls hl => ?_)
      refine lv_goto (tgt := 44) hx hb dX3_mergeOne_68 (by decide) ?_
      exact ih44 _ _ H locs (by omega) ⟨hqa, hle⟩ hV0 hA0 hS ls (lv_sub hl [0, 1, 3, 4, 5, 6, 7, 8, 9, 10] rfl)
