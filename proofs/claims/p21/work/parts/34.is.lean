/-! Sim: isSame -/
theorem c_X3_all2 (l : Launch) (G : hG) (hp : HP) (S : CS) (mo dk lv : Nat) (lvl : Nat → Nat) (row : Nat → Nat → Nat) (tm : Nat) (δ : TG) (ω : TS) (hm : sA mo dk lv lvl row (sR S) tm (sD S) (sF S 0) δ (vw S 0) ω hp) : hRd l yX3_all wsX3_all 1 36 G hp [.ref mo] (some (.int (nI (allD (sF S 0) (sN S 0) (gC S 0))))) := c_X3_all l G hp mo dk lv lvl row (sR S) tm (sD S) (sF S 0) δ (vw S 0) ω hm
set_option maxHeartbeats 1000000 in
set_option maxRecDepth 100000 in
theorem c_X3_isSame (l : Launch) (G : hG) (A : Nat → Prop) (hp : HP) (ad : Nat → Nat) (S : CS) (hC : cW ad S hp) (mo dk lv : Nat) (lvl : Nat → Nat) (row : Nat → Nat → Nat) (tm : Nat) (δ : TG) (ω : TS) (hm : sA mo dk lv lvl row (sR S) tm (sD S) (sF S 0) δ (vw S 0) ω hp) (hoT : oT (vw S 0) ω) (hoD : oD (sF S 0) δ (vw S 0) ω) (hokd : okR (sF S 0)) (hA0 : hIn A hp) : hWr l yX3_isSame wsX3_isSame 7 156 17 1105 G A hp [.ref mo, .ref (aX ad)] (fun ro hp' => ro = some (.int (bI true))) := by
  refine Met.ofW (cc := cX3_isSame) (maxL := 12) (ret := (some .boolean)) (by decide) rfl ?_
  intro p e s m args below meth c s₁ B hml hv
  obtain ⟨rfl, hV0, hK0, hA⟩ := hv
  have hx := B.exec
  have hb := B.bytes
  have hr := B.returns
  have hts := atoms_spec (ws := wsX3_isSame) B.pre
  have hown : s.vm.findClass RX3 = some m.cls := findClass_of_methodNamed B.named
  have hlocks := B.notSynchronized
  have hF : CallFix p m c cX3_isSame 12 s [.ref mo, .ref (aX ad)].toArray wsX3_isSame RX3 := ⟨hx, hb, hml, hown, hts⟩
  have hw0 := hts (.fieldLink RX3 15 "SlipLevelsLaw$Sim" "desk" "[[I") (by decide +kernel)
  have hw1 := hts (.arrayClass .int) (by decide +kernel)
  have hw2 := hts (.fieldLink RX3 7 "SlipLevelsLaw$Sim" "room" "I") (by decide +kernel)
  have hw3 := hts (.fieldLink RX3 30 "SlipLevelsLaw$Sim" "moves" "I") (by decide +kernel)
  have hw4 := hts (.fieldLink RX3 33 "SlipLevelsLaw$Sim" "detours" "I") (by decide +kernel)
  have hw5 := hts (.fieldLink RX3 36 "SlipLevelsLaw$Sim" "merges" "I") (by decide +kernel)
  have hw6 := hts (.constantDouble RX3 103 (4634204016564240384)) (by decide +kernel)
  have hw7 := hts (.fieldLink RX3 22 "SlipLevelsLaw$Sim" "levels" "[[[[I") (by decide +kernel)
  have hw8 := hts (.initialized RL) (by decide +kernel)
  have hw9 := hts (.static yL_told) (by decide +kernel)
  have hi3 : ∀ w ∈ u_ws RX3 TX3 7, w ∈ wsX3_isSame := by
    intro w h
    unfold wsX3_isSame
    simp only [List.mem_cons, List.mem_append, h, true_or, or_true]
  have hS : va_S A s.heap s.heap [] := va_S.rf
  have hl := lv_entry ([.ref mo, .ref (aX ad)]) (n := 12) (Nat.le_of_ble_eq_true rfl)
  rw [lg_entry_eq]
  generalize (lg_sl ([.ref mo, .ref (aX ad)]) ++ List.replicate (12 - (lg_sl ([.ref mo, .ref (aX ad)])).length) Slot.unset).toArray = ls at hl ⊢
  replace hl : lv_has ls 12 [(0, .ref mo), (1, .ref (aX ad))] := hl
  have hn := hm.le
  have hm0 := hm
  have hC0 := hC
  have hz9 := szR_le (sF S 0)
  have hle7 : (allD (sF S 0) (sN S 0) (gC S 0)) ≤ 768 := allD_le (d := sF S 0) (g := gC S 0) (hC.ok.2.1 0)
  have hnan := (mnV_ok ⟨(allD (sF S 0) (sN S 0) (gC S 0)), by omega⟩).1
  refine lv_iconst (v := nI 0) hx hb dX3_isSame_0 (by decide) ?_
  refine lv_istore_n (lv' := [(2, .int (nI 0)), (0, .ref mo), (1, .ref (aX ad))]) hx hb dX3_isSame_1 rfl hl (by decide) rfl (fun ls hl => ?_)
  replace hl : lv_has ls 12 [(2, .int (nI 0)), (0, .ref mo), (1, .ref (aX ad))] := lv_sub hl [0, 1, 2] rfl
  revert ls
  refine h_loop (szR (sF S 0)) (fun k => [(2, .int (nI k)), (0, .ref mo), (1, .ref (aX ad))]) (fun _ => True) (fun k hi2 hI2 ih2 ls hl => ?_) 0 (Nat.zero_le _) trivial
  refine lv_iload_n hx hb dX3_isSame_2 rfl (lv_at hl 0 rfl) ?_
  refine lv_aload_n hx hb dX3_isSame_3 rfl (lv_at hl 1 rfl) ?_
  refine h_get (v := .ref dk) hx hb hts hi3 hown hK0 hV0 hm.cmo rfl 5 (by decide) hw0 rfl dX3_isSame_4 ?_
  refine h_alenQ hm.cdk.1 hx hb hK0 hV0 rfl dX3_isSame_7 ?_
  refine h_icmp_ge (a := k) (b := szR (sF S 0)) (tgt := 36) hx hb dX3_isSame_8 (by decide) (by omega) (by omega) (fun c_8 => ?_) (fun c_8 => ?_)
  · refine lv_iconst (v := nI 0) hx hb dX3_isSame_36 (by decide) ?_
    refine lv_istore_n (lv' := [(2, .int (nI 0)), (0, .ref mo), (1, .ref (aX ad))]) hx hb dX3_isSame_37 rfl hl (by decide) rfl (fun ls hl => ?_)
    replace hl : lv_has ls 12 [(2, .int (nI 0)), (0, .ref mo), (1, .ref (aX ad))] := lv_sub hl [0, 1, 2] rfl
    refine h_loopW (G := G) (A := A) (H0 := s.heap) (Wf := fun lz H locs ls => W p l e (headSpec wsX3_isSame { frames := 7, cells := 17, slots := 1105, locals := 156 }).room s m ([.ref mo, .ref (aX ad)].toArray) below meth c H locs (4 * lz) (65 * (4 * lz)) (MQ below (hW G A (fun ro hp' => ro = some (.int (bI true)))) ([.ref mo, .ref (aX ad)].toArray) s 17 1105 A) (F0 m 38 ls [])) 4 (fun lz => [(2, .int (nI lz)), (0, .ref mo), (1, .ref (aX ad))]) (fun _ hp' => leH hp hp') (fun lz hi38 hp' H locs hle hV0 hA0 hS ih38 ls hl => ?_) 0 (Nat.zero_le _) hp s.heap [] leH.rf hV0 hA0 hS ls hl
    have hm := hm0.mv hle
    have hC := hC0.mvL hle
    have hn := hm.le
    refine lv_iload_n hx hb dX3_isSame_38 rfl (lv_at hl 0 rfl) ?_
    refine lv_iconst (v := nI 4) hx hb dX3_isSame_39 (by decide) ?_
    refine h_icmp_ge (a := lz) (b := 4) (tgt := 357) hx hb dX3_isSame_40 (by decide) (by omega) (by omega) (fun c_40 => ?_) (fun c_40 => ?_)
    · refine lv_iconst (v := nI 0) hx hb dX3_isSame_357 (by decide) ?_
      refine lv_istore_n (lv' := [(2, .int (nI 0)), (0, .ref mo), (1, .ref (aX ad))]) hx hb dX3_isSame_358 rfl hl (by decide) rfl (fun ls hl => ?_)
      refine lv_iconst (v := nI 0) hx hb dX3_isSame_359 (by decide) ?_
      refine lv_istore_n (lv' := [(3, .int (nI 0)), (2, .int (nI 0)), (0, .ref mo), (1, .ref (aX ad))]) hx hb dX3_isSame_360 rfl hl (by decide) rfl (fun ls hl => ?_)
      replace hl : lv_has ls 12 [(3, .int (nI 0)), (2, .int (nI (cntB (fun x => decide (0 ≤ wdS (sF S 0) (sN S 0) (gC S 0) x)) 0))), (0, .ref mo), (1, .ref (aX ad))] := lv_sub hl [0, 1, 2, 3] rfl
      revert ls
      refine h_loop 64 (fun n => [(3, .int (nI n)), (2, .int (nI (cntB (fun x => decide (0 ≤ wdS (sF S 0) (sN S 0) (gC S 0) x)) n))), (0, .ref mo), (1, .ref (aX ad))]) (fun _ => True) (fun n hi361 hI361 ih361 ls hl => ?_) 0 (Nat.zero_le _) trivial
      refine lv_iload_n hx hb dX3_isSame_361 rfl (lv_at hl 0 rfl) ?_
      refine lv_bipush (v := nI 64) hx hb dX3_isSame_362 (by decide) ?_
      refine h_icmp_ge (a := n) (b := 64) (tgt := 389) hx hb dX3_isSame_364 (by decide) (by omega) (by omega) (fun c_364 => ?_) (fun c_364 => ?_)
      · obtain rfl : n = 64 := by omega
        replace hl : lv_has ls 12 [(2, .int (nI (wnS (sF S 0) (sN S 0) (gC S 0)))), (0, .ref mo), (1, .ref (aX ad))] := lv_sub hl [1, 2, 3] rfl
        have hwn : wnS (sF S 0) (sN S 0) (gC S 0) ≤ 64 := cntB_le _ 64
        refine lv_bipush (v := nI 7) hx hb dX3_isSame_389 (by decide) ?_
        refine h_newI hx hb hw1 hK0 hV0 hA0 hS hA (n := 7) (by omega) (by show _ ≤ 17; omega) (by show _ ≤ 1105; omega) dX3_isSame_391 (fun q7 H hqq7 hV0 hA0 hS => ?_)
        have hleq7 : leH hp (hput hp' q7 (eI 7 (fun _ => 0))) := hle.tr (leH.rf.new hqq7)
        have hm := hm0.mv hleq7
        have hC := hC0.mvL hleq7
        have hn := hm.le
        refine lv_dup hx hb dX3_isSame_393 rfl ?_
        refine lv_iconst (v := nI 0) hx hb dX3_isSame_394 (by decide) ?_
        refine lv_aload_n hx hb dX3_isSame_395 rfl (lv_at hl 1 rfl) ?_
        refine h_get (v := .ref dk) hx hb hts hi3 hown hK0 hV0 hm.cmo rfl 5 (by decide) hw0 rfl dX3_isSame_396 ?_
        refine h_alenQ hm.cdk.1 hx hb hK0 hV0 rfl dX3_isSame_399 ?_
        refine h_iast (i := 0) (x := nI (szR (sF S 0))) hx hb hK0 hV0 hA0 hS (hput_s _ _ _) (by omega) (by omega) dX3_isSame_400 (fun H locs hV0 hA0 hS => ?_)
        rw [hput_hput] at hV0 hA0
        have hleq7 : leH hp (hput hp' q7 (eI 7 (upd (fun _ => 0) 0 (nI (szR (sF S 0)))))) := hle.tr (leH.rf.new hqq7)
        have hm := hm0.mv hleq7
        have hC := hC0.mvL hleq7
        have hn := hm.le
        refine lv_dup hx hb dX3_isSame_401 rfl ?_
        refine lv_iconst (v := nI 1) hx hb dX3_isSame_402 (by decide) ?_
        refine lv_aload_n hx hb dX3_isSame_403 rfl (lv_at hl 1 rfl) ?_
        refine h_get (v := .int (sR S)) hx hb hts hi3 hown hK0 hV0 hm.cmo rfl 0 (by decide) hw2 rfl dX3_isSame_404 ?_
        refine h_iast (i := 1) (x := (sR S)) hx hb hK0 hV0 hA0 hS (hput_s _ _ _) (by omega) (by omega) dX3_isSame_407 (fun H locs hV0 hA0 hS => ?_)
        rw [hput_hput] at hV0 hA0
        have hleq7 : leH hp (hput hp' q7 (eI 7 (upd (upd (fun _ => 0) 0 (nI (szR (sF S 0)))) 1 ((sR S))))) := hle.tr (leH.rf.new hqq7)
        have hm := hm0.mv hleq7
        have hC := hC0.mvL hleq7
        have hn := hm.le
        refine lv_dup hx hb dX3_isSame_408 rfl ?_
        refine lv_iconst (v := nI 2) hx hb dX3_isSame_409 (by decide) ?_
        refine lv_aload_n hx hb dX3_isSame_410 rfl (lv_at hl 1 rfl) ?_
        refine h_rdV (As := []) (rest := [.int (nI 2), .ref q7, .ref q7]) hF (c_X3_slips l G (hput hp' q7 (eI 7 (upd (upd (fun _ => 0) 0 (nI (szR (sF S 0)))) 1 ((sR S))))) mo dk lv lvl row (sR S) tm (sD S) (sF S 0) δ (vw S 0) ω hm) 0 gX3_isSame_X3_slips rfl (by decide +kernel) ⟨Nat.le_of_ble_eq_true rfl, Nat.le_of_ble_eq_true rfl⟩ hK0 hV0 hm.cmo rfl rfl rfl hl.1 rfl (Nat.le_of_ble_eq_true rfl) (by show _ ≤ 17; omega) (by show _ ≤ 1105; omega) dX3_isSame_411 ?_
        refine h_iast (i := 2) (x := nI (snA (fun l => qL (vw S 0) l) 4)) hx hb hK0 hV0 hA0 hS (hput_s _ _ _) (by omega) (by omega) dX3_isSame_414 (fun H locs hV0 hA0 hS => ?_)
        rw [hput_hput] at hV0 hA0
        have hleq7 : leH hp (hput hp' q7 (eI 7 (upd (upd (upd (fun _ => 0) 0 (nI (szR (sF S 0)))) 1 ((sR S))) 2 (nI (snA (fun l => qL (vw S 0) l) 4))))) := hle.tr (leH.rf.new hqq7)
        have hm := hm0.mv hleq7
        have hC := hC0.mvL hleq7
        have hn := hm.le
        refine lv_dup hx hb dX3_isSame_415 rfl ?_
        refine lv_iconst (v := nI 3) hx hb dX3_isSame_416 (by decide) ?_
        refine lv_iload_n hx hb dX3_isSame_417 rfl (lv_at hl 0 rfl) ?_
        refine h_iast (i := 3) (x := nI (wnS (sF S 0) (sN S 0) (gC S 0))) hx hb hK0 hV0 hA0 hS (hput_s _ _ _) (by omega) (by omega) dX3_isSame_418 (fun H locs hV0 hA0 hS => ?_)
        rw [hput_hput] at hV0 hA0
        have hleq7 : leH hp (hput hp' q7 (eI 7 (upd (upd (upd (upd (fun _ => 0) 0 (nI (szR (sF S 0)))) 1 ((sR S))) 2 (nI (snA (fun l => qL (vw S 0) l) 4))) 3 (nI (wnS (sF S 0) (sN S 0) (gC S 0)))))) := hle.tr (leH.rf.new hqq7)
        have hm := hm0.mv hleq7
        have hC := hC0.mvL hleq7
        have hn := hm.le
        refine lv_dup hx hb dX3_isSame_419 rfl ?_
        refine lv_iconst (v := nI 4) hx hb dX3_isSame_420 (by decide) ?_
        refine lv_aload_n hx hb dX3_isSame_421 rfl (lv_at hl 1 rfl) ?_
        refine h_get (v := .int (bM (vw S 0))) hx hb hts hi3 hown hK0 hV0 hm.cmo rfl 2 (by decide) hw3 rfl dX3_isSame_422 ?_
        refine h_iast (i := 4) (x := (bM (vw S 0))) hx hb hK0 hV0 hA0 hS (hput_s _ _ _) (by omega) (by omega) dX3_isSame_425 (fun H locs hV0 hA0 hS => ?_)
        rw [hput_hput] at hV0 hA0
        have hleq7 : leH hp (hput hp' q7 (eI 7 (upd (upd (upd (upd (upd (fun _ => 0) 0 (nI (szR (sF S 0)))) 1 ((sR S))) 2 (nI (snA (fun l => qL (vw S 0) l) 4))) 3 (nI (wnS (sF S 0) (sN S 0) (gC S 0)))) 4 ((bM (vw S 0)))))) := hle.tr (leH.rf.new hqq7)
        have hm := hm0.mv hleq7
        have hC := hC0.mvL hleq7
        have hn := hm.le
        refine lv_dup hx hb dX3_isSame_426 rfl ?_
        refine lv_iconst (v := nI 5) hx hb dX3_isSame_427 (by decide) ?_
        refine lv_aload_n hx hb dX3_isSame_428 rfl (lv_at hl 1 rfl) ?_
        refine h_get (v := .int (sD S)) hx hb hts hi3 hown hK0 hV0 hm.cmo rfl 3 (by decide) hw4 rfl dX3_isSame_429 ?_
        refine h_iast (i := 5) (x := (sD S)) hx hb hK0 hV0 hA0 hS (hput_s _ _ _) (by omega) (by omega) dX3_isSame_432 (fun H locs hV0 hA0 hS => ?_)
        rw [hput_hput] at hV0 hA0
        have hleq7 : leH hp (hput hp' q7 (eI 7 (upd (upd (upd (upd (upd (upd (fun _ => 0) 0 (nI (szR (sF S 0)))) 1 ((sR S))) 2 (nI (snA (fun l => qL (vw S 0) l) 4))) 3 (nI (wnS (sF S 0) (sN S 0) (gC S 0)))) 4 ((bM (vw S 0)))) 5 ((sD S))))) := hle.tr (leH.rf.new hqq7)
        have hm := hm0.mv hleq7
        have hC := hC0.mvL hleq7
        have hn := hm.le
        refine lv_dup hx hb dX3_isSame_433 rfl ?_
        refine lv_bipush (v := nI 6) hx hb dX3_isSame_434 (by decide) ?_
        refine lv_aload_n hx hb dX3_isSame_436 rfl (lv_at hl 1 rfl) ?_
        refine h_get (v := .int (bK (vw S 0))) hx hb hts hi3 hown hK0 hV0 hm.cmo rfl 4 (by decide) hw5 rfl dX3_isSame_437 ?_
        refine h_iast (i := 6) (x := (bK (vw S 0))) hx hb hK0 hV0 hA0 hS (hput_s _ _ _) (by omega) (by omega) dX3_isSame_440 (fun H locs hV0 hA0 hS => ?_)
        rw [hput_hput] at hV0 hA0
        have hleq7 : leH hp (hput hp' q7 (eI 7 (upd (upd (upd (upd (upd (upd (upd (fun _ => 0) 0 (nI (szR (sF S 0)))) 1 ((sR S))) 2 (nI (snA (fun l => qL (vw S 0) l) 4))) 3 (nI (wnS (sF S 0) (sN S 0) (gC S 0)))) 4 ((bM (vw S 0)))) 5 ((sD S))) 6 ((bK (vw S 0)))))) := hle.tr (leH.rf.new hqq7)
        have hm := hm0.mv hleq7
        have hC := hC0.mvL hleq7
        have hn := hm.le
        have q7e : (hput hp' q7 (eI 7 (upd (upd (upd (upd (upd (upd (upd (fun _ => 0) 0 (nI (szR (sF S 0)))) 1 ((sR S))) 2 (nI (snA (fun l => qL (vw S 0) l) 4))) 3 (nI (wnS (sF S 0) (sN S 0) (gC S 0)))) 4 ((bM (vw S 0)))) 5 ((sD S))) 6 ((bK (vw S 0)))))) q7 = some (eI 7 (upd (upd (upd (upd (upd (upd (upd (fun _ => 0) 0 (nI (szR (sF S 0)))) 1 ((sR S))) 2 (nI (snA (fun l => qL (vw S 0) l) 4))) 3 (nI (wnS (sF S 0) (sN S 0) (gC S 0)))) 4 ((bM (vw S 0)))) 5 ((sD S))) 6 ((bK (vw S 0))))) := hput_s _ _ _
        replace hV0 : hV G (hput hp' q7 (eI 7 (upd (upd (upd (upd (upd (upd (upd (fun _ => 0) 0 (nI (szR (sF S 0)))) 1 ((sR S))) 2 (nI (snA (fun l => qL (vw S 0) l) 4))) 3 (nI (wnS (sF S 0) (sN S 0) (gC S 0)))) 4 ((bM (vw S 0)))) 5 ((sD S))) 6 ((bK (vw S 0)))))) H := hV0
        replace hA0 : hIn A (hput hp' q7 (eI 7 (upd (upd (upd (upd (upd (upd (upd (fun _ => 0) 0 (nI (szR (sF S 0)))) 1 ((sR S))) 2 (nI (snA (fun l => qL (vw S 0) l) 4))) 3 (nI (wnS (sF S 0) (sN S 0) (gC S 0)))) 4 ((bM (vw S 0)))) 5 ((sD S))) 6 ((bK (vw S 0)))))) := hA0
        generalize hput hp' q7 (eI 7 (upd (upd (upd (upd (upd (upd (upd (fun _ => 0) 0 (nI (szR (sF S 0)))) 1 ((sR S))) 2 (nI (snA (fun l => qL (vw S 0) l) 4))) 3 (nI (wnS (sF S 0) (sN S 0) (gC S 0)))) 4 ((bM (vw S 0)))) 5 ((sD S))) 6 ((bK (vw S 0))))) = hp7 at hV0 hA0 hm hC hleq7 q7e
        replace hle := hleq7
        generalize hF7 : (upd (upd (upd (upd (upd (upd (upd (fun _ => 0) 0 (nI (szR (sF S 0)))) 1 ((sR S))) 2 (nI (snA (fun l => qL (vw S 0) l) 4))) 3 (nI (wnS (sF S 0) (sN S 0) (gC S 0)))) 4 ((bM (vw S 0)))) 5 ((sD S))) 6 ((bK (vw S 0)))) = F7 at q7e
        refine lv_astore_n (lv' := [(3, .ref q7), (2, .int (nI (wnS (sF S 0) (sN S 0) (gC S 0)))), (0, .ref mo), (1, .ref (aX ad))]) hx hb dX3_isSame_441 rfl hl (by decide) rfl (fun ls hl => ?_)
        refine lv_iconst (v := nI 0) hx hb dX3_isSame_442 (by decide) ?_
        refine lv_istore (lv' := [(4, .int (nI 0)), (3, .ref q7), (2, .int (nI (wnS (sF S 0) (sN S 0) (gC S 0)))), (0, .ref mo), (1, .ref (aX ad))]) hx hb dX3_isSame_443 hl (by decide) rfl (fun ls hl => ?_)
        have hct : ∀ wh, wh < 7 → tlS (sF S 0) (sN S 0) (gC S 0) (sR S) (sV S 0) (sD S) (sG S 0) wh = F7 wh := by
          intro wh hwh
          rw [← hF7]
          rcases (show wh = 0 ∨ wh = 1 ∨ wh = 2 ∨ wh = 3 ∨ wh = 4 ∨ wh = 5 ∨ wh = 6 by omega) with q | q | q | q | q | q | q <;> subst q <;> rfl
        replace hl : lv_has ls 12 [(4, .int (nI 0)), (3, .ref q7), (0, .ref mo), (1, .ref (aX ad))] := lv_sub hl [0, 1, 3, 4] rfl
        revert ls
        refine h_loop 7 (fun wh => [(4, .int (nI wh)), (3, .ref q7), (0, .ref mo), (1, .ref (aX ad))]) (fun _ => True) (fun wh hi445 hI445 ih445 ls hl => ?_) 0 (Nat.zero_le _) trivial
        refine lv_iload hx hb dX3_isSame_445 (lv_at hl 0 rfl) ?_
        refine lv_bipush (v := nI 7) hx hb dX3_isSame_447 (by decide) ?_
        refine h_icmp_ge (a := wh) (b := 7) (tgt := 473) hx hb dX3_isSame_449 (by decide) (by omega) (by omega) (fun c_449 => ?_) (fun c_449 => ?_)
        · refine lv_aload_n hx hb dX3_isSame_473 rfl (lv_at hl 3 rfl) ?_
          refine h_rdV (As := []) (rest := []) hF (c_X2_mean l G hp7 ad S hC) 0 gX3_isSame_X2_mean rfl (by decide +kernel) ⟨Nat.le_of_ble_eq_true rfl, Nat.le_of_ble_eq_true rfl⟩ hK0 hV0 hC.xo rfl rfl rfl hl.1 rfl (Nat.le_of_ble_eq_true rfl) (by show _ ≤ 17; omega) (by show _ ≤ 1105; omega) dX3_isSame_474 ?_
          refine lv_aload_n hx hb dX3_isSame_477 rfl (lv_at hl 2 rfl) ?_
          refine h_rdV (As := []) (rest := [.double (mnV (allD (sF S 0) (sN S 0) (gC S 0)))]) hF (c_X3_all2 l G hp7 S mo dk lv lvl row tm δ ω hm) 0 gX3_isSame_X3_all rfl (by decide +kernel) ⟨Nat.le_of_ble_eq_true rfl, Nat.le_of_ble_eq_true rfl⟩ hK0 hV0 hm.cmo rfl rfl rfl hl.1 rfl (Nat.le_of_ble_eq_true rfl) (by show _ ≤ 17; omega) (by show _ ≤ 1105; omega) dX3_isSame_478 ?_
          refine lv_i2d hx hb dX3_isSame_481 ?_
          refine lv_ldc2d hx hb hown hw6 dX3_isSame_482 ?_
          refine lv_ddiv hx hb dX3_isSame_485 hnan ?_
          have hmn : FP.ddiv (FP.i2d (nI (allD (sF S 0) (sN S 0) (gC S 0)))) 4634204016564240384 = mnV (allD (sF S 0) (sN S 0) (gC S 0)) := rfl
          rw [hmn]
          refine lv_dcmp hx hb dX3_isSame_486 ?_
          rw [mn_c _ hle7]
          refine lv_if_ne (tgt := 494) hx hb dX3_isSame_487 (by decide) (fun c_487 => absurd rfl c_487) (fun c_487 => ?_)
          refine lv_iconst (v := nI 1) hx hb dX3_isSame_490 (by decide) ?_
          refine lv_goto (tgt := 495) hx hb dX3_isSame_491 (by decide) ?_
          refine W.widen (k := 17) (n := 1105) (by omega) (by omega) ?_
          exact W.zret hx hb hr (by first | exact narrow_bI _ | rfl) (h_qW rfl hV0 hA0 hS) hS.2.2 dX3_isSame_495 hlocks
        · refine lv_aload_n hx hb dX3_isSame_452 rfl (lv_at hl 3 rfl) ?_
          refine lv_iload hx hb dX3_isSame_453 (lv_at hl 0 rfl) ?_
          refine h_rdV (As := [.int (nI wh)]) (rest := []) hF (c_X2_count l G hp7 ad S hC wh (by omega)) 1 gX3_isSame_X2_count rfl (by decide +kernel) ⟨Nat.le_of_ble_eq_true rfl, Nat.le_of_ble_eq_true rfl⟩ hK0 hV0 hC.xo rfl rfl rfl hl.1 rfl (Nat.le_of_ble_eq_true rfl) (by show _ ≤ 17; omega) (by show _ ≤ 1105; omega) dX3_isSame_455 ?_
          refine lv_aload_n hx hb dX3_isSame_458 rfl (lv_at hl 1 rfl) ?_
          refine lv_iload hx hb dX3_isSame_459 (lv_at hl 0 rfl) ?_
          refine h_iald (i := wh) hx hb hK0 hV0 q7e (by omega) (by omega) dX3_isSame_461 ?_
          refine lv_icmp_eq (tgt := 467) hx hb dX3_isSame_462 (by decide) (fun c_462 => ?_) (fun c_462 => absurd (hct _ (by omega)) c_462)
          refine lv_iinc (v := nI (wh + 1)) (lv' := [(4, .int (nI (wh + 1))), (3, .ref q7), (0, .ref mo), (1, .ref (aX ad))]) hx hb dX3_isSame_467 hl (k := 0) rfl (nI_add (wh) 1) (by decide) rfl (fun ls hl => ?_)
          refine lv_goto (tgt := 445) hx hb dX3_isSame_470 (by decide) ?_
          exact ih445 (by omega) trivial ls (lv_sub hl [0, 1, 2, 3] rfl)
      · refine lv_iload_n hx hb dX3_isSame_367 rfl (lv_at hl 1 rfl) ?_
        refine lv_aload_n hx hb dX3_isSame_368 rfl (lv_at hl 2 rfl) ?_
        refine lv_iload_n hx hb dX3_isSame_369 rfl (lv_at hl 0 rfl) ?_
        refine h_rdV (As := [.int (nI n)]) (rest := [.int (nI (cntB (fun x => decide (0 ≤ wdS (sF S 0) (sN S 0) (gC S 0) x)) n))]) hF (c_X3_word l G hp' mo dk lv lvl row (sR S) tm (sD S) (sF S 0) δ (vw S 0) ω hm hoT hoD hokd n (by omega)) 1 gX3_isSame_X3_word rfl (by decide +kernel) ⟨Nat.le_of_ble_eq_true rfl, Nat.le_of_ble_eq_true rfl⟩ hK0 hV0 hm.cmo rfl rfl rfl hl.1 rfl (Nat.le_of_ble_eq_true rfl) (by show _ ≤ 17; omega) (by show _ ≤ 1105; omega) dX3_isSame_370 ?_
        refine lv_if_lt (tgt := 380) hx hb dX3_isSame_373 (by decide) (fun c_373 => ?_) (fun c_373 => ?_)
        · refine lv_iconst (v := nI 0) hx hb dX3_isSame_380 (by decide) ?_
          refine h_iaddN hx hb dX3_isSame_381 ?_
          refine lv_istore_n (lv' := [(2, .int (nI (cntB (fun x => decide (0 ≤ wdS (sF S 0) (sN S 0) (gC S 0) x)) n + 0))), (3, .int (nI n)), (0, .ref mo), (1, .ref (aX ad))]) hx hb dX3_isSame_382 rfl hl (by decide) rfl (fun ls hl => ?_)
          refine lv_iinc (v := nI (n + 1)) (lv' := [(3, .int (nI (n + 1))), (2, .int (nI (cntB (fun x => decide (0 ≤ wdS (sF S 0) (sN S 0) (gC S 0) x)) n + 0))), (0, .ref mo), (1, .ref (aX ad))]) hx hb dX3_isSame_383 hl (k := 1) rfl (nI_add (n) 1) (by decide) rfl (fun ls hl => ?_)
          refine lv_goto (tgt := 361) hx hb dX3_isSame_386 (by decide) ?_
          exact ih361 (by omega) trivial ls (by show lv_has ls 12 [(3, .int (nI (n + 1))), (2, .int (nI (cntB (fun x => decide (0 ≤ wdS (sF S 0) (sN S 0) (gC S 0) x)) (n + 1)))), (0, .ref mo), (1, .ref (aX ad))]; rw [cntB_n (p := (fun x => decide (0 ≤ wdS (sF S 0) (sN S 0) (gC S 0) x))) (decide_eq_false (Int32.not_le.mpr c_373))]; exact lv_sub hl [0, 1, 2, 3] rfl)
        · refine lv_iconst (v := nI 1) hx hb dX3_isSame_376 (by decide) ?_
          refine lv_goto (tgt := 381) hx hb dX3_isSame_377 (by decide) ?_
          refine h_iaddN hx hb dX3_isSame_381 ?_
          refine lv_istore_n (lv' := [(2, .int (nI (cntB (fun x => decide (0 ≤ wdS (sF S 0) (sN S 0) (gC S 0) x)) n + 1))), (3, .int (nI n)), (0, .ref mo), (1, .ref (aX ad))]) hx hb dX3_isSame_382 rfl hl (by decide) rfl (fun ls hl => ?_)
          refine lv_iinc (v := nI (n + 1)) (lv' := [(3, .int (nI (n + 1))), (2, .int (nI (cntB (fun x => decide (0 ≤ wdS (sF S 0) (sN S 0) (gC S 0) x)) n + 1))), (0, .ref mo), (1, .ref (aX ad))]) hx hb dX3_isSame_383 hl (k := 1) rfl (nI_add (n) 1) (by decide) rfl (fun ls hl => ?_)
          refine lv_goto (tgt := 361) hx hb dX3_isSame_386 (by decide) ?_
          exact ih361 (by omega) trivial ls (by show lv_has ls 12 [(3, .int (nI (n + 1))), (2, .int (nI (cntB (fun x => decide (0 ≤ wdS (sF S 0) (sN S 0) (gC S 0) x)) (n + 1)))), (0, .ref mo), (1, .ref (aX ad))]; rw [cntB_y (p := (fun x => decide (0 ≤ wdS (sF S 0) (sN S 0) (gC S 0) x))) (decide_eq_true (Int32.not_lt.mp c_373))]; exact lv_sub hl [0, 1, 2, 3] rfl)
    · refine lv_iconst (v := nI 0) hx hb dX3_isSame_43 (by decide) ?_
      refine lv_istore_n (lv' := [(3, .int (nI 0)), (2, .int (nI lz)), (0, .ref mo), (1, .ref (aX ad))]) hx hb dX3_isSame_44 rfl hl (by decide) rfl (fun ls hl => ?_)
      refine lv_iconst (v := nI 0) hx hb dX3_isSame_45 (by decide) ?_
      refine lv_istore (lv' := [(4, .int (nI 0)), (3, .int (nI 0)), (2, .int (nI lz)), (0, .ref mo), (1, .ref (aX ad))]) hx hb dX3_isSame_46 hl (by decide) rfl (fun ls hl => ?_)
      refine lv_iconst (v := nI 0) hx hb dX3_isSame_48 (by decide) ?_
      refine lv_istore (lv' := [(5, .int (nI 0)), (4, .int (nI 0)), (3, .int (nI 0)), (2, .int (nI lz)), (0, .ref mo), (1, .ref (aX ad))]) hx hb dX3_isSame_49 hl (by decide) rfl (fun ls hl => ?_)
      have hnl := hn lz
      have hNl : bN (vw S 0) lz = sN S 0 lz := rfl
      refine W.widen (k := 4 * lz + 0) (n := 65 * (4 * lz + 0)) (by omega) (by omega) ?_
      replace hl : lv_has ls 12 [(5, .int (nI 0)), (3, .int (nI (snA (fun r => szR (bG (vw S 0) lz r)) 0))), (4, .int (nI (snA (fun r => tbR (bG (vw S 0) lz r)) 0))), (2, .int (nI lz)), (0, .ref mo), (1, .ref (aX ad))] := lv_sub hl [0, 2, 1, 3, 4, 5] rfl
      refine h_loopW (G := G) (A := A) (H0 := s.heap) (Wf := fun r H locs ls => W p l e (headSpec wsX3_isSame { frames := 7, cells := 17, slots := 1105, locals := 156 }).room s m ([.ref mo, .ref (aX ad)].toArray) below meth c H locs (4 * lz + r) (65 * (4 * lz + r)) (MQ below (hW G A (fun ro hp' => ro = some (.int (bI true)))) ([.ref mo, .ref (aX ad)].toArray) s 17 1105 A) (F0 m 51 ls [])) (bN (vw S 0) lz) (fun r => [(5, .int (nI r)), (3, .int (nI (snA (fun r => szR (bG (vw S 0) lz r)) r))), (4, .int (nI (snA (fun r => tbR (bG (vw S 0) lz r)) r))), (2, .int (nI lz)), (0, .ref mo), (1, .ref (aX ad))]) (fun _ hp' => leH hp hp') (fun r hi51 hp' H locs hle hV0 hA0 hS ih51 ls hl => ?_) 0 (Nat.zero_le _) _ H locs hle hV0 hA0 hS ls hl
      have hm := hm0.mv hle
      have hC := hC0.mvL hle
      have hn := hm.le
      refine lv_iload hx hb dX3_isSame_51 (lv_at hl 0 rfl) ?_
      refine lv_aload_n hx hb dX3_isSame_53 rfl (lv_at hl 4 rfl) ?_
      refine h_get (v := .ref lv) hx hb hts hi3 hown hK0 hV0 hm.cmo rfl 6 (by decide) hw7 rfl dX3_isSame_54 ?_
      refine lv_iload_n hx hb dX3_isSame_57 rfl (lv_at hl 3 rfl) ?_
      refine h_aaldE (i := lz) hm.clv hx hb hK0 hV0 rfl rfl (by omega) (by omega) dX3_isSame_58 ?_
      refine h_alenQ (hm.clvl (l := lz) (by omega)) hx hb hK0 hV0 rfl dX3_isSame_59 ?_
      refine h_icmp_ge (a := r) (b := bN (vw S 0) lz) (tgt := 295) hx hb dX3_isSame_60 (by decide) (by omega) (by omega) (fun c_60 => ?_) (fun c_60 => ?_)
      · obtain rfl : r = bN (vw S 0) lz := by omega
        replace hl : lv_has ls 12 [(3, .int (nI (snA (fun r => szR (bG (vw S 0) lz r)) (bN (vw S 0) lz)))), (4, .int (nI (snA (fun r => tbR (bG (vw S 0) lz r)) (bN (vw S 0) lz)))), (2, .int (nI lz)), (0, .ref mo), (1, .ref (aX ad))] := lv_sub hl [1, 2, 3, 4, 5] rfl
        refine lv_iconst (v := nI 3) hx hb dX3_isSame_295 (by decide) ?_
        refine h_newI hx hb hw1 hK0 hV0 hA0 hS hA (n := 3) (by omega) (by show _ ≤ 17; omega) (by show _ ≤ 1105; omega) dX3_isSame_296 (fun q3 H hqq3 hV0 hA0 hS => ?_)
        have hleq3 : leH hp (hput hp' q3 (eI 3 (fun _ => 0))) := hle.tr (leH.rf.new hqq3)
        have hm := hm0.mv hleq3
        have hC := hC0.mvL hleq3
        have hn := hm.le
        refine lv_dup hx hb dX3_isSame_298 rfl ?_
        refine lv_iconst (v := nI 0) hx hb dX3_isSame_299 (by decide) ?_
        refine lv_aload_n hx hb dX3_isSame_300 rfl (lv_at hl 3 rfl) ?_
        refine h_get (v := .ref lv) hx hb hts hi3 hown hK0 hV0 hm.cmo rfl 6 (by decide) hw7 rfl dX3_isSame_301 ?_
        refine lv_iload_n hx hb dX3_isSame_304 rfl (lv_at hl 2 rfl) ?_
        refine h_aaldE (i := lz) hm.clv hx hb hK0 hV0 rfl rfl (by omega) (by omega) dX3_isSame_305 ?_
        refine h_alenQ (hm.clvl (l := lz) (by omega)) hx hb hK0 hV0 rfl dX3_isSame_306 ?_
        refine h_iast (i := 0) (x := nI (bN (vw S 0) lz)) hx hb hK0 hV0 hA0 hS (hput_s _ _ _) (by omega) (by omega) dX3_isSame_307 (fun H locs hV0 hA0 hS => ?_)
        rw [hput_hput] at hV0 hA0
        have hleq3 : leH hp (hput hp' q3 (eI 3 (upd (fun _ => 0) 0 (nI (bN (vw S 0) lz))))) := hle.tr (leH.rf.new hqq3)
        have hm := hm0.mv hleq3
        have hC := hC0.mvL hleq3
        have hn := hm.le
        refine lv_dup hx hb dX3_isSame_308 rfl ?_
        refine lv_iconst (v := nI 1) hx hb dX3_isSame_309 (by decide) ?_
        refine lv_iload_n hx hb dX3_isSame_310 rfl (lv_at hl 0 rfl) ?_
        refine h_iast (i := 1) (x := nI (snA (fun r => szR (bG (vw S 0) lz r)) (bN (vw S 0) lz))) hx hb hK0 hV0 hA0 hS (hput_s _ _ _) (by omega) (by omega) dX3_isSame_311 (fun H locs hV0 hA0 hS => ?_)
        rw [hput_hput] at hV0 hA0
        have hleq3 : leH hp (hput hp' q3 (eI 3 (upd (upd (fun _ => 0) 0 (nI (bN (vw S 0) lz))) 1 (nI (snA (fun r => szR (bG (vw S 0) lz r)) (bN (vw S 0) lz)))))) := hle.tr (leH.rf.new hqq3)
        have hm := hm0.mv hleq3
        have hC := hC0.mvL hleq3
        have hn := hm.le
        refine lv_dup hx hb dX3_isSame_312 rfl ?_
        refine lv_iconst (v := nI 2) hx hb dX3_isSame_313 (by decide) ?_
        refine lv_iload hx hb dX3_isSame_314 (lv_at hl 1 rfl) ?_
        refine h_iast (i := 2) (x := nI (snA (fun r => tbR (bG (vw S 0) lz r)) (bN (vw S 0) lz))) hx hb hK0 hV0 hA0 hS (hput_s _ _ _) (by omega) (by omega) dX3_isSame_316 (fun H locs hV0 hA0 hS => ?_)
        rw [hput_hput] at hV0 hA0
        have hleq3 : leH hp (hput hp' q3 (eI 3 (upd (upd (upd (fun _ => 0) 0 (nI (bN (vw S 0) lz))) 1 (nI (snA (fun r => szR (bG (vw S 0) lz r)) (bN (vw S 0) lz)))) 2 (nI (snA (fun r => tbR (bG (vw S 0) lz r)) (bN (vw S 0) lz)))))) := hle.tr (leH.rf.new hqq3)
        have hm := hm0.mv hleq3
        have hC := hC0.mvL hleq3
        have hn := hm.le
        have q3e : (hput hp' q3 (eI 3 (upd (upd (upd (fun _ => 0) 0 (nI (bN (vw S 0) lz))) 1 (nI (snA (fun r => szR (bG (vw S 0) lz r)) (bN (vw S 0) lz)))) 2 (nI (snA (fun r => tbR (bG (vw S 0) lz r)) (bN (vw S 0) lz)))))) q3 = some (eI 3 (upd (upd (upd (fun _ => 0) 0 (nI (bN (vw S 0) lz))) 1 (nI (snA (fun r => szR (bG (vw S 0) lz r)) (bN (vw S 0) lz)))) 2 (nI (snA (fun r => tbR (bG (vw S 0) lz r)) (bN (vw S 0) lz))))) := hput_s _ _ _
        replace hV0 : hV G (hput hp' q3 (eI 3 (upd (upd (upd (fun _ => 0) 0 (nI (bN (vw S 0) lz))) 1 (nI (snA (fun r => szR (bG (vw S 0) lz r)) (bN (vw S 0) lz)))) 2 (nI (snA (fun r => tbR (bG (vw S 0) lz r)) (bN (vw S 0) lz)))))) H := hV0
        replace hA0 : hIn A (hput hp' q3 (eI 3 (upd (upd (upd (fun _ => 0) 0 (nI (bN (vw S 0) lz))) 1 (nI (snA (fun r => szR (bG (vw S 0) lz r)) (bN (vw S 0) lz)))) 2 (nI (snA (fun r => tbR (bG (vw S 0) lz r)) (bN (vw S 0) lz)))))) := hA0
        generalize hput hp' q3 (eI 3 (upd (upd (upd (fun _ => 0) 0 (nI (bN (vw S 0) lz))) 1 (nI (snA (fun r => szR (bG (vw S 0) lz r)) (bN (vw S 0) lz)))) 2 (nI (snA (fun r => tbR (bG (vw S 0) lz r)) (bN (vw S 0) lz))))) = hp3 at hV0 hA0 hm hC hleq3 q3e
        replace hle := hleq3
        generalize hF3 : (upd (upd (upd (fun _ => 0) 0 (nI (bN (vw S 0) lz))) 1 (nI (snA (fun r => szR (bG (vw S 0) lz r)) (bN (vw S 0) lz)))) 2 (nI (snA (fun r => tbR (bG (vw S 0) lz r)) (bN (vw S 0) lz)))) = F3 at q3e
        refine lv_astore (lv' := [(5, .ref q3), (3, .int (nI (snA (fun r => szR (bG (vw S 0) lz r)) (bN (vw S 0) lz)))), (4, .int (nI (snA (fun r => tbR (bG (vw S 0) lz r)) (bN (vw S 0) lz)))), (2, .int (nI lz)), (0, .ref mo), (1, .ref (aX ad))]) hx hb dX3_isSame_317 hl (by decide) rfl (fun ls hl => ?_)
        refine lv_iconst (v := nI 0) hx hb dX3_isSame_319 (by decide) ?_
        refine lv_istore (lv' := [(6, .int (nI 0)), (5, .ref q3), (3, .int (nI (snA (fun r => szR (bG (vw S 0) lz r)) (bN (vw S 0) lz)))), (4, .int (nI (snA (fun r => tbR (bG (vw S 0) lz r)) (bN (vw S 0) lz)))), (2, .int (nI lz)), (0, .ref mo), (1, .ref (aX ad))]) hx hb dX3_isSame_320 hl (by decide) rfl (fun ls hl => ?_)
        have hlv : ∀ wh, wh < 3 → lvS S lz wh = F3 wh := by
          intro wh hwh
          rw [← hF3]
          rcases (show wh = 0 ∨ wh = 1 ∨ wh = 2 by omega) with q | q | q <;> subst q <;> rfl
        replace hl : lv_has ls 12 [(6, .int (nI 0)), (5, .ref q3), (2, .int (nI lz)), (0, .ref mo), (1, .ref (aX ad))] := lv_sub hl [0, 1, 4, 5, 6] rfl
        revert ls
        refine h_loop 3 (fun wh => [(6, .int (nI wh)), (5, .ref q3), (2, .int (nI lz)), (0, .ref mo), (1, .ref (aX ad))]) (fun _ => True) (fun wh hi322 hI322 ih322 ls hl => ?_) 0 (Nat.zero_le _) trivial
        refine lv_iload hx hb dX3_isSame_322 (lv_at hl 0 rfl) ?_
        refine lv_iconst (v := nI 3) hx hb dX3_isSame_324 (by decide) ?_
        refine h_icmp_ge (a := wh) (b := 3) (tgt := 351) hx hb dX3_isSame_325 (by decide) (by omega) (by omega) (fun c_325 => ?_) (fun c_325 => ?_)
        · refine lv_iinc (v := nI (lz + 1)) (lv' := [(2, .int (nI (lz + 1))), (6, .int (nI wh)), (5, .ref q3), (0, .ref mo), (1, .ref (aX ad))]) hx hb dX3_isSame_351 hl (k := 2) rfl (nI_add (lz) 1) (by decide) rfl (fun ls hl => ?_)
          refine lv_goto (tgt := 38) hx hb dX3_isSame_354 (by decide) ?_
          refine W.widen (k := 4 * (lz + 1)) (n := 65 * (4 * (lz + 1))) (by omega) (by omega) ?_
          exact ih38 _ H locs (by omega) hle hV0 hA0 hS ls (lv_sub hl [0, 3, 4] rfl)
        · refine lv_aload_n hx hb dX3_isSame_328 rfl (lv_at hl 4 rfl) ?_
          refine lv_iload_n hx hb dX3_isSame_329 rfl (lv_at hl 2 rfl) ?_
          refine lv_iload hx hb dX3_isSame_330 (lv_at hl 0 rfl) ?_
          refine h_rdV (As := [.int (nI lz), .int (nI wh)]) (rest := []) hF (c_X2_level l G hp3 ad S hC lz (by omega) wh (by omega)) 2 gX3_isSame_X2_level rfl (by decide +kernel) ⟨Nat.le_of_ble_eq_true rfl, Nat.le_of_ble_eq_true rfl⟩ hK0 hV0 hC.xo rfl rfl rfl hl.1 rfl (Nat.le_of_ble_eq_true rfl) (by show _ ≤ 17; omega) (by show _ ≤ 1105; omega) dX3_isSame_332 ?_
          refine lv_aload hx hb dX3_isSame_335 (lv_at hl 1 rfl) ?_
          refine lv_iload hx hb dX3_isSame_337 (lv_at hl 0 rfl) ?_
          refine h_iald (i := wh) hx hb hK0 hV0 q3e (by omega) (by omega) dX3_isSame_339 ?_
          refine lv_icmp_eq (tgt := 345) hx hb dX3_isSame_340 (by decide) (fun c_340 => ?_) (fun c_340 => absurd (hlv _ (by omega)) c_340)
          refine lv_iinc (v := nI (wh + 1)) (lv' := [(6, .int (nI (wh + 1))), (5, .ref q3), (2, .int (nI lz)), (0, .ref mo), (1, .ref (aX ad))]) hx hb dX3_isSame_345 hl (k := 0) rfl (nI_add (wh) 1) (by decide) rfl (fun ls hl => ?_)
          refine lv_goto (tgt := 322) hx hb dX3_isSame_348 (by decide) ?_
          exact ih322 (by omega) trivial ls (lv_sub hl [0, 1, 2, 3, 4] rfl)
      · refine lv_aload_n hx hb dX3_isSame_63 rfl (lv_at hl 4 rfl) ?_
        refine h_get (v := .ref lv) hx hb hts hi3 hown hK0 hV0 hm.cmo rfl 6 (by decide) hw7 rfl dX3_isSame_64 ?_
        refine lv_iload_n hx hb dX3_isSame_67 rfl (lv_at hl 3 rfl) ?_
        refine h_aaldE (i := lz) hm.clv hx hb hK0 hV0 rfl rfl (by omega) (by omega) dX3_isSame_68 ?_
        refine lv_iload hx hb dX3_isSame_69 (lv_at hl 0 rfl) ?_
        refine h_aaldE (i := r) (hm.clvl (l := lz) (by omega)) hx hb hK0 hV0 rfl rfl (by omega) (by omega) dX3_isSame_71 ?_
        refine lv_astore (lv' := [(6, .ref (row lz r)), (5, .int (nI r)), (3, .int (nI (snA (fun r => szR (bG (vw S 0) lz r)) r))), (4, .int (nI (snA (fun r => tbR (bG (vw S 0) lz r)) r))), (2, .int (nI lz)), (0, .ref mo), (1, .ref (aX ad))]) hx hb dX3_isSame_72 hl (by decide) rfl (fun ls hl => ?_)
        refine lv_iconst (v := nI 0) hx hb dX3_isSame_74 (by decide) ?_
        refine lv_istore (lv' := [(7, .int (nI 0)), (6, .ref (row lz r)), (5, .int (nI r)), (3, .int (nI (snA (fun r => szR (bG (vw S 0) lz r)) r))), (4, .int (nI (snA (fun r => tbR (bG (vw S 0) lz r)) r))), (2, .int (nI lz)), (0, .ref mo), (1, .ref (aX ad))]) hx hb dX3_isSame_75 hl (by decide) rfl (fun ls hl => ?_)
        refine lv_iconst (v := nI 0) hx hb dX3_isSame_77 (by decide) ?_
        refine lv_istore (lv' := [(8, .int (nI 0)), (7, .int (nI 0)), (6, .ref (row lz r)), (5, .int (nI r)), (3, .int (nI (snA (fun r => szR (bG (vw S 0) lz r)) r))), (4, .int (nI (snA (fun r => tbR (bG (vw S 0) lz r)) r))), (2, .int (nI lz)), (0, .ref mo), (1, .ref (aX ad))]) hx hb dX3_isSame_78 hl (by decide) rfl (fun ls hl => ?_)
        refine lv_iconst (v := nI 0) hx hb dX3_isSame_80 (by decide) ?_
        refine lv_istore (lv' := [(9, .int (nI 0)), (8, .int (nI 0)), (7, .int (nI 0)), (6, .ref (row lz r)), (5, .int (nI r)), (3, .int (nI (snA (fun r => szR (bG (vw S 0) lz r)) r))), (4, .int (nI (snA (fun r => tbR (bG (vw S 0) lz r)) r))), (2, .int (nI lz)), (0, .ref mo), (1, .ref (aX ad))]) hx hb dX3_isSame_81 hl (by decide) rfl (fun ls hl => ?_)
        refine lv_iconst (v := nI 0) hx hb dX3_isSame_83 (by decide) ?_
        refine lv_istore (lv' := [(10, .int (nI 0)), (9, .int (nI 0)), (8, .int (nI 0)), (7, .int (nI 0)), (6, .ref (row lz r)), (5, .int (nI r)), (3, .int (nI (snA (fun r => szR (bG (vw S 0) lz r)) r))), (4, .int (nI (snA (fun r => tbR (bG (vw S 0) lz r)) r))), (2, .int (nI lz)), (0, .ref mo), (1, .ref (aX ad))]) hx hb dX3_isSame_84 hl (by decide) rfl (fun ls hl => ?_)
        have hok9 := hm.ok (l := lz) (r := r) (by omega) (by omega)
        have hps := hm.pos (l := lz) (r := r) (by omega) (by omega)
        have hz8 := szR_le (bG (vw S 0) lz r)
        have hgz : szR (bG (vw S 0) lz r) = szR (gC S 0 lz r) := rfl
        replace hl : lv_has ls 12 [(10, .int (nI 0)), (7, .int (svR (acP emR (bG (vw S 0) lz r) 0))), (8, .int (nI (tbR (acP emR (bG (vw S 0) lz r) 0)))), (9, .int (nI (cnK (bG (vw S 0) lz r) (stP (sF S 0) (vw S 0) lz r) 0))), (6, .ref (row lz r)), (5, .int (nI r)), (3, .int (nI (snA (fun r => szR (bG (vw S 0) lz r)) r))), (4, .int (nI (snA (fun r => tbR (bG (vw S 0) lz r)) r))), (2, .int (nI lz)), (0, .ref mo), (1, .ref (aX ad))] := by rw [ap_0.1, ap_0.2]; exact lv_sub hl [0, 3, 2, 1, 4, 5, 6, 7, 8, 9, 10] rfl
        revert ls
        refine h_loop (szR (bG (vw S 0) lz r)) (fun k => [(10, .int (nI k)), (7, .int (svR (acP emR (bG (vw S 0) lz r) k))), (8, .int (nI (tbR (acP emR (bG (vw S 0) lz r) k)))), (9, .int (nI (cnK (bG (vw S 0) lz r) (stP (sF S 0) (vw S 0) lz r) k))), (6, .ref (row lz r)), (5, .int (nI r)), (3, .int (nI (snA (fun r => szR (bG (vw S 0) lz r)) r))), (4, .int (nI (snA (fun r => tbR (bG (vw S 0) lz r)) r))), (2, .int (nI lz)), (0, .ref mo), (1, .ref (aX ad))]) (fun _ => True) (fun k hi86 hI86 ih86 ls hl => ?_) 0 (Nat.zero_le _) trivial
        refine lv_iload hx hb dX3_isSame_86 (lv_at hl 0 rfl) ?_
        refine lv_aload hx hb dX3_isSame_88 (lv_at hl 4 rfl) ?_
        refine h_alenQ (hm.crow (l := lz) (r := r) (by omega) (by omega)).1 hx hb hK0 hV0 rfl dX3_isSame_90 ?_
        refine h_icmp_ge (a := k) (b := szR (bG (vw S 0) lz r)) (tgt := 192) hx hb dX3_isSame_91 (by decide) (by omega) (by omega) (fun c_91 => ?_) (fun c_91 => ?_)
        · obtain rfl : k = szR (bG (vw S 0) lz r) := by omega
          have hsd : cnK (bG (vw S 0) lz r) (stP (sF S 0) (vw S 0) lz r) (szR (bG (vw S 0) lz r)) = sdS (sF S 0) (sN S 0) (gC S 0) lz r := cnK_e (fun y _ hy => st_has hy)
          replace hl : lv_has ls 12 [(7, .int (svR (bG (vw S 0) lz r))), (8, .int (nI (tbR (bG (vw S 0) lz r)))), (9, .int (nI (sdS (sF S 0) (sN S 0) (gC S 0) lz r))), (6, .ref (row lz r)), (5, .int (nI r)), (3, .int (nI (snA (fun r => szR (bG (vw S 0) lz r)) r))), (4, .int (nI (snA (fun r => tbR (bG (vw S 0) lz r)) r))), (2, .int (nI lz)), (0, .ref mo), (1, .ref (aX ad))] := by rw [ap_e hok9, hsd] at hl; exact lv_sub hl [1, 2, 3, 4, 5, 6, 7, 8, 9, 10] rfl
          have hls9 := nth_ls hps
          have hgr9 := nth_gr hps
          have htl := tbR_le (bG (vw S 0) lz r)
          have hsl9 : sdS (sF S 0) (sN S 0) (gC S 0) lz r ≤ 64 := cntB_le _ 64
          refine lv_bipush (v := nI 6) hx hb dX3_isSame_192 (by decide) ?_
          refine h_newI hx hb hw1 hK0 hV0 hA0 hS hA (n := 6) (by omega) (by show _ ≤ 17; omega) (by show _ ≤ 1105; omega) dX3_isSame_194 (fun q6 H hqq6 hV0 hA0 hS => ?_)
          have hleq6 : leH hp (hput hp' q6 (eI 6 (fun _ => 0))) := hle.tr (leH.rf.new hqq6)
          have hm := hm0.mv hleq6
          have hC := hC0.mvL hleq6
          have hn := hm.le
          refine lv_dup hx hb dX3_isSame_196 rfl ?_
          refine lv_iconst (v := nI 0) hx hb dX3_isSame_197 (by decide) ?_
          refine lv_aload hx hb dX3_isSame_198 (lv_at hl 3 rfl) ?_
          refine h_alenQ (hm.crow (l := lz) (r := r) (by omega) (by omega)).1 hx hb hK0 hV0 rfl dX3_isSame_200 ?_
          refine h_iast (i := 0) (x := nI (szR (bG (vw S 0) lz r))) hx hb hK0 hV0 hA0 hS (hput_s _ _ _) (by omega) (by omega) dX3_isSame_201 (fun H locs hV0 hA0 hS => ?_)
          rw [hput_hput] at hV0 hA0
          have hleq6 : leH hp (hput hp' q6 (eI 6 (upd (fun _ => 0) 0 (nI (szR (bG (vw S 0) lz r)))))) := hle.tr (leH.rf.new hqq6)
          have hm := hm0.mv hleq6
          have hC := hC0.mvL hleq6
          have hn := hm.le
          refine lv_dup hx hb dX3_isSame_202 rfl ?_
          refine lv_iconst (v := nI 1) hx hb dX3_isSame_203 (by decide) ?_
          refine lv_aload hx hb dX3_isSame_204 (lv_at hl 3 rfl) ?_
          refine lv_iconst (v := nI 0) hx hb dX3_isSame_206 (by decide) ?_
          refine h_aaldE (i := 0) (hm.crow (l := lz) (r := r) (by omega) (by omega)).1 hx hb hK0 hV0 rfl rfl (by omega) (by omega) dX3_isSame_207 ?_
          refine lv_iconst (v := nI 0) hx hb dX3_isSame_208 (by decide) ?_
          refine h_sl0 ((hm.crow (l := lz) (r := r) (by omega) (by omega)).at (k := 0) (by omega)) hx hb hK0 hV0 dX3_isSame_209 ?_
          refine h_iast (i := 1) (x := nI (nthR (bG (vw S 0) lz r) 0)) hx hb hK0 hV0 hA0 hS (hput_s _ _ _) (by omega) (by omega) dX3_isSame_210 (fun H locs hV0 hA0 hS => ?_)
          rw [hput_hput] at hV0 hA0
          have hleq6 : leH hp (hput hp' q6 (eI 6 (upd (upd (fun _ => 0) 0 (nI (szR (bG (vw S 0) lz r)))) 1 (nI (nthR (bG (vw S 0) lz r) 0))))) := hle.tr (leH.rf.new hqq6)
          have hm := hm0.mv hleq6
          have hC := hC0.mvL hleq6
          have hn := hm.le
          refine lv_dup hx hb dX3_isSame_211 rfl ?_
          refine lv_iconst (v := nI 2) hx hb dX3_isSame_212 (by decide) ?_
          refine lv_aload hx hb dX3_isSame_213 (lv_at hl 3 rfl) ?_
          refine lv_aload hx hb dX3_isSame_215 (lv_at hl 3 rfl) ?_
          refine h_alenQ (hm.crow (l := lz) (r := r) (by omega) (by omega)).1 hx hb hK0 hV0 rfl dX3_isSame_217 ?_
          refine lv_iconst (v := nI 1) hx hb dX3_isSame_218 (by decide) ?_
          refine h_isubN hx hb (by omega) dX3_isSame_219 ?_
          refine h_aaldE (i := szR (bG (vw S 0) lz r) - 1) (hm.crow (l := lz) (r := r) (by omega) (by omega)).1 hx hb hK0 hV0 rfl rfl (by omega) (by omega) dX3_isSame_220 ?_
          refine lv_iconst (v := nI 0) hx hb dX3_isSame_221 (by decide) ?_
          refine h_sl0 ((hm.crow (l := lz) (r := r) (by omega) (by omega)).at (k := (szR (bG (vw S 0) lz r) - 1)) (by omega)) hx hb hK0 hV0 dX3_isSame_222 ?_
          refine h_iast (i := 2) (x := nI (nthR (bG (vw S 0) lz r) (szR (bG (vw S 0) lz r) - 1))) hx hb hK0 hV0 hA0 hS (hput_s _ _ _) (by omega) (by omega) dX3_isSame_223 (fun H locs hV0 hA0 hS => ?_)
          rw [hput_hput] at hV0 hA0
          have hleq6 : leH hp (hput hp' q6 (eI 6 (upd (upd (upd (fun _ => 0) 0 (nI (szR (bG (vw S 0) lz r)))) 1 (nI (nthR (bG (vw S 0) lz r) 0))) 2 (nI (nthR (bG (vw S 0) lz r) (szR (bG (vw S 0) lz r) - 1)))))) := hle.tr (leH.rf.new hqq6)
          have hm := hm0.mv hleq6
          have hC := hC0.mvL hleq6
          have hn := hm.le
          refine lv_dup hx hb dX3_isSame_224 rfl ?_
          refine lv_iconst (v := nI 3) hx hb dX3_isSame_225 (by decide) ?_
          refine lv_iload hx hb dX3_isSame_226 (lv_at hl 0 rfl) ?_
          refine h_iast (i := 3) (x := (svR (bG (vw S 0) lz r))) hx hb hK0 hV0 hA0 hS (hput_s _ _ _) (by omega) (by omega) dX3_isSame_228 (fun H locs hV0 hA0 hS => ?_)
          rw [hput_hput] at hV0 hA0
          have hleq6 : leH hp (hput hp' q6 (eI 6 (upd (upd (upd (upd (fun _ => 0) 0 (nI (szR (bG (vw S 0) lz r)))) 1 (nI (nthR (bG (vw S 0) lz r) 0))) 2 (nI (nthR (bG (vw S 0) lz r) (szR (bG (vw S 0) lz r) - 1)))) 3 ((svR (bG (vw S 0) lz r)))))) := hle.tr (leH.rf.new hqq6)
          have hm := hm0.mv hleq6
          have hC := hC0.mvL hleq6
          have hn := hm.le
          refine lv_dup hx hb dX3_isSame_229 rfl ?_
          refine lv_iconst (v := nI 4) hx hb dX3_isSame_230 (by decide) ?_
          refine lv_iload hx hb dX3_isSame_231 (lv_at hl 1 rfl) ?_
          refine h_iast (i := 4) (x := nI (tbR (bG (vw S 0) lz r))) hx hb hK0 hV0 hA0 hS (hput_s _ _ _) (by omega) (by omega) dX3_isSame_233 (fun H locs hV0 hA0 hS => ?_)
          rw [hput_hput] at hV0 hA0
          have hleq6 : leH hp (hput hp' q6 (eI 6 (upd (upd (upd (upd (upd (fun _ => 0) 0 (nI (szR (bG (vw S 0) lz r)))) 1 (nI (nthR (bG (vw S 0) lz r) 0))) 2 (nI (nthR (bG (vw S 0) lz r) (szR (bG (vw S 0) lz r) - 1)))) 3 ((svR (bG (vw S 0) lz r)))) 4 (nI (tbR (bG (vw S 0) lz r)))))) := hle.tr (leH.rf.new hqq6)
          have hm := hm0.mv hleq6
          have hC := hC0.mvL hleq6
          have hn := hm.le
          refine lv_dup hx hb dX3_isSame_234 rfl ?_
          refine lv_iconst (v := nI 5) hx hb dX3_isSame_235 (by decide) ?_
          refine lv_iload hx hb dX3_isSame_236 (lv_at hl 2 rfl) ?_
          refine h_iast (i := 5) (x := nI (sdS (sF S 0) (sN S 0) (gC S 0) lz r)) hx hb hK0 hV0 hA0 hS (hput_s _ _ _) (by omega) (by omega) dX3_isSame_238 (fun H locs hV0 hA0 hS => ?_)
          rw [hput_hput] at hV0 hA0
          have hleq6 : leH hp (hput hp' q6 (eI 6 (upd (upd (upd (upd (upd (upd (fun _ => 0) 0 (nI (szR (bG (vw S 0) lz r)))) 1 (nI (nthR (bG (vw S 0) lz r) 0))) 2 (nI (nthR (bG (vw S 0) lz r) (szR (bG (vw S 0) lz r) - 1)))) 3 ((svR (bG (vw S 0) lz r)))) 4 (nI (tbR (bG (vw S 0) lz r)))) 5 (nI (sdS (sF S 0) (sN S 0) (gC S 0) lz r))))) := hle.tr (leH.rf.new hqq6)
          have hm := hm0.mv hleq6
          have hC := hC0.mvL hleq6
          have hn := hm.le
          have q6e : (hput hp' q6 (eI 6 (upd (upd (upd (upd (upd (upd (fun _ => 0) 0 (nI (szR (bG (vw S 0) lz r)))) 1 (nI (nthR (bG (vw S 0) lz r) 0))) 2 (nI (nthR (bG (vw S 0) lz r) (szR (bG (vw S 0) lz r) - 1)))) 3 ((svR (bG (vw S 0) lz r)))) 4 (nI (tbR (bG (vw S 0) lz r)))) 5 (nI (sdS (sF S 0) (sN S 0) (gC S 0) lz r))))) q6 = some (eI 6 (upd (upd (upd (upd (upd (upd (fun _ => 0) 0 (nI (szR (bG (vw S 0) lz r)))) 1 (nI (nthR (bG (vw S 0) lz r) 0))) 2 (nI (nthR (bG (vw S 0) lz r) (szR (bG (vw S 0) lz r) - 1)))) 3 ((svR (bG (vw S 0) lz r)))) 4 (nI (tbR (bG (vw S 0) lz r)))) 5 (nI (sdS (sF S 0) (sN S 0) (gC S 0) lz r)))) := hput_s _ _ _
          replace hV0 : hV G (hput hp' q6 (eI 6 (upd (upd (upd (upd (upd (upd (fun _ => 0) 0 (nI (szR (bG (vw S 0) lz r)))) 1 (nI (nthR (bG (vw S 0) lz r) 0))) 2 (nI (nthR (bG (vw S 0) lz r) (szR (bG (vw S 0) lz r) - 1)))) 3 ((svR (bG (vw S 0) lz r)))) 4 (nI (tbR (bG (vw S 0) lz r)))) 5 (nI (sdS (sF S 0) (sN S 0) (gC S 0) lz r))))) H := hV0
          replace hA0 : hIn A (hput hp' q6 (eI 6 (upd (upd (upd (upd (upd (upd (fun _ => 0) 0 (nI (szR (bG (vw S 0) lz r)))) 1 (nI (nthR (bG (vw S 0) lz r) 0))) 2 (nI (nthR (bG (vw S 0) lz r) (szR (bG (vw S 0) lz r) - 1)))) 3 ((svR (bG (vw S 0) lz r)))) 4 (nI (tbR (bG (vw S 0) lz r)))) 5 (nI (sdS (sF S 0) (sN S 0) (gC S 0) lz r))))) := hA0
          generalize hput hp' q6 (eI 6 (upd (upd (upd (upd (upd (upd (fun _ => 0) 0 (nI (szR (bG (vw S 0) lz r)))) 1 (nI (nthR (bG (vw S 0) lz r) 0))) 2 (nI (nthR (bG (vw S 0) lz r) (szR (bG (vw S 0) lz r) - 1)))) 3 ((svR (bG (vw S 0) lz r)))) 4 (nI (tbR (bG (vw S 0) lz r)))) 5 (nI (sdS (sF S 0) (sN S 0) (gC S 0) lz r)))) = hp6 at hV0 hA0 hm hC hleq6 q6e
          replace hle := hleq6
          generalize hF6 : (upd (upd (upd (upd (upd (upd (fun _ => 0) 0 (nI (szR (bG (vw S 0) lz r)))) 1 (nI (nthR (bG (vw S 0) lz r) 0))) 2 (nI (nthR (bG (vw S 0) lz r) (szR (bG (vw S 0) lz r) - 1)))) 3 ((svR (bG (vw S 0) lz r)))) 4 (nI (tbR (bG (vw S 0) lz r)))) 5 (nI (sdS (sF S 0) (sN S 0) (gC S 0) lz r))) = F6 at q6e
          refine lv_astore (lv' := [(10, .ref q6), (7, .int (svR (bG (vw S 0) lz r))), (8, .int (nI (tbR (bG (vw S 0) lz r)))), (9, .int (nI (sdS (sF S 0) (sN S 0) (gC S 0) lz r))), (6, .ref (row lz r)), (5, .int (nI r)), (3, .int (nI (snA (fun r => szR (bG (vw S 0) lz r)) r))), (4, .int (nI (snA (fun r => tbR (bG (vw S 0) lz r)) r))), (2, .int (nI lz)), (0, .ref mo), (1, .ref (aX ad))]) hx hb dX3_isSame_239 hl (by decide) rfl (fun ls hl => ?_)
          refine lv_iconst (v := nI 0) hx hb dX3_isSame_241 (by decide) ?_
          refine lv_istore (lv' := [(11, .int (nI 0)), (10, .ref q6), (7, .int (svR (bG (vw S 0) lz r))), (8, .int (nI (tbR (bG (vw S 0) lz r)))), (9, .int (nI (sdS (sF S 0) (sN S 0) (gC S 0) lz r))), (6, .ref (row lz r)), (5, .int (nI r)), (3, .int (nI (snA (fun r => szR (bG (vw S 0) lz r)) r))), (4, .int (nI (snA (fun r => tbR (bG (vw S 0) lz r)) r))), (2, .int (nI lz)), (0, .ref mo), (1, .ref (aX ad))]) hx hb dX3_isSame_242 hl (by decide) rfl (fun ls hl => ?_)
          replace hl : lv_has ls 12 [(11, .int (nI 0)), (10, .ref q6), (8, .int (nI (tbR (bG (vw S 0) lz r)))), (6, .ref (row lz r)), (5, .int (nI r)), (3, .int (nI (snA (fun r => szR (bG (vw S 0) lz r)) r))), (4, .int (nI (snA (fun r => tbR (bG (vw S 0) lz r)) r))), (2, .int (nI lz)), (0, .ref mo), (1, .ref (aX ad))] := lv_sub hl [0, 1, 3, 5, 6, 7, 8, 9, 10, 11] rfl
          revert ls
          refine h_loop 6 (fun wh => [(11, .int (nI wh)), (10, .ref q6), (8, .int (nI (tbR (bG (vw S 0) lz r)))), (6, .ref (row lz r)), (5, .int (nI r)), (3, .int (nI (snA (fun r => szR (bG (vw S 0) lz r)) r))), (4, .int (nI (snA (fun r => tbR (bG (vw S 0) lz r)) r))), (2, .int (nI lz)), (0, .ref mo), (1, .ref (aX ad))]) (fun _ => True) (fun wh hi244 hI244 ih244 ls hl => ?_) 0 (Nat.zero_le _) trivial
          refine lv_iload hx hb dX3_isSame_244 (lv_at hl 0 rfl) ?_
          refine lv_bipush (v := nI 6) hx hb dX3_isSame_246 (by decide) ?_
          refine h_icmp_ge (a := wh) (b := 6) (tgt := 276) hx hb dX3_isSame_248 (by decide) (by omega) (by omega) (fun c_248 => ?_) (fun c_248 => ?_)
          · replace hl : lv_has ls 12 [(8, .int (nI (tbR (bG (vw S 0) lz r)))), (6, .ref (row lz r)), (5, .int (nI r)), (3, .int (nI (snA (fun r => szR (bG (vw S 0) lz r)) r))), (4, .int (nI (snA (fun r => tbR (bG (vw S 0) lz r)) r))), (2, .int (nI lz)), (0, .ref mo), (1, .ref (aX ad))] := lv_sub hl [2, 3, 4, 5, 6, 7, 8, 9] rfl
            have hs3 : snA (fun r => szR (bG (vw S 0) lz r)) (r + 1) = snA (fun r => szR (bG (vw S 0) lz r)) r + szR (bG (vw S 0) lz r) := rfl
            refine lv_iload_n hx hb dX3_isSame_276 rfl (lv_at hl 3 rfl) ?_
            refine lv_aload hx hb dX3_isSame_277 (lv_at hl 1 rfl) ?_
            refine h_alenQ (hm.crow (l := lz) (r := r) (by omega) (by omega)).1 hx hb hK0 hV0 rfl dX3_isSame_279 ?_
            refine h_iaddN hx hb dX3_isSame_280 ?_
            refine lv_istore_n (lv' := [(3, .int (nI (snA (fun r => szR (bG (vw S 0) lz r)) r + szR (bG (vw S 0) lz r)))), (8, .int (nI (tbR (bG (vw S 0) lz r)))), (6, .ref (row lz r)), (5, .int (nI r)), (4, .int (nI (snA (fun r => tbR (bG (vw S 0) lz r)) r))), (2, .int (nI lz)), (0, .ref mo), (1, .ref (aX ad))]) hx hb dX3_isSame_281 rfl hl (by decide) rfl (fun ls hl => ?_)
            refine lv_iload hx hb dX3_isSame_282 (lv_at hl 4 rfl) ?_
            refine lv_iload hx hb dX3_isSame_284 (lv_at hl 1 rfl) ?_
            refine h_iaddN hx hb dX3_isSame_286 ?_
            refine lv_istore (lv' := [(4, .int (nI (snA (fun r => tbR (bG (vw S 0) lz r)) r + tbR (bG (vw S 0) lz r)))), (3, .int (nI (snA (fun r => szR (bG (vw S 0) lz r)) r + szR (bG (vw S 0) lz r)))), (8, .int (nI (tbR (bG (vw S 0) lz r)))), (6, .ref (row lz r)), (5, .int (nI r)), (2, .int (nI lz)), (0, .ref mo), (1, .ref (aX ad))]) hx hb dX3_isSame_287 hl (by decide) rfl (fun ls hl => ?_)
            refine lv_iinc (v := nI (r + 1)) (lv' := [(5, .int (nI (r + 1))), (4, .int (nI (snA (fun r => tbR (bG (vw S 0) lz r)) r + tbR (bG (vw S 0) lz r)))), (3, .int (nI (snA (fun r => szR (bG (vw S 0) lz r)) r + szR (bG (vw S 0) lz r)))), (8, .int (nI (tbR (bG (vw S 0) lz r)))), (6, .ref (row lz r)), (2, .int (nI lz)), (0, .ref mo), (1, .ref (aX ad))]) hx hb dX3_isSame_289 hl (k := 4) rfl (nI_add (r) 1) (by decide) rfl (fun ls hl => ?_)
            refine lv_goto (tgt := 51) hx hb dX3_isSame_292 (by decide) ?_
            refine W.widen (k := 4 * lz + (r + 1)) (n := 65 * (4 * lz + (r + 1))) (by omega) (by omega) ?_
            exact ih51 _ H locs (by omega) hle hV0 hA0 hS ls (lv_sub hl [0, 2, 1, 5, 6, 7] rfl)
          · refine lv_aload_n hx hb dX3_isSame_251 rfl (lv_at hl 9 rfl) ?_
            refine lv_iload_n hx hb dX3_isSame_252 rfl (lv_at hl 7 rfl) ?_
            refine lv_iload hx hb dX3_isSame_253 (lv_at hl 4 rfl) ?_
            refine lv_iload hx hb dX3_isSame_255 (lv_at hl 0 rfl) ?_
            refine h_rdV (As := [.int (nI lz), .int (nI r), .int (nI wh)]) (rest := []) hF (c_X2_run l G hp6 ad S hC lz (by omega) r (by omega) wh (by omega)) 3 gX3_isSame_X2_run rfl (by decide +kernel) ⟨Nat.le_of_ble_eq_true rfl, Nat.le_of_ble_eq_true rfl⟩ hK0 hV0 hC.xo rfl rfl rfl hl.1 rfl (Nat.le_of_ble_eq_true rfl) (by show _ ≤ 17; omega) (by show _ ≤ 1105; omega) dX3_isSame_257 ?_
            refine lv_aload hx hb dX3_isSame_260 (lv_at hl 1 rfl) ?_
            refine lv_iload hx hb dX3_isSame_262 (lv_at hl 0 rfl) ?_
            refine h_iald (i := wh) hx hb hK0 hV0 q6e (by omega) (by omega) dX3_isSame_264 ?_
            refine lv_icmp_eq (tgt := 270) hx hb dX3_isSame_265 (by decide) (fun c_265 => ?_) (fun c_265 => absurd (fc_of (by omega) (by rw [← hF6]; rfl) (by rw [← hF6]; exact congrArg nI hls9) (by rw [← hF6]; exact hgr9) (by rw [← hF6]; rfl) (by rw [← hF6]; rfl) (by rw [← hF6]; rfl)) c_265)
            refine lv_iinc (v := nI (wh + 1)) (lv' := [(11, .int (nI (wh + 1))), (10, .ref q6), (8, .int (nI (tbR (bG (vw S 0) lz r)))), (6, .ref (row lz r)), (5, .int (nI r)), (3, .int (nI (snA (fun r => szR (bG (vw S 0) lz r)) r))), (4, .int (nI (snA (fun r => tbR (bG (vw S 0) lz r)) r))), (2, .int (nI lz)), (0, .ref mo), (1, .ref (aX ad))]) hx hb dX3_isSame_270 hl (k := 0) rfl (nI_add (wh) 1) (by decide) rfl (fun ls hl => ?_)
            refine lv_goto (tgt := 244) hx hb dX3_isSame_273 (by decide) ?_
            exact ih244 (by omega) trivial ls (lv_sub hl [0, 1, 2, 3, 4, 5, 6, 7, 8, 9] rfl)
        · have hat := nth_at (f := (bG (vw S 0) lz r)) (k := k) (by omega)
          have hnk := hat.1
          have hkh := hat.2.1
          have hkw := hok9.w hkh
          have htl := tbR_le (acP emR (bG (vw S 0) lz r) k)
          have hcl := cnK_le (bG (vw S 0) lz r) (stP (sF S 0) (vw S 0) lz r) k
          have htt := ((hm.crow (l := lz) (r := r) (by omega) (by omega)).at (k := k) (by omega)).2.2
          refine lv_iload hx hb dX3_isSame_94 (lv_at hl 1 rfl) ?_
          refine lv_iconst (v := nI 1) hx hb dX3_isSame_96 (by decide) ?_
          refine lv_aload hx hb dX3_isSame_97 (lv_at hl 4 rfl) ?_
          refine lv_iload hx hb dX3_isSame_99 (lv_at hl 0 rfl) ?_
          refine h_aaldE (i := k) (hm.crow (l := lz) (r := r) (by omega) (by omega)).1 hx hb hK0 hV0 rfl rfl (by omega) (by omega) dX3_isSame_101 ?_
          refine lv_iconst (v := nI 0) hx hb dX3_isSame_102 (by decide) ?_
          refine h_sl0 ((hm.crow (l := lz) (r := r) (by omega) (by omega)).at (k := k) (by omega)) hx hb hK0 hV0 dX3_isSame_103 ?_
          refine lv_bipush (v := nI 8) hx hb dX3_isSame_104 (by decide) ?_
          refine h_iremN hx hb (by omega) (by decide) (by decide) dX3_isSame_106 ?_
          refine lv_ishl hx hb dX3_isSame_107 ?_
          refine lv_ior hx hb dX3_isSame_108 ?_
          refine lv_istore (lv' := [(7, .int ((svR (acP emR (bG (vw S 0) lz r) k)) ||| (nI 1 <<< (nI ((nthR (bG (vw S 0) lz r) k) % 8) &&& 31)))), (10, .int (nI k)), (8, .int (nI (tbR (acP emR (bG (vw S 0) lz r) k)))), (9, .int (nI (cnK (bG (vw S 0) lz r) (stP (sF S 0) (vw S 0) lz r) k))), (6, .ref (row lz r)), (5, .int (nI r)), (3, .int (nI (snA (fun r => szR (bG (vw S 0) lz r)) r))), (4, .int (nI (snA (fun r => tbR (bG (vw S 0) lz r)) r))), (2, .int (nI lz)), (0, .ref mo), (1, .ref (aX ad))]) hx hb dX3_isSame_109 hl (by decide) rfl (fun ls hl => ?_)
          refine lv_iload hx hb dX3_isSame_111 (lv_at hl 2 rfl) ?_
          refine lv_aload hx hb dX3_isSame_113 (lv_at hl 4 rfl) ?_
          refine lv_iload hx hb dX3_isSame_115 (lv_at hl 1 rfl) ?_
          refine h_aaldE (i := k) (hm.crow (l := lz) (r := r) (by omega) (by omega)).1 hx hb hK0 hV0 rfl rfl (by omega) (by omega) dX3_isSame_117 ?_
          refine lv_iconst (v := nI 1) hx hb dX3_isSame_118 (by decide) ?_
          refine h_sl1 ((hm.crow (l := lz) (r := r) (by omega) (by omega)).at (k := k) (by omega)) hx hb hK0 hV0 dX3_isSame_119 ?_
          refine lv_if_ge (tgt := 127) hx hb dX3_isSame_120 (by decide) (fun c_120 => ?_) (fun c_120 => ?_)
          · refine lv_iconst (v := nI 0) hx hb dX3_isSame_127 (by decide) ?_
            refine h_iaddN hx hb dX3_isSame_128 ?_
            refine lv_istore (lv' := [(8, .int (nI (tbR (acP emR (bG (vw S 0) lz r) k) + 0))), (7, .int ((svR (acP emR (bG (vw S 0) lz r) k)) ||| (nI 1 <<< (nI ((nthR (bG (vw S 0) lz r) k) % 8) &&& 31)))), (10, .int (nI k)), (9, .int (nI (cnK (bG (vw S 0) lz r) (stP (sF S 0) (vw S 0) lz r) k))), (6, .ref (row lz r)), (5, .int (nI r)), (3, .int (nI (snA (fun r => szR (bG (vw S 0) lz r)) r))), (4, .int (nI (snA (fun r => tbR (bG (vw S 0) lz r)) r))), (2, .int (nI lz)), (0, .ref mo), (1, .ref (aX ad))]) hx hb dX3_isSame_129 hl (by decide) rfl (fun ls hl => ?_)
            refine lv_iload hx hb dX3_isSame_131 (lv_at hl 3 rfl) ?_
            refine lv_aload_n hx hb dX3_isSame_133 rfl (lv_at hl 9 rfl) ?_
            refine lv_aload hx hb dX3_isSame_134 (lv_at hl 4 rfl) ?_
            refine lv_iload hx hb dX3_isSame_136 (lv_at hl 2 rfl) ?_
            refine h_aaldE (i := k) (hm.crow (l := lz) (r := r) (by omega) (by omega)).1 hx hb hK0 hV0 rfl rfl (by omega) (by omega) dX3_isSame_138 ?_
            refine lv_iconst (v := nI 0) hx hb dX3_isSame_139 (by decide) ?_
            refine h_sl0 ((hm.crow (l := lz) (r := r) (by omega) (by omega)).at (k := k) (by omega)) hx hb hK0 hV0 dX3_isSame_140 ?_
            refine h_rdV (As := [.int (nI (nthR (bG (vw S 0) lz r) k))]) (rest := [.int (nI (cnK (bG (vw S 0) lz r) (stP (sF S 0) (vw S 0) lz r) k))]) hF (c_X3_latest l G hp' mo dk lv lvl row (sR S) tm (sD S) (sF S 0) δ (vw S 0) ω hm hoT hoD hokd (nthR (bG (vw S 0) lz r) k) (by omega)) 1 gX3_isSame_X3_latest rfl (by decide +kernel) ⟨Nat.le_of_ble_eq_true rfl, Nat.le_of_ble_eq_true rfl⟩ hK0 hV0 hm.cmo rfl rfl rfl hl.1 rfl (Nat.le_of_ble_eq_true rfl) (by show _ ≤ 17; omega) (by show _ ≤ 1105; omega) dX3_isSame_141 ?_
            rcases hS9 : laS (sF S 0) δ (vw S 0) ω (nthR (bG (vw S 0) lz r) k) with _ | t
            · exact absurd hS9 (la_has (by omega) (by omega) hkh)
            · have hsw := hm.sw hokd (by omega) hS9
              have ht1 := hsw.1.2.2
              refine lv_iconst (v := nI 2) hx hb dX3_isSame_144 (by decide) ?_
              refine h_sl2 hsw.1 hx hb hK0 hV0 dX3_isSame_145 ?_
              refine lv_aload hx hb dX3_isSame_146 (lv_at hl 4 rfl) ?_
              refine lv_iload hx hb dX3_isSame_148 (lv_at hl 2 rfl) ?_
              refine h_aaldE (i := k) (hm.crow (l := lz) (r := r) (by omega) (by omega)).1 hx hb hK0 hV0 rfl rfl (by omega) (by omega) dX3_isSame_150 ?_
              refine lv_iconst (v := nI 2) hx hb dX3_isSame_151 (by decide) ?_
              refine h_sl2 ((hm.crow (l := lz) (r := r) (by omega) (by omega)).at (k := k) (by omega)) hx hb hK0 hV0 dX3_isSame_152 ?_
              refine h_icmp_ne (a := t.1) (b := ((ω lz r) (nthR (bG (vw S 0) lz r) k)).1) (tgt := 160) hx hb dX3_isSame_153 (by decide) (by omega) (by omega) (fun c_153 => ?_) (fun c_153 => ?_)
              · refine lv_iconst (v := nI 0) hx hb dX3_isSame_160 (by decide) ?_
                refine h_iaddN hx hb dX3_isSame_161 ?_
                refine lv_istore (lv' := [(9, .int (nI (cnK (bG (vw S 0) lz r) (stP (sF S 0) (vw S 0) lz r) k + 0))), (8, .int (nI (tbR (acP emR (bG (vw S 0) lz r) k) + 0))), (7, .int ((svR (acP emR (bG (vw S 0) lz r) k)) ||| (nI 1 <<< (nI ((nthR (bG (vw S 0) lz r) k) % 8) &&& 31)))), (10, .int (nI k)), (6, .ref (row lz r)), (5, .int (nI r)), (3, .int (nI (snA (fun r => szR (bG (vw S 0) lz r)) r))), (4, .int (nI (snA (fun r => tbR (bG (vw S 0) lz r)) r))), (2, .int (nI lz)), (0, .ref mo), (1, .ref (aX ad))]) hx hb dX3_isSame_162 hl (by decide) rfl (fun ls hl => ?_)
                refine lv_aload_n hx hb dX3_isSame_164 rfl (lv_at hl 10 rfl) ?_
                refine lv_iload_n hx hb dX3_isSame_165 rfl (lv_at hl 8 rfl) ?_
                refine lv_iload hx hb dX3_isSame_166 (lv_at hl 5 rfl) ?_
                refine lv_iload hx hb dX3_isSame_168 (lv_at hl 3 rfl) ?_
                refine h_rdV (As := [.int (nI lz), .int (nI r), .int (nI k)]) (rest := []) hF (c_X2_slip l G hp' ad S hC lz (by omega) r (by omega) k (by omega)) 3 gX3_isSame_X2_slip rfl (by decide +kernel) ⟨Nat.le_of_ble_eq_true rfl, Nat.le_of_ble_eq_true rfl⟩ hK0 hV0 hC.xo rfl rfl rfl hl.1 rfl (Nat.le_of_ble_eq_true rfl) (by show _ ≤ 17; omega) (by show _ ≤ 1105; omega) dX3_isSame_170 ?_
                refine lv_aload hx hb dX3_isSame_173 (lv_at hl 4 rfl) ?_
                refine lv_iload hx hb dX3_isSame_175 (lv_at hl 3 rfl) ?_
                refine h_aaldE (i := k) (hm.crow (l := lz) (r := r) (by omega) (by omega)).1 hx hb hK0 hV0 rfl rfl (by omega) (by omega) dX3_isSame_177 ?_
                refine h_rdSN (As := [.ref (((ω lz r) (nthR (bG (vw S 0) lz r) k)).2)]) (rest := [.int (toldR (gC S 0 lz r) (nthR (gC S 0 lz r) k))]) hF (c_L_told l G _ (((ω lz r) (nthR (bG (vw S 0) lz r) k)).2) (nthR (bG (vw S 0) lz r) k) (bG (vw S 0) lz r) (((ω lz r) (nthR (bG (vw S 0) lz r) k)).1) ((hm.crow (l := lz) (r := r) (by omega) (by omega)).at (k := k) (by omega)) ((hm.ok (l := lz) (r := r) (by omega) (by omega)).w (nth_at (by omega)).2.1)) 1 gX3_isSame_L_told_n72 rfl hK0.2.2.2.2.2.2.1 hw8 hw9 (by decide +kernel) ⟨Nat.le_of_ble_eq_true rfl, Nat.le_of_ble_eq_true rfl⟩ hK0 hV0 rfl hl.1 rfl (Nat.le_of_ble_eq_true rfl) (by show _ ≤ 17; omega) (by show _ ≤ 1105; omega) dX3_isSame_178 ?_
                refine lv_icmp_eq (tgt := 186) hx hb dX3_isSame_181 (by decide) (fun c_181 => ?_) (fun c_181 => absurd rfl c_181)
                refine lv_iinc (v := nI (k + 1)) (lv' := [(10, .int (nI (k + 1))), (9, .int (nI (cnK (bG (vw S 0) lz r) (stP (sF S 0) (vw S 0) lz r) k + 0))), (8, .int (nI (tbR (acP emR (bG (vw S 0) lz r) k) + 0))), (7, .int ((svR (acP emR (bG (vw S 0) lz r) k)) ||| (nI 1 <<< (nI ((nthR (bG (vw S 0) lz r) k) % 8) &&& 31)))), (6, .ref (row lz r)), (5, .int (nI r)), (3, .int (nI (snA (fun r => szR (bG (vw S 0) lz r)) r))), (4, .int (nI (snA (fun r => tbR (bG (vw S 0) lz r)) r))), (2, .int (nI lz)), (0, .ref mo), (1, .ref (aX ad))]) hx hb dX3_isSame_186 hl (k := 3) rfl (nI_add (k) 1) (by decide) rfl (fun ls hl => ?_)
                refine lv_goto (tgt := 86) hx hb dX3_isSame_189 (by decide) ?_
                have e8 := ap_tb hok9 (k := k) (by omega)
                rw [(if_10 hkw).2 c_120] at e8
                have e9 : cnK (bG (vw S 0) lz r) (stP (sF S 0) (vw S 0) lz r) (k + 1) = _ := cnK_n (p := (stP (sF S 0) (vw S 0) lz r)) ((st_iff hoT hoD (by omega) (by omega) hkh hS9).2 (fun z => c_153 z))
                exact ih86 (by omega) trivial ls (by show lv_has ls 12 [(10, .int (nI (k + 1))), (7, .int (svR (acP emR (bG (vw S 0) lz r) (k + 1)))), (8, .int (nI (tbR (acP emR (bG (vw S 0) lz r) (k + 1))))), (9, .int (nI (cnK (bG (vw S 0) lz r) (stP (sF S 0) (vw S 0) lz r) (k + 1)))), (6, .ref (row lz r)), (5, .int (nI r)), (3, .int (nI (snA (fun r => szR (bG (vw S 0) lz r)) r))), (4, .int (nI (snA (fun r => tbR (bG (vw S 0) lz r)) r))), (2, .int (nI lz)), (0, .ref mo), (1, .ref (aX ad))]; rw [← ap_sv hok9 (k := k) (by omega), e8, e9]; exact lv_sub hl [0, 3, 2, 1, 4, 5, 6, 7, 8, 9, 10] rfl)
              · refine lv_iconst (v := nI 1) hx hb dX3_isSame_156 (by decide) ?_
                refine lv_goto (tgt := 161) hx hb dX3_isSame_157 (by decide) ?_
                refine h_iaddN hx hb dX3_isSame_161 ?_
                refine lv_istore (lv' := [(9, .int (nI (cnK (bG (vw S 0) lz r) (stP (sF S 0) (vw S 0) lz r) k + 1))), (8, .int (nI (tbR (acP emR (bG (vw S 0) lz r) k) + 0))), (7, .int ((svR (acP emR (bG (vw S 0) lz r) k)) ||| (nI 1 <<< (nI ((nthR (bG (vw S 0) lz r) k) % 8) &&& 31)))), (10, .int (nI k)), (6, .ref (row lz r)), (5, .int (nI r)), (3, .int (nI (snA (fun r => szR (bG (vw S 0) lz r)) r))), (4, .int (nI (snA (fun r => tbR (bG (vw S 0) lz r)) r))), (2, .int (nI lz)), (0, .ref mo), (1, .ref (aX ad))]) hx hb dX3_isSame_162 hl (by decide) rfl (fun ls hl => ?_)
                refine lv_aload_n hx hb dX3_isSame_164 rfl (lv_at hl 10 rfl) ?_
                refine lv_iload_n hx hb dX3_isSame_165 rfl (lv_at hl 8 rfl) ?_
                refine lv_iload hx hb dX3_isSame_166 (lv_at hl 5 rfl) ?_
                refine lv_iload hx hb dX3_isSame_168 (lv_at hl 3 rfl) ?_
                refine h_rdV (As := [.int (nI lz), .int (nI r), .int (nI k)]) (rest := []) hF (c_X2_slip l G hp' ad S hC lz (by omega) r (by omega) k (by omega)) 3 gX3_isSame_X2_slip rfl (by decide +kernel) ⟨Nat.le_of_ble_eq_true rfl, Nat.le_of_ble_eq_true rfl⟩ hK0 hV0 hC.xo rfl rfl rfl hl.1 rfl (Nat.le_of_ble_eq_true rfl) (by show _ ≤ 17; omega) (by show _ ≤ 1105; omega) dX3_isSame_170 ?_
                refine lv_aload hx hb dX3_isSame_173 (lv_at hl 4 rfl) ?_
                refine lv_iload hx hb dX3_isSame_175 (lv_at hl 3 rfl) ?_
                refine h_aaldE (i := k) (hm.crow (l := lz) (r := r) (by omega) (by omega)).1 hx hb hK0 hV0 rfl rfl (by omega) (by omega) dX3_isSame_177 ?_
                refine h_rdSN (As := [.ref (((ω lz r) (nthR (bG (vw S 0) lz r) k)).2)]) (rest := [.int (toldR (gC S 0 lz r) (nthR (gC S 0 lz r) k))]) hF (c_L_told l G _ (((ω lz r) (nthR (bG (vw S 0) lz r) k)).2) (nthR (bG (vw S 0) lz r) k) (bG (vw S 0) lz r) (((ω lz r) (nthR (bG (vw S 0) lz r) k)).1) ((hm.crow (l := lz) (r := r) (by omega) (by omega)).at (k := k) (by omega)) ((hm.ok (l := lz) (r := r) (by omega) (by omega)).w (nth_at (by omega)).2.1)) 1 gX3_isSame_L_told_n72 rfl hK0.2.2.2.2.2.2.1 hw8 hw9 (by decide +kernel) ⟨Nat.le_of_ble_eq_true rfl, Nat.le_of_ble_eq_true rfl⟩ hK0 hV0 rfl hl.1 rfl (Nat.le_of_ble_eq_true rfl) (by show _ ≤ 17; omega) (by show _ ≤ 1105; omega) dX3_isSame_178 ?_
                refine lv_icmp_eq (tgt := 186) hx hb dX3_isSame_181 (by decide) (fun c_181 => ?_) (fun c_181 => absurd rfl c_181)
                refine lv_iinc (v := nI (k + 1)) (lv' := [(10, .int (nI (k + 1))), (9, .int (nI (cnK (bG (vw S 0) lz r) (stP (sF S 0) (vw S 0) lz r) k + 1))), (8, .int (nI (tbR (acP emR (bG (vw S 0) lz r) k) + 0))), (7, .int ((svR (acP emR (bG (vw S 0) lz r) k)) ||| (nI 1 <<< (nI ((nthR (bG (vw S 0) lz r) k) % 8) &&& 31)))), (6, .ref (row lz r)), (5, .int (nI r)), (3, .int (nI (snA (fun r => szR (bG (vw S 0) lz r)) r))), (4, .int (nI (snA (fun r => tbR (bG (vw S 0) lz r)) r))), (2, .int (nI lz)), (0, .ref mo), (1, .ref (aX ad))]) hx hb dX3_isSame_186 hl (k := 3) rfl (nI_add (k) 1) (by decide) rfl (fun ls hl => ?_)
                refine lv_goto (tgt := 86) hx hb dX3_isSame_189 (by decide) ?_
                have e8 := ap_tb hok9 (k := k) (by omega)
                rw [(if_10 hkw).2 c_120] at e8
                have e9 : cnK (bG (vw S 0) lz r) (stP (sF S 0) (vw S 0) lz r) (k + 1) = _ := cnK_y (p := (stP (sF S 0) (vw S 0) lz r)) ((st_iff hoT hoD (by omega) (by omega) hkh hS9).1 c_153)
                exact ih86 (by omega) trivial ls (by show lv_has ls 12 [(10, .int (nI (k + 1))), (7, .int (svR (acP emR (bG (vw S 0) lz r) (k + 1)))), (8, .int (nI (tbR (acP emR (bG (vw S 0) lz r) (k + 1))))), (9, .int (nI (cnK (bG (vw S 0) lz r) (stP (sF S 0) (vw S 0) lz r) (k + 1)))), (6, .ref (row lz r)), (5, .int (nI r)), (3, .int (nI (snA (fun r => szR (bG (vw S 0) lz r)) r))), (4, .int (nI (snA (fun r => tbR (bG (vw S 0) lz r)) r))), (2, .int (nI lz)), (0, .ref mo), (1, .ref (aX ad))]; rw [← ap_sv hok9 (k := k) (by omega), e8, e9]; exact lv_sub hl [0, 3, 2, 1, 4, 5, 6, 7, 8, 9, 10] rfl)
          · refine lv_iconst (v := nI 1) hx hb dX3_isSame_123 (by decide) ?_
            refine lv_goto (tgt := 128) hx hb dX3_isSame_124 (by decide) ?_
            refine h_iaddN hx hb dX3_isSame_128 ?_
            refine lv_istore (lv' := [(8, .int (nI (tbR (acP emR (bG (vw S 0) lz r) k) + 1))), (7, .int ((svR (acP emR (bG (vw S 0) lz r) k)) ||| (nI 1 <<< (nI ((nthR (bG (vw S 0) lz r) k) % 8) &&& 31)))), (10, .int (nI k)), (9, .int (nI (cnK (bG (vw S 0) lz r) (stP (sF S 0) (vw S 0) lz r) k))), (6, .ref (row lz r)), (5, .int (nI r)), (3, .int (nI (snA (fun r => szR (bG (vw S 0) lz r)) r))), (4, .int (nI (snA (fun r => tbR (bG (vw S 0) lz r)) r))), (2, .int (nI lz)), (0, .ref mo), (1, .ref (aX ad))]) hx hb dX3_isSame_129 hl (by decide) rfl (fun ls hl => ?_)
            refine lv_iload hx hb dX3_isSame_131 (lv_at hl 3 rfl) ?_
            refine lv_aload_n hx hb dX3_isSame_133 rfl (lv_at hl 9 rfl) ?_
            refine lv_aload hx hb dX3_isSame_134 (lv_at hl 4 rfl) ?_
            refine lv_iload hx hb dX3_isSame_136 (lv_at hl 2 rfl) ?_
            refine h_aaldE (i := k) (hm.crow (l := lz) (r := r) (by omega) (by omega)).1 hx hb hK0 hV0 rfl rfl (by omega) (by omega) dX3_isSame_138 ?_
            refine lv_iconst (v := nI 0) hx hb dX3_isSame_139 (by decide) ?_
            refine h_sl0 ((hm.crow (l := lz) (r := r) (by omega) (by omega)).at (k := k) (by omega)) hx hb hK0 hV0 dX3_isSame_140 ?_
            refine h_rdV (As := [.int (nI (nthR (bG (vw S 0) lz r) k))]) (rest := [.int (nI (cnK (bG (vw S 0) lz r) (stP (sF S 0) (vw S 0) lz r) k))]) hF (c_X3_latest l G hp' mo dk lv lvl row (sR S) tm (sD S) (sF S 0) δ (vw S 0) ω hm hoT hoD hokd (nthR (bG (vw S 0) lz r) k) (by omega)) 1 gX3_isSame_X3_latest rfl (by decide +kernel) ⟨Nat.le_of_ble_eq_true rfl, Nat.le_of_ble_eq_true rfl⟩ hK0 hV0 hm.cmo rfl rfl rfl hl.1 rfl (Nat.le_of_ble_eq_true rfl) (by show _ ≤ 17; omega) (by show _ ≤ 1105; omega) dX3_isSame_141 ?_
            rcases hS9 : laS (sF S 0) δ (vw S 0) ω (nthR (bG (vw S 0) lz r) k) with _ | t
            · exact absurd hS9 (la_has (by omega) (by omega) hkh)
            · have hsw := hm.sw hokd (by omega) hS9
              have ht1 := hsw.1.2.2
              refine lv_iconst (v := nI 2) hx hb dX3_isSame_144 (by decide) ?_
              refine h_sl2 hsw.1 hx hb hK0 hV0 dX3_isSame_145 ?_
              refine lv_aload hx hb dX3_isSame_146 (lv_at hl 4 rfl) ?_
              refine lv_iload hx hb dX3_isSame_148 (lv_at hl 2 rfl) ?_
              refine h_aaldE (i := k) (hm.crow (l := lz) (r := r) (by omega) (by omega)).1 hx hb hK0 hV0 rfl rfl (by omega) (by omega) dX3_isSame_150 ?_
              refine lv_iconst (v := nI 2) hx hb dX3_isSame_151 (by decide) ?_
              refine h_sl2 ((hm.crow (l := lz) (r := r) (by omega) (by omega)).at (k := k) (by omega)) hx hb hK0 hV0 dX3_isSame_152 ?_
              refine h_icmp_ne (a := t.1) (b := ((ω lz r) (nthR (bG (vw S 0) lz r) k)).1) (tgt := 160) hx hb dX3_isSame_153 (by decide) (by omega) (by omega) (fun c_153 => ?_) (fun c_153 => ?_)
              · refine lv_iconst (v := nI 0) hx hb dX3_isSame_160 (by decide) ?_
                refine h_iaddN hx hb dX3_isSame_161 ?_
                refine lv_istore (lv' := [(9, .int (nI (cnK (bG (vw S 0) lz r) (stP (sF S 0) (vw S 0) lz r) k + 0))), (8, .int (nI (tbR (acP emR (bG (vw S 0) lz r) k) + 1))), (7, .int ((svR (acP emR (bG (vw S 0) lz r) k)) ||| (nI 1 <<< (nI ((nthR (bG (vw S 0) lz r) k) % 8) &&& 31)))), (10, .int (nI k)), (6, .ref (row lz r)), (5, .int (nI r)), (3, .int (nI (snA (fun r => szR (bG (vw S 0) lz r)) r))), (4, .int (nI (snA (fun r => tbR (bG (vw S 0) lz r)) r))), (2, .int (nI lz)), (0, .ref mo), (1, .ref (aX ad))]) hx hb dX3_isSame_162 hl (by decide) rfl (fun ls hl => ?_)
                refine lv_aload_n hx hb dX3_isSame_164 rfl (lv_at hl 10 rfl) ?_
                refine lv_iload_n hx hb dX3_isSame_165 rfl (lv_at hl 8 rfl) ?_
                refine lv_iload hx hb dX3_isSame_166 (lv_at hl 5 rfl) ?_
                refine lv_iload hx hb dX3_isSame_168 (lv_at hl 3 rfl) ?_
                refine h_rdV (As := [.int (nI lz), .int (nI r), .int (nI k)]) (rest := []) hF (c_X2_slip l G hp' ad S hC lz (by omega) r (by omega) k (by omega)) 3 gX3_isSame_X2_slip rfl (by decide +kernel) ⟨Nat.le_of_ble_eq_true rfl, Nat.le_of_ble_eq_true rfl⟩ hK0 hV0 hC.xo rfl rfl rfl hl.1 rfl (Nat.le_of_ble_eq_true rfl) (by show _ ≤ 17; omega) (by show _ ≤ 1105; omega) dX3_isSame_170 ?_
                refine lv_aload hx hb dX3_isSame_173 (lv_at hl 4 rfl) ?_
                refine lv_iload hx hb dX3_isSame_175 (lv_at hl 3 rfl) ?_
                refine h_aaldE (i := k) (hm.crow (l := lz) (r := r) (by omega) (by omega)).1 hx hb hK0 hV0 rfl rfl (by omega) (by omega) dX3_isSame_177 ?_
                refine h_rdSN (As := [.ref (((ω lz r) (nthR (bG (vw S 0) lz r) k)).2)]) (rest := [.int (toldR (gC S 0 lz r) (nthR (gC S 0 lz r) k))]) hF (c_L_told l G _ (((ω lz r) (nthR (bG (vw S 0) lz r) k)).2) (nthR (bG (vw S 0) lz r) k) (bG (vw S 0) lz r) (((ω lz r) (nthR (bG (vw S 0) lz r) k)).1) ((hm.crow (l := lz) (r := r) (by omega) (by omega)).at (k := k) (by omega)) ((hm.ok (l := lz) (r := r) (by omega) (by omega)).w (nth_at (by omega)).2.1)) 1 gX3_isSame_L_told_n72 rfl hK0.2.2.2.2.2.2.1 hw8 hw9 (by decide +kernel) ⟨Nat.le_of_ble_eq_true rfl, Nat.le_of_ble_eq_true rfl⟩ hK0 hV0 rfl hl.1 rfl (Nat.le_of_ble_eq_true rfl) (by show _ ≤ 17; omega) (by show _ ≤ 1105; omega) dX3_isSame_178 ?_
                refine lv_icmp_eq (tgt := 186) hx hb dX3_isSame_181 (by decide) (fun c_181 => ?_) (fun c_181 => absurd rfl c_181)
                refine lv_iinc (v := nI (k + 1)) (lv' := [(10, .int (nI (k + 1))), (9, .int (nI (cnK (bG (vw S 0) lz r) (stP (sF S 0) (vw S 0) lz r) k + 0))), (8, .int (nI (tbR (acP emR (bG (vw S 0) lz r) k) + 1))), (7, .int ((svR (acP emR (bG (vw S 0) lz r) k)) ||| (nI 1 <<< (nI ((nthR (bG (vw S 0) lz r) k) % 8) &&& 31)))), (6, .ref (row lz r)), (5, .int (nI r)), (3, .int (nI (snA (fun r => szR (bG (vw S 0) lz r)) r))), (4, .int (nI (snA (fun r => tbR (bG (vw S 0) lz r)) r))), (2, .int (nI lz)), (0, .ref mo), (1, .ref (aX ad))]) hx hb dX3_isSame_186 hl (k := 3) rfl (nI_add (k) 1) (by decide) rfl (fun ls hl => ?_)
                refine lv_goto (tgt := 86) hx hb dX3_isSame_189 (by decide) ?_
                have e8 := ap_tb hok9 (k := k) (by omega)
                rw [(if_10 hkw).1 c_120] at e8
                have e9 : cnK (bG (vw S 0) lz r) (stP (sF S 0) (vw S 0) lz r) (k + 1) = _ := cnK_n (p := (stP (sF S 0) (vw S 0) lz r)) ((st_iff hoT hoD (by omega) (by omega) hkh hS9).2 (fun z => c_153 z))
                exact ih86 (by omega) trivial ls (by show lv_has ls 12 [(10, .int (nI (k + 1))), (7, .int (svR (acP emR (bG (vw S 0) lz r) (k + 1)))), (8, .int (nI (tbR (acP emR (bG (vw S 0) lz r) (k + 1))))), (9, .int (nI (cnK (bG (vw S 0) lz r) (stP (sF S 0) (vw S 0) lz r) (k + 1)))), (6, .ref (row lz r)), (5, .int (nI r)), (3, .int (nI (snA (fun r => szR (bG (vw S 0) lz r)) r))), (4, .int (nI (snA (fun r => tbR (bG (vw S 0) lz r)) r))), (2, .int (nI lz)), (0, .ref mo), (1, .ref (aX ad))]; rw [← ap_sv hok9 (k := k) (by omega), e8, e9]; exact lv_sub hl [0, 3, 2, 1, 4, 5, 6, 7, 8, 9, 10] rfl)
              · refine lv_iconst (v := nI 1) hx hb dX3_isSame_156 (by decide) ?_
                refine lv_goto (tgt := 161) hx hb dX3_isSame_157 (by decide) ?_
                refine h_iaddN hx hb dX3_isSame_161 ?_
                refine lv_istore (lv' := [(9, .int (nI (cnK (bG (vw S 0) lz r) (stP (sF S 0) (vw S 0) lz r) k + 1))), (8, .int (nI (tbR (acP emR (bG (vw S 0) lz r) k) + 1))), (7, .int ((svR (acP emR (bG (vw S 0) lz r) k)) ||| (nI 1 <<< (nI ((nthR (bG (vw S 0) lz r) k) % 8) &&& 31)))), (10, .int (nI k)), (6, .ref (row lz r)), (5, .int (nI r)), (3, .int (nI (snA (fun r => szR (bG (vw S 0) lz r)) r))), (4, .int (nI (snA (fun r => tbR (bG (vw S 0) lz r)) r))), (2, .int (nI lz)), (0, .ref mo), (1, .ref (aX ad))]) hx hb dX3_isSame_162 hl (by decide) rfl (fun ls hl => ?_)
                refine lv_aload_n hx hb dX3_isSame_164 rfl (lv_at hl 10 rfl) ?_
                refine lv_iload_n hx hb dX3_isSame_165 rfl (lv_at hl 8 rfl) ?_
                refine lv_iload hx hb dX3_isSame_166 (lv_at hl 5 rfl) ?_
                refine lv_iload hx hb dX3_isSame_168 (lv_at hl 3 rfl) ?_
                refine h_rdV (As := [.int (nI lz), .int (nI r), .int (nI k)]) (rest := []) hF (c_X2_slip l G hp' ad S hC lz (by omega) r (by omega) k (by omega)) 3 gX3_isSame_X2_slip rfl (by decide +kernel) ⟨Nat.le_of_ble_eq_true rfl, Nat.le_of_ble_eq_true rfl⟩ hK0 hV0 hC.xo rfl rfl rfl hl.1 rfl (Nat.le_of_ble_eq_true rfl) (by show _ ≤ 17; omega) (by show _ ≤ 1105; omega) dX3_isSame_170 ?_
                refine lv_aload hx hb dX3_isSame_173 (lv_at hl 4 rfl) ?_
                refine lv_iload hx hb dX3_isSame_175 (lv_at hl 3 rfl) ?_
                refine h_aaldE (i := k) (hm.crow (l := lz) (r := r) (by omega) (by omega)).1 hx hb hK0 hV0 rfl rfl (by omega) (by omega) dX3_isSame_177 ?_
                refine h_rdSN (As := [.ref (((ω lz r) (nthR (bG (vw S 0) lz r) k)).2)]) (rest := [.int (toldR (gC S 0 lz r) (nthR (gC S 0 lz r) k))]) hF (c_L_told l G _ (((ω lz r) (nthR (bG (vw S 0) lz r) k)).2) (nthR (bG (vw S 0) lz r) k) (bG (vw S 0) lz r) (((ω lz r) (nthR (bG (vw S 0) lz r) k)).1) ((hm.crow (l := lz) (r := r) (by omega) (by omega)).at (k := k) (by omega)) ((hm.ok (l := lz) (r := r) (by omega) (by omega)).w (nth_at (by omega)).2.1)) 1 gX3_isSame_L_told_n72 rfl hK0.2.2.2.2.2.2.1 hw8 hw9 (by decide +kernel) ⟨Nat.le_of_ble_eq_true rfl, Nat.le_of_ble_eq_true rfl⟩ hK0 hV0 rfl hl.1 rfl (Nat.le_of_ble_eq_true rfl) (by show _ ≤ 17; omega) (by show _ ≤ 1105; omega) dX3_isSame_178 ?_
                refine lv_icmp_eq (tgt := 186) hx hb dX3_isSame_181 (by decide) (fun c_181 => ?_) (fun c_181 => absurd rfl c_181)
                refine lv_iinc (v := nI (k + 1)) (lv' := [(10, .int (nI (k + 1))), (9, .int (nI (cnK (bG (vw S 0) lz r) (stP (sF S 0) (vw S 0) lz r) k + 1))), (8, .int (nI (tbR (acP emR (bG (vw S 0) lz r) k) + 1))), (7, .int ((svR (acP emR (bG (vw S 0) lz r) k)) ||| (nI 1 <<< (nI ((nthR (bG (vw S 0) lz r) k) % 8) &&& 31)))), (6, .ref (row lz r)), (5, .int (nI r)), (3, .int (nI (snA (fun r => szR (bG (vw S 0) lz r)) r))), (4, .int (nI (snA (fun r => tbR (bG (vw S 0) lz r)) r))), (2, .int (nI lz)), (0, .ref mo), (1, .ref (aX ad))]) hx hb dX3_isSame_186 hl (k := 3) rfl (nI_add (k) 1) (by decide) rfl (fun ls hl => ?_)
                refine lv_goto (tgt := 86) hx hb dX3_isSame_189 (by decide) ?_
                have e8 := ap_tb hok9 (k := k) (by omega)
                rw [(if_10 hkw).1 c_120] at e8
                have e9 : cnK (bG (vw S 0) lz r) (stP (sF S 0) (vw S 0) lz r) (k + 1) = _ := cnK_y (p := (stP (sF S 0) (vw S 0) lz r)) ((st_iff hoT hoD (by omega) (by omega) hkh hS9).1 c_153)
                exact ih86 (by omega) trivial ls (by show lv_has ls 12 [(10, .int (nI (k + 1))), (7, .int (svR (acP emR (bG (vw S 0) lz r) (k + 1)))), (8, .int (nI (tbR (acP emR (bG (vw S 0) lz r) (k + 1))))), (9, .int (nI (cnK (bG (vw S 0) lz r) (stP (sF S 0) (vw S 0) lz r) (k + 1)))), (6, .ref (row lz r)), (5, .int (nI r)), (3, .int (nI (snA (fun r => szR (bG (vw S 0) lz r)) r))), (4, .int (nI (snA (fun r => tbR (bG (vw S 0) lz r)) r))), (2, .int (nI lz)), (0, .ref mo), (1, .ref (aX ad))]; rw [← ap_sv hok9 (k := k) (by omega), e8, e9]; exact lv_sub hl [0, 3, 2, 1, 4, 5, 6, 7, 8, 9, 10] rfl)
  · refine lv_aload_n hx hb dX3_isSame_11 rfl (lv_at hl 2 rfl) ?_
    refine lv_iload_n hx hb dX3_isSame_12 rfl (lv_at hl 0 rfl) ?_
    refine h_rdV (As := [.int (nI k)]) (rest := []) hF (c_X2_desk l G hp ad S hC k (by omega)) 1 gX3_isSame_X2_desk rfl (by decide +kernel) ⟨Nat.le_of_ble_eq_true rfl, Nat.le_of_ble_eq_true rfl⟩ hK0 hV0 hC.xo rfl rfl rfl hl.1 rfl (Nat.le_of_ble_eq_true rfl) (by show _ ≤ 17; omega) (by show _ ≤ 1105; omega) dX3_isSame_13 ?_
    refine lv_aload_n hx hb dX3_isSame_16 rfl (lv_at hl 1 rfl) ?_
    refine h_get (v := .ref dk) hx hb hts hi3 hown hK0 hV0 hm.cmo rfl 5 (by decide) hw0 rfl dX3_isSame_17 ?_
    refine lv_iload_n hx hb dX3_isSame_20 rfl (lv_at hl 0 rfl) ?_
    refine h_aaldE (i := k) hm.cdk.1 hx hb hK0 hV0 rfl rfl (by omega) (by omega) dX3_isSame_21 ?_
    refine h_rdSN (As := [.ref ((δ (nthR (sF S 0) k)).2)]) (rest := [.int (toldR (sF S 0) (nthR (sF S 0) k))]) hF (c_L_told l G _ ((δ (nthR (sF S 0) k)).2) (nthR (sF S 0) k) (sF S 0) ((δ (nthR (sF S 0) k)).1) (hm.cdk.at (k := k) (by omega)) (hokd.w (nth_at (by omega)).2.1)) 1 gX3_isSame_L_told_n72 rfl hK0.2.2.2.2.2.2.1 hw8 hw9 (by decide +kernel) ⟨Nat.le_of_ble_eq_true rfl, Nat.le_of_ble_eq_true rfl⟩ hK0 hV0 rfl hl.1 rfl (Nat.le_of_ble_eq_true rfl) (by show _ ≤ 17; omega) (by show _ ≤ 1105; omega) dX3_isSame_22 ?_
    refine lv_icmp_eq (tgt := 30) hx hb dX3_isSame_25 (by decide) (fun c_25 => ?_) (fun c_25 => absurd rfl c_25)
    refine lv_iinc (v := nI (k + 1)) (lv' := [(2, .int (nI (k + 1))), (0, .ref mo), (1, .ref (aX ad))]) hx hb dX3_isSame_30 hl (k := 0) rfl (nI_add (k) 1) (by decide) rfl (fun ls hl => ?_)
    refine lv_goto (tgt := 2) hx hb dX3_isSame_33 (by decide) ?_
    exact ih2 (by omega) trivial ls (lv_sub hl [0, 1, 2] rfl)
