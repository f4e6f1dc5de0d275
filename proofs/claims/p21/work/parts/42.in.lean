/-! cell, the Sim made -/
set_option maxHeartbeats 1000000 in
set_option maxRecDepth 100000 in
theorem c_L_cell (l : Launch) (b L : Nat) (xs : Nat → Int32) (hL : L ≤ 260) (k : Nat) (hk : k < 2 ^ 20) : Met l yL_cell wsL_cell { frames := 0, cells := 0, slots := 0, locals := 0 } (hPx b L xs [.ref b, .int (nI k)]) (hR (some (.int (clX L xs k)))) 0 0 (fun _ => False) := by
  refine Met.ofW (cc := cL_cell) (maxL := 2) (ret := (some .int)) (by decide) rfl ?_
  intro p e s m args below meth c s₁ B hml hv
  obtain ⟨rfl, hX⟩ := hv
  have hx := B.exec
  have hb := B.bytes
  have hr := B.returns
  have hts := atoms_spec (ws := wsL_cell) B.pre
  have hown : s.vm.findClass RL = some m.cls := findClass_of_methodNamed B.named
  have hlocks := B.notSynchronized
  have hw0 := hts (.constant RL 8 (790386105)) (by decide +kernel)
  have hbl : b < s.heap.size := by
    obtain ⟨scr, h1, -⟩ := hX
    exact (Array.getElem?_eq_some_iff.mp h1).1
  have hS : va_S (fun _ : Nat => False) s.heap s.heap [] := va_S.rf
  have hl := lv_entry ([.ref b, .int (nI k)]) (n := 2) (Nat.le_of_ble_eq_true rfl)
  rw [lg_entry_eq]
  generalize (lg_sl ([.ref b, .int (nI k)]) ++ List.replicate (2 - (lg_sl ([.ref b, .int (nI k)])).length) Slot.unset).toArray = ls at hl ⊢
  replace hl : lv_has ls 2 [(0, .ref b), (1, .int (nI k))] := hl
  refine lv_iload_n hx hb dL_cell_0 rfl (lv_at hl 1 rfl) ?_
  refine lv_aload_n hx hb dL_cell_1 rfl (lv_at hl 0 rfl) ?_
  refine va_slen hx hb hX hbl (fun h => h) hS dL_cell_2 ?_
  refine h_icmp_ge (a := k) (b := L) (tgt := 12) hx hb dL_cell_3 (by decide) (by omega) (by omega) (fun c_3 => ?_) (fun c_3 => ?_)
  · refine lv_ldc (v := 790386105) hx hb hown hw0 dL_cell_12 ?_
    refine lv_iload_n hx hb dL_cell_14 rfl (lv_at hl 1 rfl) ?_
    refine lv_iconst (v := nI 3) hx hb dL_cell_15 (by decide) ?_
    refine h_iaddN hx hb dL_cell_16 ?_
    refine lv_imul hx hb dL_cell_17 ?_
    exact h_iretR hx hb hr hlocks (if_neg (by omega)).symm dL_cell_18
  · refine lv_aload_n hx hb dL_cell_6 rfl (lv_at hl 0 rfl) ?_
    refine lv_iload_n hx hb dL_cell_7 rfl (lv_at hl 1 rfl) ?_
    refine va_sld hx hb hX hbl (fun h => h) hS (vp_in_nI (by omega) (by omega)) dL_cell_8 ?_
    refine lv_goto (tgt := 18) hx hb dL_cell_9 (by decide) ?_
    exact h_iretR hx hb hr hlocks (by rw [nI_clamp (show k < 2 ^ 31 by omega)]; exact (if_pos (by omega)).symm) dL_cell_18

def wsI : List Cond := wsX3_init ++ [.classLink RX3 19 "[[[I"]
set_option maxHeartbeats 1000000 in
set_option maxRecDepth 100000 in
theorem c_X3_init (l : Launch) (G : hG) (A : Nat → Prop) (hp : HP) (mo : Nat) (he : hp mo = some (eO 3 [.int 0, .int 0, .int 0, .int 0, .int 0, .null, .null])) (hA0 : hIn A hp) : hWr l yX3_init wsI 1 21 6 390 G A hp [.ref mo] (fun ro hp' => ro = none ∧ (∃ dk lv lvl row, sA mo dk lv lvl row 4 0 0 emR (fun _ => (0, 0)) V0 (fun _ _ _ => (0, 0)) hp') ∧ exH hp hp') := by
  refine Met.ofW (cc := cX3_init) (maxL := 1) (ret := none) (by decide) rfl ?_
  intro p e s m args below meth c s₁ B hml hv
  obtain ⟨rfl, hV0, hK0, hA⟩ := hv
  have hx := B.exec
  have hb := B.bytes
  have hr := B.returns
  have hts := atoms_spec (ws := wsI) B.pre
  have hown : s.vm.findClass RX3 = some m.cls := findClass_of_methodNamed B.named
  have hlocks := B.notSynchronized
  have hin0 : meth.name = "<init>" := (name_of_methodNamed B.named B.method).1
  have hw1 := hts (.methodLink RX3 1 objectInit) (by decide +kernel)
  have hw2 := hts (.instanceMethod objectInit) (by decide +kernel)
  have hw3 := hts (.code objectInit ⟨#[0xb1]⟩ 1 none) (by decide +kernel)
  have hf7 := hts (.fieldLink RX3 7 "SlipLevelsLaw$Sim" "room" "I") (by decide +kernel)
  have hf15 := hts (.fieldLink RX3 15 "SlipLevelsLaw$Sim" "desk" "[[I") (by decide +kernel)
  have hf22 := hts (.fieldLink RX3 22 "SlipLevelsLaw$Sim" "levels" "[[[[I") (by decide +kernel)
  have hc13 := hts (.classLink RX3 13 "[I") (by decide +kernel)
  have hc19 := hts (.classLink RX3 19 "[[[I") (by decide +kernel)
  have hc21 := hts (.classLink RX3 21 "[[I") (by decide +kernel)
  have hi3 : ∀ w ∈ u_ws RX3 TX3 7, w ∈ wsI := by
    intro w h
    unfold wsI wsX3_init
    simp only [List.mem_cons, List.mem_append, h, true_or, or_true]
  have hS : va_S A s.heap s.heap [] := va_S.rf
  have hl := lv_entry ([.ref mo]) (n := 1) (Nat.le_of_ble_eq_true rfl)
  rw [lg_entry_eq]
  generalize (lg_sl ([.ref mo]) ++ List.replicate (1 - (lg_sl ([.ref mo])).length) Slot.unset).toArray = ls at hl ⊢
  replace hl : lv_has ls 1 [(0, .ref mo)] := hl
  refine lv_aload_n hx hb dX3_init_0 rfl (lv_at hl 0 rfl) ?_
  refine W.objInit hx hb hown hw1 hw2 hw3 rfl (by rw [hml]; exact hl.1) rfl dX3_init_1 (Nat.le_of_ble_eq_true rfl) (Nat.le_of_ble_eq_true rfl) ?_
  refine W.eq (g2 := F0 m 4 ls []) rfl ?_
  refine lv_aload_n hx hb dX3_init_4 rfl (lv_at hl 0 rfl) ?_
  refine lv_iconst (v := nI 4) hx hb dX3_init_5 (by decide) ?_
  refine h_put (v := .int (nI 4)) hx hb hts hi3 tyX3 tyX3_ok nmX3 hown hK0 hV0 hA0 hS he rfl 0 (by decide) hf7 rfl (by rfl) (by rfl) (Nat.le_of_ble_eq_true rfl) dX3_init_6 (fun H locs hV0 hA0 hS => ?_)
  have hE : exH hp (hput hp mo (eO 3 [.int (nI 4), .int 0, .int 0, .int 0, .int 0, .null, .null])) := exH.rf.set he rfl
  have he1 : (hput hp mo (eO 3 [.int (nI 4), .int 0, .int 0, .int 0, .int 0, .null, .null])) mo = some (eO 3 [.int (nI 4), .int 0, .int 0, .int 0, .int 0, .null, .null]) := hput_s _ _ _
  replace hV0 : hV G (hput hp mo (eO 3 [.int (nI 4), .int 0, .int 0, .int 0, .int 0, .null, .null])) H := hV0
  replace hA0 : hIn A (hput hp mo (eO 3 [.int (nI 4), .int 0, .int 0, .int 0, .int 0, .null, .null])) := hA0
  generalize hput hp mo (eO 3 [.int (nI 4), .int 0, .int 0, .int 0, .int 0, .null, .null]) = hp1 at hV0 hA0 hE he1
  refine lv_aload_n hx hb dX3_init_9 rfl (lv_at hl 0 rfl) ?_
  refine lv_iconst (v := nI 0) hx hb dX3_init_10 (by decide) ?_
  refine h_newqA (t := 3) (ty := .int) hx hb hK0.2.2.1 rfl hown hc13 hK0 hV0 hA0 hS hA (n := 0) (by omega) (Nat.le_of_ble_eq_true rfl) (Nat.le_of_ble_eq_true rfl) dX3_init_11 (fun dk H hqd hV0 hA0 hS => ?_)
  have hle : leH hp1 (hput hp1 dk (eQ 3 0 (fun _ => none))) := leH.rf.new hqd
  have hrd : rn (hput hp1 dk (eQ 3 0 (fun _ => none))) dk emR (fun _ => (0, 0)) := rn_new (hput_s _ _ _)
  have he2 := hle _ _ he1
  replace hE := hE.tr hle.x
  generalize hput hp1 dk (eQ 3 0 (fun _ => none)) = hp2 at hV0 hA0 hE he2 hrd hle
  refine h_put (v := .ref dk) hx hb hts hi3 tyX3 tyX3_ok nmX3 hown hK0 hV0 hA0 hS he2 rfl 5 (by decide) hf15 rfl (by rfl) (by rfl) (Nat.le_of_ble_eq_true rfl) dX3_init_14 (fun H locs hV0 hA0 hS => ?_)
  have hE2 : exH hp2 (hput hp2 mo (eO 3 [.int (nI 4), .int 0, .int 0, .int 0, .int 0, .ref dk, .null])) := exH.rf.set he2 rfl
  have he3 : (hput hp2 mo (eO 3 [.int (nI 4), .int 0, .int 0, .int 0, .int 0, .ref dk, .null])) mo = some (eO 3 [.int (nI 4), .int 0, .int 0, .int 0, .int 0, .ref dk, .null]) := hput_s _ _ _
  replace hE := hE.tr hE2
  replace hrd := hrd.mv hE2
  replace hV0 : hV G (hput hp2 mo (eO 3 [.int (nI 4), .int 0, .int 0, .int 0, .int 0, .ref dk, .null])) H := hV0
  replace hA0 : hIn A (hput hp2 mo (eO 3 [.int (nI 4), .int 0, .int 0, .int 0, .int 0, .ref dk, .null])) := hA0
  generalize hput hp2 mo (eO 3 [.int (nI 4), .int 0, .int 0, .int 0, .int 0, .ref dk, .null]) = hp3 at hV0 hA0 hE hE2 he3 hrd
  refine lv_aload_n hx hb dX3_init_17 rfl (lv_at hl 0 rfl) ?_
  refine lv_iconst (v := nI 4) hx hb dX3_init_18 (by decide) ?_
  refine h_newqA (t := 5) (ty := .array (.array .int)) hx hb hK0.2.2.2.2.1 rfl hown hc19 hK0 hV0 hA0 hS hA (n := 4) (by omega) (Nat.le_of_ble_eq_true rfl) (Nat.le_of_ble_eq_true rfl) dX3_init_19 (fun lv H hql hV0 hA0 hS => ?_)
  have hle4 : leH hp3 (hput hp3 lv (eQ 5 4 (fun _ => none))) := leH.rf.new hql
  have hlv : (hput hp3 lv (eQ 5 4 (fun _ => none))) lv = some (eQ 5 4 (fun _ => none)) := hput_s _ _ _
  replace he3 := hle4 _ _ he3
  replace hE := hE.tr hle4.x
  replace hrd := hrd.mv hle4.x
  generalize hput hp3 lv (eQ 5 4 (fun _ => none)) = hp4 at hV0 hA0 hE he3 hrd hlv hle4
  refine lv_dup hx hb dX3_init_22 rfl ?_
  refine lv_iconst (v := nI 0) hx hb dX3_init_23 (by decide) ?_
  refine lv_iconst (v := nI 0) hx hb dX3_init_24 (by decide) ?_
  refine h_newqA (t := 4) (ty := .array .int) hx hb hK0.2.2.2.1 rfl hown hc21 hK0 hV0 hA0 hS hA (n := 0) (by omega) (Nat.le_of_ble_eq_true rfl) (Nat.le_of_ble_eq_true rfl) dX3_init_25 (fun r0 H hqn0 hV0 hA0 hS => ?_)
  have hl0 : leH hp4 (hput hp4 r0 (eQ 4 0 (fun _ => none))) := leH.rf.new hqn0
  have hm0 : (hput hp4 r0 (eQ 4 0 (fun _ => none))) r0 = some (eQ 4 0 (fun _ => none)) := hput_s _ _ _
  replace he3 := hl0 _ _ he3
  replace hlv := hl0 _ _ hlv
  replace hE := hE.tr hl0.x
  replace hrd := hrd.mv hl0.x
  generalize hput hp4 r0 (eQ 4 0 (fun _ => none)) = hq0a at hV0 hA0 hE he3 hrd hlv hl0 hm0
  refine h_aastB (i := 0) hx hb hK0 hV0 hA0 hS hlv hm0 (by omega) (by omega) dX3_init_28 (fun H locs hV0 hA0 hS => ?_)
  have hs0 : exH hq0a (hput hq0a lv (eQ 5 4 (va_up (fun _ => none) 0 (some r0)))) := exH.rf.set hlv rfl
  have hne0 : mo ≠ lv := hp_ne2 he3 hlv (fun z => by cases z)
  replace he3 : (hput hq0a lv (eQ 5 4 (va_up (fun _ => none) 0 (some r0)))) mo = some (eO 3 [.int (nI 4), .int 0, .int 0, .int 0, .int 0, .ref dk, .null]) := (hput_n _ _ hne0).trans he3
  replace hlv : (hput hq0a lv (eQ 5 4 (va_up (fun _ => none) 0 (some r0)))) lv = some (eQ 5 4 (va_up (fun _ => none) 0 (some r0))) := hput_s _ _ _
  replace hE := hE.tr hs0
  replace hrd := hrd.mv hs0
  replace hm0 := hs0 _ _ rfl hm0
  generalize hput hq0a lv (eQ 5 4 (va_up (fun _ => none) 0 (some r0))) = hq0b at hV0 hA0 hE he3 hrd hlv hs0 hm0
  refine lv_dup hx hb dX3_init_29 rfl ?_
  refine lv_iconst (v := nI 1) hx hb dX3_init_30 (by decide) ?_
  refine lv_iconst (v := nI 0) hx hb dX3_init_31 (by decide) ?_
  refine h_newqA (t := 4) (ty := .array .int) hx hb hK0.2.2.2.1 rfl hown hc21 hK0 hV0 hA0 hS hA (n := 0) (by omega) (Nat.le_of_ble_eq_true rfl) (Nat.le_of_ble_eq_true rfl) dX3_init_32 (fun r1 H hqn1 hV0 hA0 hS => ?_)
  have hl1 : leH hq0b (hput hq0b r1 (eQ 4 0 (fun _ => none))) := leH.rf.new hqn1
  have hm1 : (hput hq0b r1 (eQ 4 0 (fun _ => none))) r1 = some (eQ 4 0 (fun _ => none)) := hput_s _ _ _
  replace he3 := hl1 _ _ he3
  replace hlv := hl1 _ _ hlv
  replace hE := hE.tr hl1.x
  replace hrd := hrd.mv hl1.x
  replace hm0 := hl1 _ _ hm0
  generalize hput hq0b r1 (eQ 4 0 (fun _ => none)) = hq1a at hV0 hA0 hE he3 hrd hlv hl1 hm0 hm1
  refine h_aastB (i := 1) hx hb hK0 hV0 hA0 hS hlv hm1 (by omega) (by omega) dX3_init_35 (fun H locs hV0 hA0 hS => ?_)
  have hs1 : exH hq1a (hput hq1a lv (eQ 5 4 (va_up (va_up (fun _ => none) 0 (some r0)) 1 (some r1)))) := exH.rf.set hlv rfl
  have hne1 : mo ≠ lv := hp_ne2 he3 hlv (fun z => by cases z)
  replace he3 : (hput hq1a lv (eQ 5 4 (va_up (va_up (fun _ => none) 0 (some r0)) 1 (some r1)))) mo = some (eO 3 [.int (nI 4), .int 0, .int 0, .int 0, .int 0, .ref dk, .null]) := (hput_n _ _ hne1).trans he3
  replace hlv : (hput hq1a lv (eQ 5 4 (va_up (va_up (fun _ => none) 0 (some r0)) 1 (some r1)))) lv = some (eQ 5 4 (va_up (va_up (fun _ => none) 0 (some r0)) 1 (some r1))) := hput_s _ _ _
  replace hE := hE.tr hs1
  replace hrd := hrd.mv hs1
  replace hm0 := hs1 _ _ rfl hm0
  replace hm1 := hs1 _ _ rfl hm1
  generalize hput hq1a lv (eQ 5 4 (va_up (va_up (fun _ => none) 0 (some r0)) 1 (some r1))) = hq1b at hV0 hA0 hE he3 hrd hlv hs1 hm0 hm1
  refine lv_dup hx hb dX3_init_36 rfl ?_
  refine lv_iconst (v := nI 2) hx hb dX3_init_37 (by decide) ?_
  refine lv_iconst (v := nI 0) hx hb dX3_init_38 (by decide) ?_
  refine h_newqA (t := 4) (ty := .array .int) hx hb hK0.2.2.2.1 rfl hown hc21 hK0 hV0 hA0 hS hA (n := 0) (by omega) (Nat.le_of_ble_eq_true rfl) (Nat.le_of_ble_eq_true rfl) dX3_init_39 (fun r2 H hqn2 hV0 hA0 hS => ?_)
  have hl2 : leH hq1b (hput hq1b r2 (eQ 4 0 (fun _ => none))) := leH.rf.new hqn2
  have hm2 : (hput hq1b r2 (eQ 4 0 (fun _ => none))) r2 = some (eQ 4 0 (fun _ => none)) := hput_s _ _ _
  replace he3 := hl2 _ _ he3
  replace hlv := hl2 _ _ hlv
  replace hE := hE.tr hl2.x
  replace hrd := hrd.mv hl2.x
  replace hm0 := hl2 _ _ hm0
  replace hm1 := hl2 _ _ hm1
  generalize hput hq1b r2 (eQ 4 0 (fun _ => none)) = hq2a at hV0 hA0 hE he3 hrd hlv hl2 hm0 hm1 hm2
  refine h_aastB (i := 2) hx hb hK0 hV0 hA0 hS hlv hm2 (by omega) (by omega) dX3_init_42 (fun H locs hV0 hA0 hS => ?_)
  have hs2 : exH hq2a (hput hq2a lv (eQ 5 4 (va_up (va_up (va_up (fun _ => none) 0 (some r0)) 1 (some r1)) 2 (some r2)))) := exH.rf.set hlv rfl
  have hne2 : mo ≠ lv := hp_ne2 he3 hlv (fun z => by cases z)
  replace he3 : (hput hq2a lv (eQ 5 4 (va_up (va_up (va_up (fun _ => none) 0 (some r0)) 1 (some r1)) 2 (some r2)))) mo = some (eO 3 [.int (nI 4), .int 0, .int 0, .int 0, .int 0, .ref dk, .null]) := (hput_n _ _ hne2).trans he3
  replace hlv : (hput hq2a lv (eQ 5 4 (va_up (va_up (va_up (fun _ => none) 0 (some r0)) 1 (some r1)) 2 (some r2)))) lv = some (eQ 5 4 (va_up (va_up (va_up (fun _ => none) 0 (some r0)) 1 (some r1)) 2 (some r2))) := hput_s _ _ _
  replace hE := hE.tr hs2
  replace hrd := hrd.mv hs2
  replace hm0 := hs2 _ _ rfl hm0
  replace hm1 := hs2 _ _ rfl hm1
  replace hm2 := hs2 _ _ rfl hm2
  generalize hput hq2a lv (eQ 5 4 (va_up (va_up (va_up (fun _ => none) 0 (some r0)) 1 (some r1)) 2 (some r2))) = hq2b at hV0 hA0 hE he3 hrd hlv hs2 hm0 hm1 hm2
  refine lv_dup hx hb dX3_init_43 rfl ?_
  refine lv_iconst (v := nI 3) hx hb dX3_init_44 (by decide) ?_
  refine lv_iconst (v := nI 0) hx hb dX3_init_45 (by decide) ?_
  refine h_newqA (t := 4) (ty := .array .int) hx hb hK0.2.2.2.1 rfl hown hc21 hK0 hV0 hA0 hS hA (n := 0) (by omega) (Nat.le_of_ble_eq_true rfl) (Nat.le_of_ble_eq_true rfl) dX3_init_46 (fun r3 H hqn3 hV0 hA0 hS => ?_)
  have hl3 : leH hq2b (hput hq2b r3 (eQ 4 0 (fun _ => none))) := leH.rf.new hqn3
  have hm3 : (hput hq2b r3 (eQ 4 0 (fun _ => none))) r3 = some (eQ 4 0 (fun _ => none)) := hput_s _ _ _
  replace he3 := hl3 _ _ he3
  replace hlv := hl3 _ _ hlv
  replace hE := hE.tr hl3.x
  replace hrd := hrd.mv hl3.x
  replace hm0 := hl3 _ _ hm0
  replace hm1 := hl3 _ _ hm1
  replace hm2 := hl3 _ _ hm2
  generalize hput hq2b r3 (eQ 4 0 (fun _ => none)) = hq3a at hV0 hA0 hE he3 hrd hlv hl3 hm0 hm1 hm2 hm3
  refine h_aastB (i := 3) hx hb hK0 hV0 hA0 hS hlv hm3 (by omega) (by omega) dX3_init_49 (fun H locs hV0 hA0 hS => ?_)
  have hs3 : exH hq3a (hput hq3a lv (eQ 5 4 (va_up (va_up (va_up (va_up (fun _ => none) 0 (some r0)) 1 (some r1)) 2 (some r2)) 3 (some r3)))) := exH.rf.set hlv rfl
  have hne3 : mo ≠ lv := hp_ne2 he3 hlv (fun z => by cases z)
  replace he3 : (hput hq3a lv (eQ 5 4 (va_up (va_up (va_up (va_up (fun _ => none) 0 (some r0)) 1 (some r1)) 2 (some r2)) 3 (some r3)))) mo = some (eO 3 [.int (nI 4), .int 0, .int 0, .int 0, .int 0, .ref dk, .null]) := (hput_n _ _ hne3).trans he3
  replace hlv : (hput hq3a lv (eQ 5 4 (va_up (va_up (va_up (va_up (fun _ => none) 0 (some r0)) 1 (some r1)) 2 (some r2)) 3 (some r3)))) lv = some (eQ 5 4 (va_up (va_up (va_up (va_up (fun _ => none) 0 (some r0)) 1 (some r1)) 2 (some r2)) 3 (some r3))) := hput_s _ _ _
  replace hE := hE.tr hs3
  replace hrd := hrd.mv hs3
  replace hm0 := hs3 _ _ rfl hm0
  replace hm1 := hs3 _ _ rfl hm1
  replace hm2 := hs3 _ _ rfl hm2
  replace hm3 := hs3 _ _ rfl hm3
  generalize hput hq3a lv (eQ 5 4 (va_up (va_up (va_up (va_up (fun _ => none) 0 (some r0)) 1 (some r1)) 2 (some r2)) 3 (some r3))) = hq3b at hV0 hA0 hE he3 hrd hlv hs3 hm0 hm1 hm2 hm3
  refine h_put (v := .ref lv) hx hb hts hi3 tyX3 tyX3_ok nmX3 hown hK0 hV0 hA0 hS he3 rfl 6 (by decide) hf22 rfl (by rfl) (by rfl) (Nat.le_of_ble_eq_true rfl) dX3_init_50 (fun H locs hV0 hA0 hS => ?_)
  have hs9 : exH hq3b (hput hq3b mo (eO 3 [.int (nI 4), .int 0, .int 0, .int 0, .int 0, .ref dk, .ref lv])) := exH.rf.set he3 rfl
  have hne9 : lv ≠ mo := hp_ne2 hlv he3 (fun z => by cases z)
  have hlv9 : (hput hq3b mo (eO 3 [.int (nI 4), .int 0, .int 0, .int 0, .int 0, .ref dk, .ref lv])) lv = some (eQ 5 4 (va_up (va_up (va_up (va_up (fun _ => none) 0 (some r0)) 1 (some r1)) 2 (some r2)) 3 (some r3))) := (hput_n _ _ hne9).trans hlv
  have he9 : (hput hq3b mo (eO 3 [.int (nI 4), .int 0, .int 0, .int 0, .int 0, .ref dk, .ref lv])) mo = some (eO 3 [.int (nI 4), .int 0, .int 0, .int 0, .int 0, .ref dk, .ref lv]) := hput_s _ _ _
  replace hE := hE.tr hs9
  replace hrd := hrd.mv hs9
  replace hm0 := hs9 _ _ rfl hm0
  replace hm1 := hs9 _ _ rfl hm1
  replace hm2 := hs9 _ _ rfl hm2
  replace hm3 := hs9 _ _ rfl hm3
  replace hV0 : hV G (hput hq3b mo (eO 3 [.int (nI 4), .int 0, .int 0, .int 0, .int 0, .ref dk, .ref lv])) H := hV0
  replace hA0 : hIn A (hput hq3b mo (eO 3 [.int (nI 4), .int 0, .int 0, .int 0, .int 0, .ref dk, .ref lv])) := hA0
  generalize hput hq3b mo (eO 3 [.int (nI 4), .int 0, .int 0, .int 0, .int 0, .ref dk, .ref lv]) = hp9 at hV0 hA0 hE hs9 hlv9 he9 hrd hm0 hm1 hm2 hm3
  have hfin : sA mo dk lv (fun l => if l = 0 then r0 else if l = 1 then r1 else if l = 2 then r2 else r3) (fun _ _ => 0) 4 0 0 emR (fun _ => (0, 0)) V0 (fun _ _ _ => (0, 0)) hp9 := by
    refine ⟨he9, hrd, ⟨_, hlv9, fun i hi => ?_⟩, fun i hi => ?_, fun l2 r2 _ h => absurd h (Nat.not_lt_zero r2), fun _ => Nat.zero_le _, fun l2 r2 _ h => absurd h (Nat.not_lt_zero r2)⟩
    · rcases (show i = 0 ∨ i = 1 ∨ i = 2 ∨ i = 3 by omega) with q | q | q | q <;> subst q <;> rfl
    · rcases (show i = 0 ∨ i = 1 ∨ i = 2 ∨ i = 3 by omega) with q | q | q | q <;> subst q
      · exact ⟨_, hm0, fun j hj => absurd hj (Nat.not_lt_zero j)⟩
      · exact ⟨_, hm1, fun j hj => absurd hj (Nat.not_lt_zero j)⟩
      · exact ⟨_, hm2, fun j hj => absurd hj (Nat.not_lt_zero j)⟩
      · exact ⟨_, hm3, fun j hj => absurd hj (Nat.not_lt_zero j)⟩
  refine W.widen (k := 6) (n := 390) (by omega) (by omega) ?_
  exact W.vret hx hb hr (h_qW ⟨rfl, ⟨_, _, _, _, hfin⟩, hE⟩ hV0 hA0 hS) hS.2.2 dX3_init_53 hlocks
