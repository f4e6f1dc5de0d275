set_option maxHeartbeats 1000000 in
set_option maxRecDepth 100000 in
theorem c_X3_come (l : Launch) (G : hG) (A : Nat → Prop) (hp : HP) (X : Nat → Prop) (mo dk lv nb : Nat) (lvl : Nat → Nat) (row : Nat → Nat → Nat) (th : Int32) (d : Row) (V : BV) (rm dt : Int32) (hm : mA mo dk lv nb lvl row th d V rm dt hp) (hX : mX X mo dk lv nb hp) (lz : Nat) (hl4 : lz < 4) (hn2 : bN V lz ≤ 2) (q : Nat) (f : Row) (hq : mR hp q f) (hz : 0 < szR f) (hA0 : hIn A hp) : hWr l yX3_come wsX3_come 1 25 1 3 G A hp [.ref mo, .int (nI lz), .ref q] (fun ro hp' => ro = none ∧ ∃ q2, hp q2 = none ∧ mA mo dk lv nb (fun l2 => if l2 = lz then q2 else lvl l2) (rowC row lz q) th d (cmB V lz f) rm dt hp' ∧ mX X mo dk lv nb hp' ∧ mKp X hp hp') := by
  refine Met.ofW (cc := cX3_come) (maxL := 5) (ret := none) (by decide) rfl ?_
  intro p e s m args below meth c s₁ B hml hv
  obtain ⟨rfl, hV0, hK0, hA⟩ := hv
  have hx := B.exec
  have hb := B.bytes
  have hr := B.returns
  have hts := atoms_spec (ws := wsX3_come) B.pre
  have hown : s.vm.findClass RX3 = some m.cls := findClass_of_methodNamed B.named
  have hlocks := B.notSynchronized
  have hF : CallFix p m c cX3_come 5 s [.ref mo, .int (nI lz), .ref q].toArray wsX3_come RX3 := ⟨hx, hb, hml, hown, hts⟩
  have hw0 := hts (.fieldLink RX3 24 "SlipLevelsModel" "numbers" "[I") (by decide +kernel)
  have hw1 := hts (.fieldLink RX3 20 "SlipLevelsModel" "levels" "[[[I") (by decide +kernel)
  have hw2 := hts (.classLink RX3 19 "[I") (by decide +kernel)
  have hw3 := hts (.methodLink RX3 43 arraycopyName) (by decide +kernel)
  have hw4 := hts (.native arraycopyName) (by decide +kernel)
  have hw5 := hts (.static arraycopyName) (by decide +kernel)
  have hw6 := hts (.initialized "java/lang/System") (by decide +kernel)
  have hi3 : ∀ w ∈ u_ws RX3 TX3 4, w ∈ wsX3_come := by
    intro w h
    unfold wsX3_come
    simp only [List.mem_cons, List.mem_append, h, true_or, or_true]
  have hS : va_S A s.heap s.heap [] := va_S.rf
  have hl := lv_entry ([.ref mo, .int (nI lz), .ref q]) (n := 5) (Nat.le_of_ble_eq_true rfl)
  rw [lg_entry_eq]
  generalize (lg_sl ([.ref mo, .int (nI lz), .ref q]) ++ List.replicate (5 - (lg_sl ([.ref mo, .int (nI lz), .ref q])).length) Slot.unset).toArray = ls at hl ⊢
  replace hl : lv_has ls 5 [(0, .ref mo), (1, .int (nI lz)), (2, .ref q)] := hl
  have hn := hm.le
  have hK : mKp X hp hp := mKp.rf
  refine lv_aload_n hx hb dX3_come_0 rfl (lv_at hl 0 rfl) ?_
  refine h_get (v := .ref nb) hx hb hts hi3 hown hK0 hV0 hm.cmo rfl 3 (by decide) hw0 rfl dX3_come_1 ?_
  refine lv_iconst (v := nI 1) hx hb dX3_come_4 (by decide) ?_
  refine lv_dup2_11 hx hb dX3_come_5 rfl rfl ?_
  refine h_ialdN (i := 1) (x := bM V) hm.cnb rfl (by omega) hx hb hK0 hV0 dX3_come_6 ?_
  refine lv_aload_n hx hb dX3_come_7 rfl (lv_at hl 2 rfl) ?_
  refine h_rdS (As := [.ref q]) (rest := [.int (bM V), .int (nI 1), .ref nb]) hF (c_X3_size l G hp q f hq) 1 gX3_come_X3_size rfl (by decide +kernel) ⟨Nat.le_of_ble_eq_true rfl, Nat.le_of_ble_eq_true rfl⟩ hK0 hV0 rfl hl.1 rfl (Nat.le_of_ble_eq_true rfl) (Nat.le_of_ble_eq_true rfl) (Nat.le_of_ble_eq_true rfl) dX3_come_8 ?_
  refine lv_iadd hx hb dX3_come_11 ?_
  have hm9 := hm
  obtain ⟨NF1, hNF1, n0NF1, n1NF1, n2NF1, n3NF1⟩ := hm.cnb
  refine h_iast (i := 1) (x := ((bM V) + nI (szR f))) hx hb hK0 hV0 hA0 hS hNF1 (by omega) (by omega) dX3_come_12 (fun H locs hV0 hA0 hS => ?_)
  have hm : mA mo dk lv nb lvl row th d ((setM V (((bM V) + nI (szR f))))) rm dt (hput hp nb (eI 4 (upd NF1 1 (((bM V) + nI (szR f)))))) := hm.setN (F := upd NF1 1 (((bM V) + nI (szR f)))) n0NF1 rfl n2NF1 n3NF1
  have hX : mX X mo dk lv nb (hput hp nb (eI 4 (upd NF1 1 (((bM V) + nI (szR f)))))) := hX.put _ _
  have hK : mKp X hp (hput hp nb (eI 4 (upd NF1 1 (((bM V) + nI (szR f)))))) := hK.put hX.1.2.2.2
  have hn := hm.le
  replace hq : mR (hput hp nb (eI 4 (upd NF1 1 (((bM V) + nI (szR f)))))) q f := hq.put _ (ne_NR hm9.cnb hq).symm
  refine lv_aload_n hx hb dX3_come_13 rfl (lv_at hl 0 rfl) ?_
  refine h_get (v := .ref lv) hx hb hts hi3 hown hK0 hV0 hm.cmo rfl 2 (by decide) hw1 rfl dX3_come_14 ?_
  refine lv_iload_n hx hb dX3_come_17 rfl (lv_at hl 1 rfl) ?_
  refine h_aaldE (i := lz) hm.clv hx hb hK0 hV0 rfl rfl (by omega) (by omega) dX3_come_18 ?_
  refine h_alenQ (hm.clvl (l := lz) (by omega)) hx hb hK0 hV0 rfl dX3_come_19 ?_
  refine lv_istore_n (lv' := [(3, .int (nI (bN V lz))), (0, .ref mo), (1, .int (nI lz)), (2, .ref q)]) hx hb dX3_come_20 rfl hl (by decide) rfl (fun ls hl => ?_)
  refine lv_iload_n hx hb dX3_come_21 rfl (lv_at hl 0 rfl) ?_
  refine lv_iconst (v := nI 1) hx hb dX3_come_22 (by decide) ?_
  refine h_iaddN hx hb dX3_come_23 ?_
  have hq0 : ∀ x, (hput hp nb (eI 4 (upd NF1 1 (((bM V) + nI (szR f)))))) x = none → hp x = none := fun x hx => (hput_none hx).2
  refine h_newqA (t := 3) (ty := .int) hx hb hK0.2.2.1 rfl hown hw2 hK0 hV0 hA0 hS hA (n := bN V lz + 1) (by omega) (by show _ ≤ 1; omega) (by show _ ≤ 3; omega) dX3_come_24 (fun q2 H hqq2 hV0 hA0 hS => ?_)
  have hne2 := hm.ne hqq2
  have hnX2 := hX.new hqq2
  have hqn2 : q ≠ q2 := by obtain ⟨F9, h9, -⟩ := hq; exact hp_ne h9 hqq2
  replace hq : mR (hput (hput hp nb (eI 4 (upd NF1 1 (((bM V) + nI (szR f)))))) q2 (eQ 3 (bN V lz + 1) (fun _ => none))) q f := hq.put _ hqn2
  have hm : mA mo dk lv nb lvl row th d ((setM V (((bM V) + nI (szR f))))) rm dt (hput (hput hp nb (eI 4 (upd NF1 1 (((bM V) + nI (szR f)))))) q2 (eQ 3 (bN V lz + 1) (fun _ => none))) := hm.put hne2 _
  have hX : mX X mo dk lv nb (hput (hput hp nb (eI 4 (upd NF1 1 (((bM V) + nI (szR f)))))) q2 (eQ 3 (bN V lz + 1) (fun _ => none))) := hX.put _ _
  have hK : mKp X hp (hput (hput hp nb (eI 4 (upd NF1 1 (((bM V) + nI (szR f)))))) q2 (eQ 3 (bN V lz + 1) (fun _ => none))) := hK.put hnX2
  have hn := hm.le
  refine lv_astore (lv' := [(4, .ref q2), (3, .int (nI (bN V lz))), (0, .ref mo), (1, .int (nI lz)), (2, .ref q)]) hx hb dX3_come_27 hl (by decide) rfl (fun ls hl => ?_)
  refine lv_aload_n hx hb dX3_come_29 rfl (lv_at hl 2 rfl) ?_
  refine h_get (v := .ref lv) hx hb hts hi3 hown hK0 hV0 hm.cmo rfl 2 (by decide) hw1 rfl dX3_come_30 ?_
  refine lv_iload_n hx hb dX3_come_33 rfl (lv_at hl 3 rfl) ?_
  refine h_aaldE (i := lz) hm.clv hx hb hK0 hV0 rfl rfl (by omega) (by omega) dX3_come_34 ?_
  refine lv_iconst (v := nI 0) hx hb dX3_come_35 (by decide) ?_
  refine lv_aload hx hb dX3_come_36 (lv_at hl 0 rfl) ?_
  refine lv_iconst (v := nI 1) hx hb dX3_come_38 (by decide) ?_
  refine lv_iload_n hx hb dX3_come_39 rfl (lv_at hl 1 rfl) ?_
  obtain ⟨RF, hRF, hRs⟩ := hm.clvl hl4
  have hbn9 : bN ((setM V (((bM V) + nI (szR f))))) lz = bN V lz := rfl
  refine h_copyA (sp := 0) (dp := 1) (n := bN V lz) hx hb (hml.trans hl.1.symm) hown hw3 hw4 hw5 hw6 hK0 hV0 hA0 hS hRF (hput_s _ _ _) (by omega) (by omega) (by omega) (by omega) (fun i9 hi9 y9 hy9 => by rw [Nat.zero_add, hRs i9 hi9] at hy9; cases hy9; obtain ⟨F9, h9, -⟩ := hm.crow hl4 hi9; exact ⟨_, _, h9⟩) (Nat.le_of_ble_eq_true rfl) (Nat.le_of_ble_eq_true rfl) dX3_come_40 (fun H locs hV0 hA0 hS => ?_)
  replace hq : mR (hput (hput (hput hp nb (eI 4 (upd NF1 1 (((bM V) + nI (szR f)))))) q2 (eQ 3 (bN V lz + 1) (fun _ => none))) q2 (eQ 3 (bN V lz + 1) (va_cpy RF (fun _ => none) 0 1 (bN V lz)))) q f := hq.put _ hqn2
  have hm : mA mo dk lv nb lvl row th d ((setM V (((bM V) + nI (szR f))))) rm dt (hput (hput (hput hp nb (eI 4 (upd NF1 1 (((bM V) + nI (szR f)))))) q2 (eQ 3 (bN V lz + 1) (fun _ => none))) q2 (eQ 3 (bN V lz + 1) (va_cpy RF (fun _ => none) 0 1 (bN V lz)))) := hm.put hne2 _
  have hX : mX X mo dk lv nb (hput (hput (hput hp nb (eI 4 (upd NF1 1 (((bM V) + nI (szR f)))))) q2 (eQ 3 (bN V lz + 1) (fun _ => none))) q2 (eQ 3 (bN V lz + 1) (va_cpy RF (fun _ => none) 0 1 (bN V lz)))) := hX.put _ _
  have hK : mKp X hp (hput (hput (hput hp nb (eI 4 (upd NF1 1 (((bM V) + nI (szR f)))))) q2 (eQ 3 (bN V lz + 1) (fun _ => none))) q2 (eQ 3 (bN V lz + 1) (va_cpy RF (fun _ => none) 0 1 (bN V lz)))) := hK.put hnX2
  have hn := hm.le
  refine lv_aload hx hb dX3_come_43 (lv_at hl 0 rfl) ?_
  refine lv_iconst (v := nI 0) hx hb dX3_come_45 (by decide) ?_
  refine lv_aload_n hx hb dX3_come_46 rfl (lv_at hl 4 rfl) ?_
  obtain ⟨QF, hQF, hQs⟩ := hq
  refine h_aastI (i := 0) hx hb hK0 hV0 hA0 hS (hput_s _ _ _) hQF (by omega) (by omega) dX3_come_47 (fun H locs hV0 hA0 hS => ?_)
  have hq : mR (hput (hput (hput (hput hp nb (eI 4 (upd NF1 1 (((bM V) + nI (szR f)))))) q2 (eQ 3 (bN V lz + 1) (fun _ => none))) q2 (eQ 3 (bN V lz + 1) (va_cpy RF (fun _ => none) 0 1 (bN V lz)))) q2 (eQ 3 (bN V lz + 1) (va_up (va_cpy RF (fun _ => none) 0 1 (bN V lz)) 0 (some q)))) q f := mR.put (⟨QF, hQF, hQs⟩ : mR (hput (hput (hput hp nb (eI 4 (upd NF1 1 (((bM V) + nI (szR f)))))) q2 (eQ 3 (bN V lz + 1) (fun _ => none))) q2 (eQ 3 (bN V lz + 1) (va_cpy RF (fun _ => none) 0 1 (bN V lz)))) q f) _ hqn2
  have hm : mA mo dk lv nb lvl row th d ((setM V (((bM V) + nI (szR f))))) rm dt (hput (hput (hput (hput hp nb (eI 4 (upd NF1 1 (((bM V) + nI (szR f)))))) q2 (eQ 3 (bN V lz + 1) (fun _ => none))) q2 (eQ 3 (bN V lz + 1) (va_cpy RF (fun _ => none) 0 1 (bN V lz)))) q2 (eQ 3 (bN V lz + 1) (va_up (va_cpy RF (fun _ => none) 0 1 (bN V lz)) 0 (some q)))) := hm.put hne2 _
  have hX : mX X mo dk lv nb (hput (hput (hput (hput hp nb (eI 4 (upd NF1 1 (((bM V) + nI (szR f)))))) q2 (eQ 3 (bN V lz + 1) (fun _ => none))) q2 (eQ 3 (bN V lz + 1) (va_cpy RF (fun _ => none) 0 1 (bN V lz)))) q2 (eQ 3 (bN V lz + 1) (va_up (va_cpy RF (fun _ => none) 0 1 (bN V lz)) 0 (some q)))) := hX.put _ _
  have hK : mKp X hp (hput (hput (hput (hput hp nb (eI 4 (upd NF1 1 (((bM V) + nI (szR f)))))) q2 (eQ 3 (bN V lz + 1) (fun _ => none))) q2 (eQ 3 (bN V lz + 1) (va_cpy RF (fun _ => none) 0 1 (bN V lz)))) q2 (eQ 3 (bN V lz + 1) (va_up (va_cpy RF (fun _ => none) 0 1 (bN V lz)) 0 (some q)))) := hK.put hnX2
  have hn := hm.le
  refine lv_aload_n hx hb dX3_come_48 rfl (lv_at hl 2 rfl) ?_
  refine h_get (v := .ref lv) hx hb hts hi3 hown hK0 hV0 hm.cmo rfl 2 (by decide) hw1 rfl dX3_come_49 ?_
  refine lv_iload_n hx hb dX3_come_52 rfl (lv_at hl 3 rfl) ?_
  refine lv_aload hx hb dX3_come_53 (lv_at hl 0 rfl) ?_
  obtain ⟨LF, hLF, hLs⟩ := hm.clv
  have hq2 : (hput (hput (hput (hput hp nb (eI 4 (upd NF1 1 (((bM V) + nI (szR f)))))) q2 (eQ 3 (bN V lz + 1) (fun _ => none))) q2 (eQ 3 (bN V lz + 1) (va_cpy RF (fun _ => none) 0 1 (bN V lz)))) q2 (eQ 3 (bN V lz + 1) (va_up (va_cpy RF (fun _ => none) 0 1 (bN V lz)) 0 (some q)))) q2 = some (eQ 3 ((bN V lz + 1)) (va_up (va_cpy RF (fun _ => none) 0 1 (bN V lz)) 0 (some q))) := (hput_s _ _ _)
  refine h_aastA (i := lz) hx hb hK0 hV0 hA0 hS hLF hq2 (by omega) (by omega) dX3_come_55 (fun H locs hV0 hA0 hS => ?_)
  have hm : mA mo dk lv nb ((fun l2 => if l2 = lz then q2 else lvl l2)) ((rowC row lz q)) th d ((cmB V lz f)) rm dt (hput (hput (hput (hput (hput hp nb (eI 4 (upd NF1 1 (((bM V) + nI (szR f)))))) q2 (eQ 3 (bN V lz + 1) (fun _ => none))) q2 (eQ 3 (bN V lz + 1) (va_cpy RF (fun _ => none) 0 1 (bN V lz)))) q2 (eQ 3 (bN V lz + 1) (va_up (va_cpy RF (fun _ => none) 0 1 (bN V lz)) 0 (some q)))) lv (eQ 4 4 (va_up LF lz (some q2)))) := hm.setLv hLF hLs (rw2 := fun r => if r = 0 then q else row lz (r - 1)) (g := fun r => if r = 0 then f else bG V lz (r - 1)) ⟨_, hq2, cmF hRs⟩ (fun r hr => by by_cases e9 : r = 0; rw [if_pos e9, if_pos e9]; exact ⟨hq, hz⟩; rw [if_neg e9, if_neg e9]; exact ⟨hm.crow hl4 (show r - 1 < bN V lz by omega), hm.pos hl4 (show r - 1 < bN V lz by omega)⟩) (by omega)
  have hX : mX X mo dk lv nb (hput (hput (hput (hput (hput hp nb (eI 4 (upd NF1 1 (((bM V) + nI (szR f)))))) q2 (eQ 3 (bN V lz + 1) (fun _ => none))) q2 (eQ 3 (bN V lz + 1) (va_cpy RF (fun _ => none) 0 1 (bN V lz)))) q2 (eQ 3 (bN V lz + 1) (va_up (va_cpy RF (fun _ => none) 0 1 (bN V lz)) 0 (some q)))) lv (eQ 4 4 (va_up LF lz (some q2)))) := hX.put _ _
  have hK : mKp X hp (hput (hput (hput (hput (hput hp nb (eI 4 (upd NF1 1 (((bM V) + nI (szR f)))))) q2 (eQ 3 (bN V lz + 1) (fun _ => none))) q2 (eQ 3 (bN V lz + 1) (va_cpy RF (fun _ => none) 0 1 (bN V lz)))) q2 (eQ 3 (bN V lz + 1) (va_up (va_cpy RF (fun _ => none) 0 1 (bN V lz)) 0 (some q)))) lv (eQ 4 4 (va_up LF lz (some q2)))) := hK.put hX.1.2.2.1
  have hn := hm.le
  have he2 : (hput (hput (hput (hput (hput hp nb (eI 4 (upd NF1 1 (((bM V) + nI (szR f)))))) q2 (eQ 3 (bN V lz + 1) (fun _ => none))) q2 (eQ 3 (bN V lz + 1) (va_cpy RF (fun _ => none) 0 1 (bN V lz)))) q2 (eQ 3 (bN V lz + 1) (va_up (va_cpy RF (fun _ => none) 0 1 (bN V lz)) 0 (some q)))) lv (eQ 4 4 (va_up LF lz (some q2)))) q2 = some (eQ 3 ((bN V lz + 1)) (va_up (va_cpy RF (fun _ => none) 0 1 (bN V lz)) 0 (some q))) := (hput_n _ _ hne2.2.2.1.symm).trans (hput_s _ _ _)
  refine W.widen (k := 1) (n := 3) (by omega) (by omega) ?_
  exact W.vret hx hb hr (h_qW ⟨rfl, q2, hq0 _ hqq2, hm, hX, hK⟩ hV0 hA0 hS) hS.2.2 dX3_come_56 hlocks
