/-! Sim: settle, bind, merge, put -/
set_option maxHeartbeats 1000000 in
set_option maxRecDepth 100000 in
theorem c_X3_settle (l : Launch) (G : hG) (A : Nat → Prop) (hp : HP) (mo dk lv : Nat) (lvl : Nat → Nat) (row : Nat → Nat → Nat) (rm : Int32) (tm : Nat) (dt : Int32) (d : Row) (δ : TG) (V : BV) (ω : TS) (hm : sA mo dk lv lvl row rm tm dt d δ V ω hp) (L9 : Nat) (h1 : oneB (bN V) L9) (hoT : oT V ω) (hA0 : hIn A hp) : hWr l yX3_settle wsX3_settle 2 58 (stC V 4) (65 * stC V 4) G A hp [.ref mo] (fun ro hp' => ro = none ∧ (∃ lvl2 row2, sA mo dk lv lvl2 row2 rm tm dt d δ (stB V 4) (stT V ω 4) hp') ∧ exH hp hp') := by
  refine Met.ofW (cc := cX3_settle) (maxL := 2) (ret := none) (by decide) rfl ?_
  intro p e s m args below meth c s₁ B hml hv
  obtain ⟨rfl, hV0, hK0, hA⟩ := hv
  have hx := B.exec
  have hb := B.bytes
  have hr := B.returns
  have hts := atoms_spec (ws := wsX3_settle) B.pre
  have hown : s.vm.findClass RX3 = some m.cls := findClass_of_methodNamed B.named
  have hlocks := B.notSynchronized
  have hF : CallFix p m c cX3_settle 2 s [.ref mo].toArray wsX3_settle RX3 := ⟨hx, hb, hml, hown, hts⟩
  have hw0 := hts (.fieldLink RX3 22 "SlipLevelsLaw$Sim" "levels" "[[[[I") (by decide +kernel)
  have hi3 : ∀ w ∈ u_ws RX3 TX3 7, w ∈ wsX3_settle := by
    intro w h
    unfold wsX3_settle
    simp only [List.mem_cons, List.mem_append, h, true_or, or_true]
  have hS : va_S A s.heap s.heap [] := va_S.rf
  have hl := lv_entry ([.ref mo]) (n := 2) (Nat.le_of_ble_eq_true rfl)
  rw [lg_entry_eq]
  generalize (lg_sl ([.ref mo]) ++ List.replicate (2 - (lg_sl ([.ref mo])).length) Slot.unset).toArray = ls at hl ⊢
  replace hl : lv_has ls 2 [(0, .ref mo)] := hl
  have hn := hm.le
  have hv9 := hm.v
  refine lv_iconst (v := nI 0) hx hb dX3_settle_0 (by decide) ?_
  refine lv_istore_n (lv' := [(1, .int (nI 0)), (0, .ref mo)]) hx hb dX3_settle_1 rfl hl (by decide) rfl (fun ls hl => ?_)
  replace hl : lv_has ls 2 [(1, .int (nI 0)), (0, .ref mo)] := lv_sub hl [0, 1] rfl
  refine h_loopW (G := G) (A := A) (H0 := s.heap) (Wf := fun i H locs ls => W p l e (headSpec wsX3_settle { frames := 2, cells := (stC V 4), slots := (65 * stC V 4), locals := 58 }).room s m ([.ref mo].toArray) below meth c H locs (stC V i) (65 * stC V i) (MQ below (hW G A (fun ro hp' => ro = none ∧ (∃ lvl2 row2, sA mo dk lv lvl2 row2 rm tm dt d δ (stB V 4) (stT V ω 4) hp') ∧ exH hp hp')) ([.ref mo].toArray) s (stC V 4) (65 * stC V 4) A) (F0 m 2 ls [])) 4 (fun i => [(1, .int (nI i)), (0, .ref mo)]) (fun i hp' => (∃ lvl2 row2, sA mo dk lv lvl2 row2 rm tm dt d δ (stB V i) (stT V ω i) hp') ∧ exH hp hp') (fun i hi2 hp' H locs hI2 hV0 hA0 hS ih2 ls hl => ?_) 0 (Nat.zero_le _) hp s.heap [] ⟨⟨_, _, hm⟩, exH.rf⟩ hV0 hA0 hS ls hl
  obtain ⟨⟨lvl2, row2, hm⟩, hE⟩ := hI2
  have hn := hm.le
  have hni := hn i
  refine lv_iload_n hx hb dX3_settle_2 rfl (lv_at hl 0 rfl) ?_
  refine lv_iconst (v := nI 4) hx hb dX3_settle_3 (by decide) ?_
  refine h_icmp_ge (a := i) (b := 4) (tgt := 29) hx hb dX3_settle_4 (by decide) (by omega) (by omega) (fun c_4 => ?_) (fun c_4 => ?_)
  · obtain rfl : i = 4 := by omega
    refine W.widen (k := (stC V 4)) (n := (65 * stC V 4)) (by omega) (by omega) ?_
    exact W.vret hx hb hr (h_qW ⟨rfl, ⟨_, _, hm⟩, hE⟩ hV0 hA0 hS) hS.2.2 dX3_settle_29 hlocks
  · refine lv_aload_n hx hb dX3_settle_7 rfl (lv_at hl 1 rfl) ?_
    refine h_get (v := .ref lv) hx hb hts hi3 hown hK0 hV0 hm.cmo rfl 6 (by decide) hw0 rfl dX3_settle_8 ?_
    refine lv_iload_n hx hb dX3_settle_11 rfl (lv_at hl 0 rfl) ?_
    refine h_aaldE (i := i) hm.clv hx hb hK0 hV0 rfl rfl (by omega) (by omega) dX3_settle_12 ?_
    refine h_alenQ (hm.clvl (l := i) (by omega)) hx hb hK0 hV0 rfl dX3_settle_13 ?_
    refine lv_iconst (v := nI 2) hx hb dX3_settle_14 (by decide) ?_
    refine h_icmp_le (a := bN ((stB V i)) i) (b := 2) (tgt := 23) hx hb dX3_settle_15 (by decide) (by omega) (by omega) (fun c_15 => ?_) (fun c_15 => ?_)
    · refine lv_iinc (v := nI (i + 1)) (lv' := [(1, .int (nI (i + 1))), (0, .ref mo)]) hx hb dX3_settle_23 hl (k := 0) rfl (nI_add (i) 1) (by decide) rfl (fun ls hl => ?_)
      refine lv_goto (tgt := 2) hx hb dX3_settle_26 (by decide) ?_
      have h3 : bN (stB V i) i < 3 := by omega
      rw [← stB_n h3, ← stT_n (ω := ω) h3] at hm
      have hcs := stC_n h3
      refine W.widen (k := stC V (i + 1)) (n := 65 * stC V (i + 1)) (by omega) (by omega) ?_
      exact ih2 _ H locs (by omega) ⟨⟨_, _, hm⟩, hE⟩ hV0 hA0 hS ls (lv_sub hl [0, 1] rfl)
    · refine lv_aload_n hx hb dX3_settle_18 rfl (lv_at hl 1 rfl) ?_
      refine lv_iload_n hx hb dX3_settle_19 rfl (lv_at hl 0 rfl) ?_
      have h3 : ¬ bN (stB V i) i < 3 := by omega
      have hc3 := stC_le V (show i + 1 ≤ 4 by omega)
      rw [stC_y h3] at hc3
      refine h_wrV (As := [.int (nI i)]) (rest := []) hF (c_X3_mergeOne l G A hp' mo dk lv lvl2 row2 rm tm dt d δ (stB V i) (stT V ω i) hm i (by omega) (stB_at h1 (by omega) h3) ((hoT.st hv9 h1 i (by omega)).L (by omega)) hA0) 1 gX3_settle_X3_mergeOne rfl (by decide +kernel) ⟨Nat.le_of_ble_eq_true rfl, Nat.le_of_ble_eq_true rfl⟩ hK0 hV0 hA hS hm.cmo rfl rfl rfl hl.1 rfl (Nat.le_of_ble_eq_true rfl) ⟨by show _ ≤ (stC V 4); omega, by show _ ≤ (65 * stC V 4); omega⟩ dX3_settle_20 (fun ro hp1 H locs hP1 hV0 hA0 hS => ?_)
      obtain ⟨rfl, ⟨lvl3, row3, hm1⟩, hE1⟩ := hP1
      refine lv_iinc (v := nI (i + 1)) (lv' := [(1, .int (nI (i + 1))), (0, .ref mo)]) hx hb dX3_settle_23 hl (k := 0) rfl (nI_add (i) 1) (by decide) rfl (fun ls hl => ?_)
      refine lv_goto (tgt := 2) hx hb dX3_settle_26 (by decide) ?_
      rw [← stB_y h3, ← stT_y (ω := ω) h3] at hm1
      have hcs := stC_y h3
      refine W.widen (k := stC V (i + 1)) (n := 65 * stC V (i + 1)) (by omega) (by omega) ?_
      exact ih2 _ H locs (by omega) ⟨⟨_, _, hm1⟩, hE.tr hE1⟩ hV0 hA0 hS ls (lv_sub hl [0, 1] rfl)

set_option maxHeartbeats 1000000 in
set_option maxRecDepth 100000 in
theorem c_X3_bind (l : Launch) (G : hG) (A : Nat → Prop) (hp : HP) (mo dk lv : Nat) (lvl : Nat → Nat) (row : Nat → Nat → Nat) (rm : Int32) (tm : Nat) (dt : Int32) (d : Row) (δ : TG) (V : BV) (ω : TS) (hm : sA mo dk lv lvl row rm tm dt d δ V ω hp) (hI : ∀ l, l < 4 → bN V l ≤ 2) (hoT : oT V ω) (hoD : oD d δ V ω) (hokd : okR d) (hz : 0 < szR d) (hA0 : hIn A hp) : hWr l yX3_bind wsX3_bind 3 79 (2 + stC (cmB V 0 d) 4) (65 * (2 + stC (cmB V 0 d) 4)) G A hp [.ref mo] (fun ro hp' => ro = some (.int (bM (stB (cmB V 0 d) 4) - bM V)) ∧ (∃ dk2 lvl2 row2, sA mo dk2 lv lvl2 row2 rm tm dt emR δ (stB (cmB V 0 d) 4) (stT (cmB V 0 d) (cmT ω 0 δ) 4) hp') ∧ exH hp hp') := by
  refine Met.ofW (cc := cX3_bind) (maxL := 2) (ret := (some .int)) (by decide) rfl ?_
  intro p e s m args below meth c s₁ B hml hv
  obtain ⟨rfl, hV0, hK0, hA⟩ := hv
  have hx := B.exec
  have hb := B.bytes
  have hr := B.returns
  have hts := atoms_spec (ws := wsX3_bind) B.pre
  have hown : s.vm.findClass RX3 = some m.cls := findClass_of_methodNamed B.named
  have hlocks := B.notSynchronized
  have hF : CallFix p m c cX3_bind 2 s [.ref mo].toArray wsX3_bind RX3 := ⟨hx, hb, hml, hown, hts⟩
  have hw0 := hts (.fieldLink RX3 30 "SlipLevelsLaw$Sim" "moves" "I") (by decide +kernel)
  have hw1 := hts (.fieldLink RX3 15 "SlipLevelsLaw$Sim" "desk" "[[I") (by decide +kernel)
  have hw2 := hts (.classLink RX3 13 "[I") (by decide +kernel)
  have hi3 : ∀ w ∈ u_ws RX3 TX3 7, w ∈ wsX3_bind := by
    intro w h
    unfold wsX3_bind
    simp only [List.mem_cons, List.mem_append, h, true_or, or_true]
  have hS : va_S A s.heap s.heap [] := va_S.rf
  have hl := lv_entry ([.ref mo]) (n := 2) (Nat.le_of_ble_eq_true rfl)
  rw [lg_entry_eq]
  generalize (lg_sl ([.ref mo]) ++ List.replicate (2 - (lg_sl ([.ref mo])).length) Slot.unset).toArray = ls at hl ⊢
  replace hl : lv_has ls 2 [(0, .ref mo)] := hl
  have hn := hm.le
  have hzd := szR_le d
  refine lv_aload_n hx hb dX3_bind_0 rfl (lv_at hl 0 rfl) ?_
  refine h_get (v := .int (bM V)) hx hb hts hi3 hown hK0 hV0 hm.cmo rfl 2 (by decide) hw0 rfl dX3_bind_1 ?_
  refine lv_istore_n (lv' := [(1, .int (bM V)), (0, .ref mo)]) hx hb dX3_bind_4 rfl hl (by decide) rfl (fun ls hl => ?_)
  refine lv_aload_n hx hb dX3_bind_5 rfl (lv_at hl 1 rfl) ?_
  refine h_get (v := .ref dk) hx hb hts hi3 hown hK0 hV0 hm.cmo rfl 5 (by decide) hw1 rfl dX3_bind_6 ?_
  refine h_alenQ hm.cdk.1 hx hb hK0 hV0 rfl dX3_bind_9 ?_
  refine h_if_le (a := szR d) (tgt := 34) hx hb dX3_bind_10 (by decide) (by omega) (fun c_10 => by omega) (fun c_10 => ?_)
  refine lv_aload_n hx hb dX3_bind_13 rfl (lv_at hl 1 rfl) ?_
  refine lv_iconst (v := nI 0) hx hb dX3_bind_14 (by decide) ?_
  refine lv_aload_n hx hb dX3_bind_15 rfl (lv_at hl 1 rfl) ?_
  refine h_get (v := .ref dk) hx hb hts hi3 hown hK0 hV0 hm.cmo rfl 5 (by decide) hw1 rfl dX3_bind_16 ?_
  refine h_wrV (As := [.int (nI 0), .ref dk]) (rest := []) hF (c_X3_front l G A hp mo dk lv lvl row rm tm dt d δ V ω hm 0 (by omega) (hI 0 (by omega)) dk d δ hm.cdk (by omega) hokd hA0) 2 gX3_bind_X3_front rfl (by decide +kernel) ⟨Nat.le_of_ble_eq_true rfl, Nat.le_of_ble_eq_true rfl⟩ hK0 hV0 hA hS hm.cmo rfl rfl rfl hl.1 rfl (Nat.le_of_ble_eq_true rfl) ⟨by show _ ≤ (2 + stC (cmB V 0 d) 4); omega, by show _ ≤ (65 * (2 + stC (cmB V 0 d) 4)); omega⟩ dX3_bind_19 (fun ro hp1 H locs hP1 hV0 hA0 hS => ?_)
  obtain ⟨rfl, ⟨lvl2, row2, hm⟩, hE⟩ := hP1
  have hn := hm.le
  refine lv_aload_n hx hb dX3_bind_22 rfl (lv_at hl 1 rfl) ?_
  refine lv_iconst (v := nI 0) hx hb dX3_bind_23 (by decide) ?_
  refine h_newqA (t := 3) (ty := .int) hx hb hK0.2.2.1 rfl hown hw2 hK0 hV0 hA0 hS hA (n := 0) (by omega) (by show _ ≤ (2 + stC (cmB V 0 d) 4); omega) (by show _ ≤ (65 * (2 + stC (cmB V 0 d) 4)); omega) dX3_bind_24 (fun q1 H hqq1 hV0 hA0 hS => ?_)
  have hle1 : leH hp1 (hput hp1 q1 (eQ 3 0 (fun _ => none))) := leH.rf.new hqq1
  have hnd : rn (hput hp1 q1 (eQ 3 0 (fun _ => none))) q1 emR δ := rn_new (hput_s _ _ _)
  replace hm := hm.mv hle1
  replace hE := hE.tr hle1.x
  generalize hput hp1 q1 (eQ 3 0 (fun _ => none)) = hp2 at hV0 hA0 hm hE hle1 hnd
  refine W.widen (k := 2) (n := 65 * 2) (by omega) (by omega) ?_
  refine h_put (v := .ref q1) hx hb hts hi3 tyX3 tyX3_ok nmX3 hown hK0 hV0 hA0 hS hm.cmo rfl 5 (by decide) hw1 rfl (by rfl) (by rfl) (Nat.le_of_ble_eq_true rfl) dX3_bind_27 (fun H locs hV0 hA0 hS => ?_)
  have hE0 := exH.rf.set (hp0 := hp2) hm.cmo (e := eO 3 [.int rm, .int (nI tm), .int (bM ((cmB V 0 d))), .int dt, .int (bK ((cmB V 0 d))), .ref q1, .ref lv]) rfl
  replace hE := hE.tr hE0
  replace hm : sA mo q1 lv lvl2 row2 rm tm dt emR δ ((cmB V 0 d)) ((cmT ω 0 δ)) (hput hp2 mo (eO 3 [.int rm, .int (nI tm), .int (bM ((cmB V 0 d))), .int dt, .int (bK ((cmB V 0 d))), .ref q1, .ref lv])) := hm.setO hnd
  have hn := hm.le
  replace hV0 : hV G (hput hp2 mo (eO 3 [.int rm, .int (nI tm), .int (bM ((cmB V 0 d))), .int dt, .int (bK ((cmB V 0 d))), .ref q1, .ref lv])) H := hV0
  replace hA0 : hIn A (hput hp2 mo (eO 3 [.int rm, .int (nI tm), .int (bM ((cmB V 0 d))), .int dt, .int (bK ((cmB V 0 d))), .ref q1, .ref lv])) := hA0
  generalize hput hp2 mo (eO 3 [.int rm, .int (nI tm), .int (bM ((cmB V 0 d))), .int dt, .int (bK ((cmB V 0 d))), .ref q1, .ref lv]) = hp101 at hV0 hA0 hm hE hE0
  replace hm : sA mo q1 lv lvl2 row2 rm tm dt emR δ ((cmB V 0 d)) ((cmT ω 0 δ)) hp101 := hm
  refine lv_aload_n hx hb dX3_bind_30 rfl (lv_at hl 1 rfl) ?_
  refine h_wrV (As := []) (rest := []) hF (c_X3_settle l G A hp101 mo q1 lv lvl2 row2 rm tm dt emR δ ((cmB V 0 d)) ((cmT ω 0 δ)) hm 0 (cm_one hI) (hoT.bind hoD) hA0) 0 gX3_bind_X3_settle rfl (by decide +kernel) ⟨Nat.le_of_ble_eq_true rfl, Nat.le_of_ble_eq_true rfl⟩ hK0 hV0 hA hS hm.cmo rfl rfl rfl hl.1 rfl (Nat.le_of_ble_eq_true rfl) ⟨by show _ ≤ (2 + stC (cmB V 0 d) 4); omega, by show _ ≤ (65 * (2 + stC (cmB V 0 d) 4)); omega⟩ dX3_bind_31 (fun ro hp1 H locs hP1 hV0 hA0 hS => ?_)
  obtain ⟨rfl, ⟨lvl3, row3, hm⟩, hE3⟩ := hP1
  have hn := hm.le
  refine lv_aload_n hx hb dX3_bind_34 rfl (lv_at hl 1 rfl) ?_
  refine h_get (v := .int (bM ((stB (cmB V 0 d) 4)))) hx hb hts hi3 hown hK0 hV0 hm.cmo rfl 2 (by decide) hw0 rfl dX3_bind_35 ?_
  refine lv_iload_n hx hb dX3_bind_38 rfl (lv_at hl 0 rfl) ?_
  refine lv_isub hx hb dX3_bind_39 ?_
  refine W.widen (k := (2 + stC (cmB V 0 d) 4)) (n := (65 * (2 + stC (cmB V 0 d) 4))) (by omega) (by omega) ?_
  exact W.iret hx hb hr (h_qW ⟨rfl, ⟨_, _, _, hm⟩, hE.tr hE3⟩ hV0 hA0 hS) hS.2.2 dX3_bind_40 hlocks

set_option maxHeartbeats 1000000 in
set_option maxRecDepth 100000 in
theorem c_X3_bindN (l : Launch) (G : hG) (hp : HP) (mo dk lv : Nat) (lvl : Nat → Nat) (row : Nat → Nat → Nat) (rm : Int32) (tm : Nat) (dt : Int32) (d : Row) (δ : TG) (V : BV) (ω : TS) (hm : sA mo dk lv lvl row rm tm dt d δ V ω hp) (hz : szR d = 0) : hRd l yX3_bind wsX3_bind 0 0 G hp [.ref mo] (some (.int (bM V - bM V))) := by
  refine Met.ofW (cc := cX3_bind) (maxL := 2) (ret := (some .int)) (by decide) rfl ?_
  intro p e s m args below meth c s₁ B hml hv
  obtain ⟨rfl, hV0, hK0⟩ := hv
  have hx := B.exec
  have hb := B.bytes
  have hr := B.returns
  have hts := atoms_spec (ws := wsX3_bind) B.pre
  have hown : s.vm.findClass RX3 = some m.cls := findClass_of_methodNamed B.named
  have hlocks := B.notSynchronized
  have hF : CallFix p m c cX3_bind 2 s [.ref mo].toArray wsX3_bind RX3 := ⟨hx, hb, hml, hown, hts⟩
  have hw0 := hts (.fieldLink RX3 30 "SlipLevelsLaw$Sim" "moves" "I") (by decide +kernel)
  have hw1 := hts (.fieldLink RX3 15 "SlipLevelsLaw$Sim" "desk" "[[I") (by decide +kernel)
  have hi3 : ∀ w ∈ u_ws RX3 TX3 7, w ∈ wsX3_bind := by
    intro w h
    unfold wsX3_bind
    simp only [List.mem_cons, List.mem_append, h, true_or, or_true]
  have hl := lv_entry ([.ref mo]) (n := 2) (Nat.le_of_ble_eq_true rfl)
  rw [lg_entry_eq]
  generalize (lg_sl ([.ref mo]) ++ List.replicate (2 - (lg_sl ([.ref mo])).length) Slot.unset).toArray = ls at hl ⊢
  replace hl : lv_has ls 2 [(0, .ref mo)] := hl
  have hn := hm.le
  have hzd := szR_le d
  refine lv_aload_n hx hb dX3_bind_0 rfl (lv_at hl 0 rfl) ?_
  refine h_get (v := .int (bM V)) hx hb hts hi3 hown hK0 hV0 hm.cmo rfl 2 (by decide) hw0 rfl dX3_bind_1 ?_
  refine lv_istore_n (lv' := [(1, .int (bM V)), (0, .ref mo)]) hx hb dX3_bind_4 rfl hl (by decide) rfl (fun ls hl => ?_)
  refine lv_aload_n hx hb dX3_bind_5 rfl (lv_at hl 1 rfl) ?_
  refine h_get (v := .ref dk) hx hb hts hi3 hown hK0 hV0 hm.cmo rfl 5 (by decide) hw1 rfl dX3_bind_6 ?_
  refine h_alenQ hm.cdk.1 hx hb hK0 hV0 rfl dX3_bind_9 ?_
  refine h_if_le (a := szR d) (tgt := 34) hx hb dX3_bind_10 (by decide) (by omega) (fun c_10 => ?_) (fun c_10 => by omega)
  refine lv_aload_n hx hb dX3_bind_34 rfl (lv_at hl 1 rfl) ?_
  refine h_get (v := .int (bM V)) hx hb hts hi3 hown hK0 hV0 hm.cmo rfl 2 (by decide) hw0 rfl dX3_bind_35 ?_
  refine lv_iload_n hx hb dX3_bind_38 rfl (lv_at hl 0 rfl) ?_
  refine lv_isub hx hb dX3_bind_39 ?_
  exact h_iretR hx hb hr hlocks rfl dX3_bind_40

set_option maxHeartbeats 1000000 in
set_option maxRecDepth 100000 in
theorem c_X3_merge (l : Launch) (G : hG) (A : Nat → Prop) (hp : HP) (mo dk lv : Nat) (lvl : Nat → Nat) (row : Nat → Nat → Nat) (rm : Int32) (tm : Nat) (dt : Int32) (d : Row) (δ : TG) (V : BV) (ω : TS) (hm : sA mo dk lv lvl row rm tm dt d δ V ω hp) (lz : Nat) (hl4 : lz < 4) (h1 : oneB (bN V) lz) (hoT : oT V ω) (hA0 : hIn A hp) : hWr l yX3_merge wsX3_merge 3 79 (mgC V lz + stC (mgB V lz) 4) (65 * (mgC V lz + stC (mgB V lz) 4)) G A hp [.ref mo, .int (nI lz)] (fun ro hp' => ro = some (.int (bM (stB (mgB V lz) 4) - bM V)) ∧ (∃ lvl2 row2, sA mo dk lv lvl2 row2 rm tm dt d δ (stB (mgB V lz) 4) (stT (mgB V lz) (mgT V ω lz) 4) hp') ∧ exH hp hp') := by
  refine Met.ofW (cc := cX3_merge) (maxL := 3) (ret := (some .int)) (by decide) rfl ?_
  intro p e s m args below meth c s₁ B hml hv
  obtain ⟨rfl, hV0, hK0, hA⟩ := hv
  have hx := B.exec
  have hb := B.bytes
  have hr := B.returns
  have hts := atoms_spec (ws := wsX3_merge) B.pre
  have hown : s.vm.findClass RX3 = some m.cls := findClass_of_methodNamed B.named
  have hlocks := B.notSynchronized
  have hF : CallFix p m c cX3_merge 3 s [.ref mo, .int (nI lz)].toArray wsX3_merge RX3 := ⟨hx, hb, hml, hown, hts⟩
  have hw0 := hts (.fieldLink RX3 30 "SlipLevelsLaw$Sim" "moves" "I") (by decide +kernel)
  have hi3 : ∀ w ∈ u_ws RX3 TX3 7, w ∈ wsX3_merge := by
    intro w h
    unfold wsX3_merge
    simp only [List.mem_cons, List.mem_append, h, true_or, or_true]
  have hS : va_S A s.heap s.heap [] := va_S.rf
  have hl := lv_entry ([.ref mo, .int (nI lz)]) (n := 3) (Nat.le_of_ble_eq_true rfl)
  rw [lg_entry_eq]
  generalize (lg_sl ([.ref mo, .int (nI lz)]) ++ List.replicate (3 - (lg_sl ([.ref mo, .int (nI lz)])).length) Slot.unset).toArray = ls at hl ⊢
  replace hl : lv_has ls 3 [(0, .ref mo), (1, .int (nI lz))] := hl
  have hn := hm.le
  have hv9 := hm.v
  refine lv_aload_n hx hb dX3_merge_0 rfl (lv_at hl 0 rfl) ?_
  refine h_get (v := .int (bM V)) hx hb hts hi3 hown hK0 hV0 hm.cmo rfl 2 (by decide) hw0 rfl dX3_merge_1 ?_
  refine lv_istore_n (lv' := [(2, .int (bM V)), (0, .ref mo), (1, .int (nI lz))]) hx hb dX3_merge_4 rfl hl (by decide) rfl (fun ls hl => ?_)
  refine lv_aload_n hx hb dX3_merge_5 rfl (lv_at hl 1 rfl) ?_
  refine lv_iload_n hx hb dX3_merge_6 rfl (lv_at hl 2 rfl) ?_
  refine h_wrV (As := [.int (nI lz)]) (rest := []) hF (c_X3_mergeOne l G A hp mo dk lv lvl row rm tm dt d δ V ω hm lz hl4 h1 (hoT.L hl4) hA0) 1 gX3_merge_X3_mergeOne rfl (by decide +kernel) ⟨Nat.le_of_ble_eq_true rfl, Nat.le_of_ble_eq_true rfl⟩ hK0 hV0 hA hS hm.cmo rfl rfl rfl hl.1 rfl (Nat.le_of_ble_eq_true rfl) ⟨by show _ ≤ (mgC V lz + stC (mgB V lz) 4); omega, by show _ ≤ (65 * (mgC V lz + stC (mgB V lz) 4)); omega⟩ dX3_merge_7 (fun ro hp1 H locs hP1 hV0 hA0 hS => ?_)
  obtain ⟨rfl, ⟨lvl2, row2, hm⟩, hE⟩ := hP1
  have hn := hm.le
  refine lv_aload_n hx hb dX3_merge_10 rfl (lv_at hl 1 rfl) ?_
  refine h_wrV (As := []) (rest := []) hF (c_X3_settle l G A hp1 mo dk lv lvl2 row2 rm tm dt d δ ((mgB V lz)) ((mgT V ω lz)) hm (lz + 1) (mgB_one hl4 h1) (hoT.mg hl4 (fun r hr => (hv9.2 lz r hl4 hr).2)) hA0) 0 gX3_merge_X3_settle rfl (by decide +kernel) ⟨Nat.le_of_ble_eq_true rfl, Nat.le_of_ble_eq_true rfl⟩ hK0 hV0 hA hS hm.cmo rfl rfl rfl hl.1 rfl (Nat.le_of_ble_eq_true rfl) ⟨by show _ ≤ (mgC V lz + stC (mgB V lz) 4); omega, by show _ ≤ (65 * (mgC V lz + stC (mgB V lz) 4)); omega⟩ dX3_merge_11 (fun ro hp1 H locs hP1 hV0 hA0 hS => ?_)
  obtain ⟨rfl, ⟨lvl3, row3, hm⟩, hE3⟩ := hP1
  have hn := hm.le
  refine lv_aload_n hx hb dX3_merge_14 rfl (lv_at hl 1 rfl) ?_
  refine h_get (v := .int (bM ((stB (mgB V lz) 4)))) hx hb hts hi3 hown hK0 hV0 hm.cmo rfl 2 (by decide) hw0 rfl dX3_merge_15 ?_
  refine lv_iload_n hx hb dX3_merge_18 rfl (lv_at hl 0 rfl) ?_
  refine lv_isub hx hb dX3_merge_19 ?_
  refine W.widen (k := (mgC V lz + stC (mgB V lz) 4)) (n := (65 * (mgC V lz + stC (mgB V lz) 4))) (by omega) (by omega) ?_
  exact W.iret hx hb hr (h_qW ⟨rfl, ⟨_, _, hm⟩, hE.tr hE3⟩ hV0 hA0 hS) hS.2.2 dX3_merge_20 hlocks

theorem put_oD {d : Row} {δ : TG} {V : BV} {ω : TS} {x tm q : Nat} {v : Int32} (h : oD d δ V ω) (htm : ∀ l r y, l < 4 → r < bN V l → hasR (bG V l r) y = true → (ω l r y).1 ≤ tm) : oD (upd d x v) (putT δ x (tm + 1) q) V ω := by
  intro l r y hl hr hd hg
  unfold putT
  by_cases e : y = x
  · rw [if_pos e]
    have := htm l r y hl hr hg
    show (ω l r y).1 < tm + 1
    omega
  · rw [if_neg e]
    rw [hasR_upd_n d v e] at hd
    exact h l r y hl hr hd hg
theorem wd_ne {v : Int32} (hv : v = -1 ∨ ∃ w : Nat, w < 100 ∧ v = nI w) : v ≠ -2 := by
  rcases hv with h | ⟨n, hn, h⟩
  · rw [h]; decide
  · rw [h]; exact nIne2 hn
set_option maxHeartbeats 1000000 in
set_option maxRecDepth 100000 in
theorem c_X3_putN (l : Launch) (G : hG) (A : Nat → Prop) (hp : HP) (mo dk lv : Nat) (lvl : Nat → Nat) (row : Nat → Nat → Nat) (rm : Int32) (tm : Nat) (dt : Int32) (d : Row) (δ : TG) (V : BV) (ω : TS) (hm : sA mo dk lv lvl row rm tm dt d δ V ω hp) (hI : ∀ l, l < 4 → bN V l ≤ 2) (hoT : oT V ω) (hoD : oD d δ V ω) (hokd : okR d) (htd : ∀ y, hasR d y = true → (δ y).1 ≤ tm) (htm : ∀ l r y, l < 4 → r < bN V l → hasR (bG V l r) y = true → (ω l r y).1 ≤ tm) (ht20 : tm + 1 < 2 ^ 20) (x : Nat) (hx6 : x < 64) (v : Int32) (hv : v = -1 ∨ ∃ w : Nat, w < 100 ∧ v = nI w) (hlt : nI (szR (upd d x v)) < rm) (hA0 : hIn A hp) : hWr l yX3_put wsX3_put 1 28 3 (65 * 3) G A hp [.ref mo, .int (nI x), .int v] (fun ro hp' => ro = some (.int (bI false)) ∧ (∃ q1 dk2 lvl2 row2, sA mo dk2 lv lvl2 row2 rm (tm + 1) dt (upd d x v) (putT δ x (tm + 1) q1) V ω hp') ∧ exH hp hp') := by
  refine Met.ofW (cc := cX3_put) (maxL := 3) (ret := (some .boolean)) (by decide) rfl ?_
  intro p e s m args below meth c s₁ B hml hv
  obtain ⟨rfl, hV0, hK0, hA⟩ := hv
  have hx := B.exec
  have hb := B.bytes
  have hr := B.returns
  have hts := atoms_spec (ws := wsX3_put) B.pre
  have hown : s.vm.findClass RX3 = some m.cls := findClass_of_methodNamed B.named
  have hlocks := B.notSynchronized
  have hF : CallFix p m c cX3_put 3 s [.ref mo, .int (nI x), .int v].toArray wsX3_put RX3 := ⟨hx, hb, hml, hown, hts⟩
  have hw0 := hts (.fieldLink RX3 27 "SlipLevelsLaw$Sim" "time" "I") (by decide +kernel)
  have hw1 := hts (.fieldLink RX3 15 "SlipLevelsLaw$Sim" "desk" "[[I") (by decide +kernel)
  have hw2 := hts (.arrayClass .int) (by decide +kernel)
  have hw3 := hts (.initialized RL) (by decide +kernel)
  have hw4 := hts (.static yL_with) (by decide +kernel)
  have hw5 := hts (.fieldLink RX3 7 "SlipLevelsLaw$Sim" "room" "I") (by decide +kernel)
  have hi3 : ∀ w ∈ u_ws RX3 TX3 7, w ∈ wsX3_put := by
    intro w h
    unfold wsX3_put
    simp only [List.mem_cons, List.mem_append, h, true_or, or_true]
  have hS : va_S A s.heap s.heap [] := va_S.rf
  have hl := lv_entry ([.ref mo, .int (nI x), .int v]) (n := 3) (Nat.le_of_ble_eq_true rfl)
  rw [lg_entry_eq]
  generalize (lg_sl ([.ref mo, .int (nI x), .int v]) ++ List.replicate (3 - (lg_sl ([.ref mo, .int (nI x), .int v])).length) Slot.unset).toArray = ls at hl ⊢
  replace hl : lv_has ls 3 [(0, .ref mo), (1, .int (nI x)), (2, .int v)] := hl
  have hn := hm.le
  have hzd9 := szR_le d
  have hE : exH hp hp := exH.rf
  have hv2 := wd_ne hv
  have htm9 : ∀ y, hasR d y = true → (δ y).1 < tm + 1 := fun y hy => Nat.lt_succ_of_le (htd y hy)
  refine lv_aload_n hx hb dX3_put_0 rfl (lv_at hl 0 rfl) ?_
  refine lv_dup hx hb dX3_put_1 rfl ?_
  refine h_get (v := .int (nI tm)) hx hb hts hi3 hown hK0 hV0 hm.cmo rfl 1 (by decide) hw0 rfl dX3_put_2 ?_
  refine lv_iconst (v := nI 1) hx hb dX3_put_5 (by decide) ?_
  refine h_iaddN hx hb dX3_put_6 ?_
  refine h_put (v := .int (nI (tm + 1))) hx hb hts hi3 tyX3 tyX3_ok nmX3 hown hK0 hV0 hA0 hS hm.cmo rfl 1 (by decide) hw0 rfl (by rfl) (by rfl) (Nat.le_of_ble_eq_true rfl) dX3_put_7 (fun H locs hV0 hA0 hS => ?_)
  have hE0 := exH.rf.set (hp0 := hp) hm.cmo (e := eO 3 [.int rm, .int (nI (tm + 1)), .int (bM V), .int dt, .int (bK V), .ref dk, .ref lv]) rfl
  replace hE := hE.tr hE0
  replace hm : sA mo dk lv lvl row rm (tm + 1) dt d δ V ω (hput hp mo (eO 3 [.int rm, .int (nI (tm + 1)), .int (bM V), .int dt, .int (bK V), .ref dk, .ref lv])) := hm.setO hm.cdk
  have hn := hm.le
  replace hV0 : hV G (hput hp mo (eO 3 [.int rm, .int (nI (tm + 1)), .int (bM V), .int dt, .int (bK V), .ref dk, .ref lv])) H := hV0
  replace hA0 : hIn A (hput hp mo (eO 3 [.int rm, .int (nI (tm + 1)), .int (bM V), .int dt, .int (bK V), .ref dk, .ref lv])) := hA0
  generalize hput hp mo (eO 3 [.int rm, .int (nI (tm + 1)), .int (bM V), .int dt, .int (bK V), .ref dk, .ref lv]) = hp101 at hV0 hA0 hm hE hE0
  refine lv_aload_n hx hb dX3_put_10 rfl (lv_at hl 0 rfl) ?_
  refine lv_aload_n hx hb dX3_put_11 rfl (lv_at hl 0 rfl) ?_
  refine h_get (v := .ref dk) hx hb hts hi3 hown hK0 hV0 hm.cmo rfl 5 (by decide) hw1 rfl dX3_put_12 ?_
  refine lv_iconst (v := nI 3) hx hb dX3_put_15 (by decide) ?_
  refine h_newI hx hb hw2 hK0 hV0 hA0 hS hA (n := 3) (by omega) (by show _ ≤ 3; omega) (by show _ ≤ (65 * 3); omega) dX3_put_16 (fun q1 H hqq1 hV0 hA0 hS => ?_)
  refine lv_dup hx hb dX3_put_18 rfl ?_
  refine lv_iconst (v := nI 0) hx hb dX3_put_19 (by decide) ?_
  refine lv_iload_n hx hb dX3_put_20 rfl (lv_at hl 1 rfl) ?_
  refine h_iast (i := 0) (x := nI x) hx hb hK0 hV0 hA0 hS (hput_s _ _ _) (by omega) (by omega) dX3_put_21 (fun H locs hV0 hA0 hS => ?_)
  rw [hput_hput] at hV0 hA0
  refine lv_dup hx hb dX3_put_22 rfl ?_
  refine lv_iconst (v := nI 1) hx hb dX3_put_23 (by decide) ?_
  refine lv_iload_n hx hb dX3_put_24 rfl (lv_at hl 2 rfl) ?_
  refine h_iast (i := 1) (x := v) hx hb hK0 hV0 hA0 hS (hput_s _ _ _) (by omega) (by omega) dX3_put_25 (fun H locs hV0 hA0 hS => ?_)
  rw [hput_hput] at hV0 hA0
  refine lv_dup hx hb dX3_put_26 rfl ?_
  refine lv_iconst (v := nI 2) hx hb dX3_put_27 (by decide) ?_
  refine lv_aload_n hx hb dX3_put_28 rfl (lv_at hl 0 rfl) ?_
  have hle1 : leH hp101 (hput hp101 q1 (eI 3 (upd (upd (fun _ => 0) 0 (nI x)) 1 (v)))) := leH.rf.new hqq1
  have hm2 := hm.mv hle1
  refine h_get (v := .int (nI (tm + 1))) hx hb hts hi3 hown hK0 hV0 hm2.cmo rfl 1 (by decide) hw0 rfl dX3_put_29 ?_
  refine h_iast (i := 2) (x := nI (tm + 1)) hx hb hK0 hV0 hA0 hS (hput_s _ _ _) (by omega) (by omega) dX3_put_32 (fun H locs hV0 hA0 hS => ?_)
  rw [hput_hput] at hV0 hA0
  have hle1 : leH hp101 (hput hp101 q1 (eI 3 (upd (upd (upd (fun _ => 0) 0 (nI x)) 1 (v)) 2 (nI (tm + 1))))) := leH.rf.new hqq1
  have hm2 := hm.mv hle1
  have hsl9 : sl (hput hp101 q1 (eI 3 (upd (upd (upd (fun _ => 0) 0 (nI x)) 1 (v)) 2 (nI (tm + 1))))) q1 x v (tm + 1) := ⟨⟨_, hput_s _ _ _, rfl, rfl, rfl⟩, hx6, by omega⟩
  replace hV0 : hV G (hput hp101 q1 (eI 3 (upd (upd (upd (fun _ => 0) 0 (nI x)) 1 (v)) 2 (nI (tm + 1))))) H := hV0
  replace hA0 : hIn A (hput hp101 q1 (eI 3 (upd (upd (upd (fun _ => 0) 0 (nI x)) 1 (v)) 2 (nI (tm + 1))))) := hA0
  generalize hput hp101 q1 (eI 3 (upd (upd (upd (fun _ => 0) 0 (nI x)) 1 (v)) 2 (nI (tm + 1)))) = hp2 at hV0 hA0 hm2 hle1 hsl9
  refine h_wrSN (As := [.ref dk, .ref q1]) (rest := [.ref mo]) hF (c_L_with l G A hp2 dk d δ hm2.cdk q1 x v (tm + 1) hsl9 hv2 hA0) 2 gX3_put_L_with_n39 rfl hK0.2.2.2.2.2.1 hw3 hw4 (by decide +kernel) ⟨Nat.le_of_ble_eq_true rfl, Nat.le_of_ble_eq_true rfl⟩ hK0 hV0 hA hS rfl hl.1 rfl (Nat.le_of_ble_eq_true rfl) ⟨by show _ ≤ 3; omega, by show _ ≤ (65 * 3); omega⟩ dX3_put_33 (fun ro hp1 H locs hP1 hV0 hA0 hS => ?_)
  obtain ⟨q9, rfl, hq9, hle9⟩ := hP1
  rw [put_F htm9, put_T htm9] at hq9
  replace hm := hm2.mv hle9
  replace hE := (hE.tr hle1.x).tr hle9.x
  refine W.widen (k := 3) (n := 65 * 3) (by omega) (by omega) ?_
  refine h_put (v := .ref q9) hx hb hts hi3 tyX3 tyX3_ok nmX3 hown hK0 hV0 hA0 hS hm.cmo rfl 5 (by decide) hw1 rfl (by rfl) (by rfl) (Nat.le_of_ble_eq_true rfl) dX3_put_36 (fun H locs hV0 hA0 hS => ?_)
  have hE0 := exH.rf.set (hp0 := hp1) hm.cmo (e := eO 3 [.int rm, .int (nI (tm + 1)), .int (bM V), .int dt, .int (bK V), .ref q9, .ref lv]) rfl
  replace hE := hE.tr hE0
  replace hm : sA mo q9 lv lvl row rm (tm + 1) dt ((upd d x v)) ((putT δ x (tm + 1) q1)) V ω (hput hp1 mo (eO 3 [.int rm, .int (nI (tm + 1)), .int (bM V), .int dt, .int (bK V), .ref q9, .ref lv])) := hm.setO hq9
  have hn := hm.le
  replace hV0 : hV G (hput hp1 mo (eO 3 [.int rm, .int (nI (tm + 1)), .int (bM V), .int dt, .int (bK V), .ref q9, .ref lv])) H := hV0
  replace hA0 : hIn A (hput hp1 mo (eO 3 [.int rm, .int (nI (tm + 1)), .int (bM V), .int dt, .int (bK V), .ref q9, .ref lv])) := hA0
  generalize hput hp1 mo (eO 3 [.int rm, .int (nI (tm + 1)), .int (bM V), .int dt, .int (bK V), .ref q9, .ref lv]) = hp102 at hV0 hA0 hm hE hE0
  replace hm : sA mo q9 lv lvl row rm (tm + 1) dt ((upd d x v)) ((putT δ x (tm + 1) q1)) V ω hp102 := hm
  have hn := hm.le
  have hzd := szR_le (upd d x v)
  refine lv_aload_n hx hb dX3_put_39 rfl (lv_at hl 0 rfl) ?_
  refine h_get (v := .ref q9) hx hb hts hi3 hown hK0 hV0 hm.cmo rfl 5 (by decide) hw1 rfl dX3_put_40 ?_
  refine h_alenQ hm.cdk.1 hx hb hK0 hV0 rfl dX3_put_43 ?_
  refine lv_aload_n hx hb dX3_put_44 rfl (lv_at hl 0 rfl) ?_
  refine h_get (v := .int rm) hx hb hts hi3 hown hK0 hV0 hm.cmo rfl 0 (by decide) hw5 rfl dX3_put_45 ?_
  refine lv_icmp_ge (tgt := 53) hx hb dX3_put_48 (by decide) (fun c_48 => absurd hlt (Int32.not_lt.mpr c_48)) (fun c_48 => ?_)
  refine lv_iconst (v := nI 0) hx hb dX3_put_51 (by decide) ?_
  refine W.widen (k := 3) (n := (65 * 3)) (by omega) (by omega) ?_
  exact W.zret hx hb hr (by first | exact narrow_bI _ | rfl) (h_qW ⟨rfl, ⟨_, _, _, _, hm⟩, hE⟩ hV0 hA0 hS) hS.2.2 dX3_put_52 hlocks

set_option maxHeartbeats 1000000 in
set_option maxRecDepth 100000 in
theorem c_X3_putB (l : Launch) (G : hG) (A : Nat → Prop) (hp : HP) (mo dk lv : Nat) (lvl : Nat → Nat) (row : Nat → Nat → Nat) (rm : Int32) (tm : Nat) (dt : Int32) (d : Row) (δ : TG) (V : BV) (ω : TS) (hm : sA mo dk lv lvl row rm tm dt d δ V ω hp) (hI : ∀ l, l < 4 → bN V l ≤ 2) (hoT : oT V ω) (hoD : oD d δ V ω) (hokd : okR d) (htd : ∀ y, hasR d y = true → (δ y).1 ≤ tm) (htm : ∀ l r y, l < 4 → r < bN V l → hasR (bG V l r) y = true → (ω l r y).1 ≤ tm) (ht20 : tm + 1 < 2 ^ 20) (x : Nat) (hx6 : x < 64) (v : Int32) (hv : v = -1 ∨ ∃ w : Nat, w < 100 ∧ v = nI w) (hlt : ¬ nI (szR (upd d x v)) < rm) (hA0 : hIn A hp) : hWr l yX3_put wsX3_put 4 100 (5 + stC (cmB V 0 (upd d x v)) 4) (65 * (5 + stC (cmB V 0 (upd d x v)) 4)) G A hp [.ref mo, .int (nI x), .int v] (fun ro hp' => ro = some (.int (bI true)) ∧ (∃ q1 dk2 lvl2 row2, sA mo dk2 lv lvl2 row2 rm (tm + 1) dt emR (putT δ x (tm + 1) q1) (stB (cmB V 0 (upd d x v)) 4) (stT (cmB V 0 (upd d x v)) (cmT ω 0 (putT δ x (tm + 1) q1)) 4) hp') ∧ exH hp hp') := by
  refine Met.ofW (cc := cX3_put) (maxL := 3) (ret := (some .boolean)) (by decide) rfl ?_
  intro p e s m args below meth c s₁ B hml hv
  obtain ⟨rfl, hV0, hK0, hA⟩ := hv
  have hx := B.exec
  have hb := B.bytes
  have hr := B.returns
  have hts := atoms_spec (ws := wsX3_put) B.pre
  have hown : s.vm.findClass RX3 = some m.cls := findClass_of_methodNamed B.named
  have hlocks := B.notSynchronized
  have hF : CallFix p m c cX3_put 3 s [.ref mo, .int (nI x), .int v].toArray wsX3_put RX3 := ⟨hx, hb, hml, hown, hts⟩
  have hw0 := hts (.fieldLink RX3 27 "SlipLevelsLaw$Sim" "time" "I") (by decide +kernel)
  have hw1 := hts (.fieldLink RX3 15 "SlipLevelsLaw$Sim" "desk" "[[I") (by decide +kernel)
  have hw2 := hts (.arrayClass .int) (by decide +kernel)
  have hw3 := hts (.initialized RL) (by decide +kernel)
  have hw4 := hts (.static yL_with) (by decide +kernel)
  have hw5 := hts (.fieldLink RX3 7 "SlipLevelsLaw$Sim" "room" "I") (by decide +kernel)
  have hi3 : ∀ w ∈ u_ws RX3 TX3 7, w ∈ wsX3_put := by
    intro w h
    unfold wsX3_put
    simp only [List.mem_cons, List.mem_append, h, true_or, or_true]
  have hS : va_S A s.heap s.heap [] := va_S.rf
  have hl := lv_entry ([.ref mo, .int (nI x), .int v]) (n := 3) (Nat.le_of_ble_eq_true rfl)
  rw [lg_entry_eq]
  generalize (lg_sl ([.ref mo, .int (nI x), .int v]) ++ List.replicate (3 - (lg_sl ([.ref mo, .int (nI x), .int v])).length) Slot.unset).toArray = ls at hl ⊢
  replace hl : lv_has ls 3 [(0, .ref mo), (1, .int (nI x)), (2, .int v)] := hl
  have hn := hm.le
  have hzd9 := szR_le d
  have hE : exH hp hp := exH.rf
  have hv2 := wd_ne hv
  have htm9 : ∀ y, hasR d y = true → (δ y).1 < tm + 1 := fun y hy => Nat.lt_succ_of_le (htd y hy)
  refine lv_aload_n hx hb dX3_put_0 rfl (lv_at hl 0 rfl) ?_
  refine lv_dup hx hb dX3_put_1 rfl ?_
  refine h_get (v := .int (nI tm)) hx hb hts hi3 hown hK0 hV0 hm.cmo rfl 1 (by decide) hw0 rfl dX3_put_2 ?_
  refine lv_iconst (v := nI 1) hx hb dX3_put_5 (by decide) ?_
  refine h_iaddN hx hb dX3_put_6 ?_
  refine h_put (v := .int (nI (tm + 1))) hx hb hts hi3 tyX3 tyX3_ok nmX3 hown hK0 hV0 hA0 hS hm.cmo rfl 1 (by decide) hw0 rfl (by rfl) (by rfl) (Nat.le_of_ble_eq_true rfl) dX3_put_7 (fun H locs hV0 hA0 hS => ?_)
  have hE0 := exH.rf.set (hp0 := hp) hm.cmo (e := eO 3 [.int rm, .int (nI (tm + 1)), .int (bM V), .int dt, .int (bK V), .ref dk, .ref lv]) rfl
  replace hE := hE.tr hE0
  replace hm : sA mo dk lv lvl row rm (tm + 1) dt d δ V ω (hput hp mo (eO 3 [.int rm, .int (nI (tm + 1)), .int (bM V), .int dt, .int (bK V), .ref dk, .ref lv])) := hm.setO hm.cdk
  have hn := hm.le
  replace hV0 : hV G (hput hp mo (eO 3 [.int rm, .int (nI (tm + 1)), .int (bM V), .int dt, .int (bK V), .ref dk, .ref lv])) H := hV0
  replace hA0 : hIn A (hput hp mo (eO 3 [.int rm, .int (nI (tm + 1)), .int (bM V), .int dt, .int (bK V), .ref dk, .ref lv])) := hA0
  generalize hput hp mo (eO 3 [.int rm, .int (nI (tm + 1)), .int (bM V), .int dt, .int (bK V), .ref dk, .ref lv]) = hp101 at hV0 hA0 hm hE hE0
  refine lv_aload_n hx hb dX3_put_10 rfl (lv_at hl 0 rfl) ?_
  refine lv_aload_n hx hb dX3_put_11 rfl (lv_at hl 0 rfl) ?_
  refine h_get (v := .ref dk) hx hb hts hi3 hown hK0 hV0 hm.cmo rfl 5 (by decide) hw1 rfl dX3_put_12 ?_
  refine lv_iconst (v := nI 3) hx hb dX3_put_15 (by decide) ?_
  refine h_newI hx hb hw2 hK0 hV0 hA0 hS hA (n := 3) (by omega) (by show _ ≤ (5 + stC (cmB V 0 (upd d x v)) 4); omega) (by show _ ≤ (65 * (5 + stC (cmB V 0 (upd d x v)) 4)); omega) dX3_put_16 (fun q1 H hqq1 hV0 hA0 hS => ?_)
  refine lv_dup hx hb dX3_put_18 rfl ?_
  refine lv_iconst (v := nI 0) hx hb dX3_put_19 (by decide) ?_
  refine lv_iload_n hx hb dX3_put_20 rfl (lv_at hl 1 rfl) ?_
  refine h_iast (i := 0) (x := nI x) hx hb hK0 hV0 hA0 hS (hput_s _ _ _) (by omega) (by omega) dX3_put_21 (fun H locs hV0 hA0 hS => ?_)
  rw [hput_hput] at hV0 hA0
  refine lv_dup hx hb dX3_put_22 rfl ?_
  refine lv_iconst (v := nI 1) hx hb dX3_put_23 (by decide) ?_
  refine lv_iload_n hx hb dX3_put_24 rfl (lv_at hl 2 rfl) ?_
  refine h_iast (i := 1) (x := v) hx hb hK0 hV0 hA0 hS (hput_s _ _ _) (by omega) (by omega) dX3_put_25 (fun H locs hV0 hA0 hS => ?_)
  rw [hput_hput] at hV0 hA0
  refine lv_dup hx hb dX3_put_26 rfl ?_
  refine lv_iconst (v := nI 2) hx hb dX3_put_27 (by decide) ?_
  refine lv_aload_n hx hb dX3_put_28 rfl (lv_at hl 0 rfl) ?_
  have hle1 : leH hp101 (hput hp101 q1 (eI 3 (upd (upd (fun _ => 0) 0 (nI x)) 1 (v)))) := leH.rf.new hqq1
  have hm2 := hm.mv hle1
  refine h_get (v := .int (nI (tm + 1))) hx hb hts hi3 hown hK0 hV0 hm2.cmo rfl 1 (by decide) hw0 rfl dX3_put_29 ?_
  refine h_iast (i := 2) (x := nI (tm + 1)) hx hb hK0 hV0 hA0 hS (hput_s _ _ _) (by omega) (by omega) dX3_put_32 (fun H locs hV0 hA0 hS => ?_)
  rw [hput_hput] at hV0 hA0
  have hle1 : leH hp101 (hput hp101 q1 (eI 3 (upd (upd (upd (fun _ => 0) 0 (nI x)) 1 (v)) 2 (nI (tm + 1))))) := leH.rf.new hqq1
  have hm2 := hm.mv hle1
  have hsl9 : sl (hput hp101 q1 (eI 3 (upd (upd (upd (fun _ => 0) 0 (nI x)) 1 (v)) 2 (nI (tm + 1))))) q1 x v (tm + 1) := ⟨⟨_, hput_s _ _ _, rfl, rfl, rfl⟩, hx6, by omega⟩
  replace hV0 : hV G (hput hp101 q1 (eI 3 (upd (upd (upd (fun _ => 0) 0 (nI x)) 1 (v)) 2 (nI (tm + 1))))) H := hV0
  replace hA0 : hIn A (hput hp101 q1 (eI 3 (upd (upd (upd (fun _ => 0) 0 (nI x)) 1 (v)) 2 (nI (tm + 1))))) := hA0
  generalize hput hp101 q1 (eI 3 (upd (upd (upd (fun _ => 0) 0 (nI x)) 1 (v)) 2 (nI (tm + 1)))) = hp2 at hV0 hA0 hm2 hle1 hsl9
  refine h_wrSN (As := [.ref dk, .ref q1]) (rest := [.ref mo]) hF (c_L_with l G A hp2 dk d δ hm2.cdk q1 x v (tm + 1) hsl9 hv2 hA0) 2 gX3_put_L_with_n39 rfl hK0.2.2.2.2.2.1 hw3 hw4 (by decide +kernel) ⟨Nat.le_of_ble_eq_true rfl, Nat.le_of_ble_eq_true rfl⟩ hK0 hV0 hA hS rfl hl.1 rfl (Nat.le_of_ble_eq_true rfl) ⟨by show _ ≤ (5 + stC (cmB V 0 (upd d x v)) 4); omega, by show _ ≤ (65 * (5 + stC (cmB V 0 (upd d x v)) 4)); omega⟩ dX3_put_33 (fun ro hp1 H locs hP1 hV0 hA0 hS => ?_)
  obtain ⟨q9, rfl, hq9, hle9⟩ := hP1
  rw [put_F htm9, put_T htm9] at hq9
  replace hm := hm2.mv hle9
  replace hE := (hE.tr hle1.x).tr hle9.x
  refine W.widen (k := 3) (n := 65 * 3) (by omega) (by omega) ?_
  refine h_put (v := .ref q9) hx hb hts hi3 tyX3 tyX3_ok nmX3 hown hK0 hV0 hA0 hS hm.cmo rfl 5 (by decide) hw1 rfl (by rfl) (by rfl) (Nat.le_of_ble_eq_true rfl) dX3_put_36 (fun H locs hV0 hA0 hS => ?_)
  have hE0 := exH.rf.set (hp0 := hp1) hm.cmo (e := eO 3 [.int rm, .int (nI (tm + 1)), .int (bM V), .int dt, .int (bK V), .ref q9, .ref lv]) rfl
  replace hE := hE.tr hE0
  replace hm : sA mo q9 lv lvl row rm (tm + 1) dt ((upd d x v)) ((putT δ x (tm + 1) q1)) V ω (hput hp1 mo (eO 3 [.int rm, .int (nI (tm + 1)), .int (bM V), .int dt, .int (bK V), .ref q9, .ref lv])) := hm.setO hq9
  have hn := hm.le
  replace hV0 : hV G (hput hp1 mo (eO 3 [.int rm, .int (nI (tm + 1)), .int (bM V), .int dt, .int (bK V), .ref q9, .ref lv])) H := hV0
  replace hA0 : hIn A (hput hp1 mo (eO 3 [.int rm, .int (nI (tm + 1)), .int (bM V), .int dt, .int (bK V), .ref q9, .ref lv])) := hA0
  generalize hput hp1 mo (eO 3 [.int rm, .int (nI (tm + 1)), .int (bM V), .int dt, .int (bK V), .ref q9, .ref lv]) = hp102 at hV0 hA0 hm hE hE0
  replace hm : sA mo q9 lv lvl row rm (tm + 1) dt ((upd d x v)) ((putT δ x (tm + 1) q1)) V ω hp102 := hm
  have hn := hm.le
  have hzd := szR_le (upd d x v)
  refine lv_aload_n hx hb dX3_put_39 rfl (lv_at hl 0 rfl) ?_
  refine h_get (v := .ref q9) hx hb hts hi3 hown hK0 hV0 hm.cmo rfl 5 (by decide) hw1 rfl dX3_put_40 ?_
  refine h_alenQ hm.cdk.1 hx hb hK0 hV0 rfl dX3_put_43 ?_
  refine lv_aload_n hx hb dX3_put_44 rfl (lv_at hl 0 rfl) ?_
  refine h_get (v := .int rm) hx hb hts hi3 hown hK0 hV0 hm.cmo rfl 0 (by decide) hw5 rfl dX3_put_45 ?_
  refine lv_icmp_ge (tgt := 53) hx hb dX3_put_48 (by decide) (fun c_48 => ?_) (fun c_48 => absurd (Int32.not_le.mp c_48) hlt)
  refine lv_aload_n hx hb dX3_put_53 rfl (lv_at hl 0 rfl) ?_
  refine h_wrV (As := []) (rest := []) hF (c_X3_bind l G A hp102 mo q9 lv lvl row rm (tm + 1) dt ((upd d x v)) ((putT δ x (tm + 1) q1)) V ω hm hI hoT (put_oD hoD htm) (okR_put hokd hx6 hv) (szR_put hx6 hv2) hA0) 0 gX3_put_X3_bind rfl (by decide +kernel) ⟨Nat.le_of_ble_eq_true rfl, Nat.le_of_ble_eq_true rfl⟩ hK0 hV0 hA hS hm.cmo rfl rfl rfl hl.1 rfl (Nat.le_of_ble_eq_true rfl) ⟨by show _ ≤ (5 + stC (cmB V 0 (upd d x v)) 4); omega, by show _ ≤ (65 * (5 + stC (cmB V 0 (upd d x v)) 4)); omega⟩ dX3_put_54 (fun ro hp1 H locs hP1 hV0 hA0 hS => ?_)
  obtain ⟨rfl, ⟨dk3, lvl3, row3, hm⟩, hE3⟩ := hP1
  refine lv_pop hx hb dX3_put_57 rfl ?_
  refine lv_iconst (v := nI 1) hx hb dX3_put_58 (by decide) ?_
  refine W.widen (k := (5 + stC (cmB V 0 (upd d x v)) 4)) (n := (65 * (5 + stC (cmB V 0 (upd d x v)) 4))) (by omega) (by omega) ?_
  exact W.zret hx hb hr (by first | exact narrow_bI _ | rfl) (h_qW ⟨rfl, ⟨_, _, _, _, hm⟩, hE.tr hE3⟩ hV0 hA0 hS) hS.2.2 dX3_put_59 hlocks
