/-! Sim: front -/
set_option maxHeartbeats 1000000 in
set_option maxRecDepth 100000 in
theorem c_X3_front (l : Launch) (G : hG) (A : Nat → Prop) (hp : HP) (mo dk lv : Nat) (lvl : Nat → Nat) (row : Nat → Nat → Nat) (rm : Int32) (tm : Nat) (dt : Int32) (d : Row) (δ : TG) (V : BV) (ω : TS) (hm : sA mo dk lv lvl row rm tm dt d δ V ω hp) (lz : Nat) (hl4 : lz < 4) (hn2 : bN V lz ≤ 2) (q : Nat) (f : Row) (w : TG) (hq : rn hp q f w) (hz : 0 < szR f) (hok : okR f) (hA0 : hIn A hp) : hWr l yX3_front wsX3_front 0 0 1 65 G A hp [.ref mo, .int (nI lz), .ref q] (fun ro hp' => ro = none ∧ (∃ lvl2 row2, sA mo dk lv lvl2 row2 rm tm dt d δ (cmB V lz f) (cmT ω lz w) hp') ∧ exH hp hp') := by
  refine Met.ofW (cc := cX3_front) (maxL := 5) (ret := none) (by decide) rfl ?_
  intro p e s m args below meth c s₁ B hml hv
  obtain ⟨rfl, hV0, hK0, hA⟩ := hv
  have hx := B.exec
  have hb := B.bytes
  have hr := B.returns
  have hts := atoms_spec (ws := wsX3_front) B.pre
  have hown : s.vm.findClass RX3 = some m.cls := findClass_of_methodNamed B.named
  have hlocks := B.notSynchronized
  have hF : CallFix p m c cX3_front 5 s [.ref mo, .int (nI lz), .ref q].toArray wsX3_front RX3 := ⟨hx, hb, hml, hown, hts⟩
  have hw0 := hts (.fieldLink RX3 22 "SlipLevelsLaw$Sim" "levels" "[[[[I") (by decide +kernel)
  have hw1 := hts (.classLink RX3 21 "[[I") (by decide +kernel)
  have hw2 := hts (.fieldLink RX3 30 "SlipLevelsLaw$Sim" "moves" "I") (by decide +kernel)
  have hi3 : ∀ w ∈ u_ws RX3 TX3 7, w ∈ wsX3_front := by
    intro w h
    unfold wsX3_front
    simp only [List.mem_cons, List.mem_append, h, true_or, or_true]
  have hS : va_S A s.heap s.heap [] := va_S.rf
  have hl := lv_entry ([.ref mo, .int (nI lz), .ref q]) (n := 5) (Nat.le_of_ble_eq_true rfl)
  rw [lg_entry_eq]
  generalize (lg_sl ([.ref mo, .int (nI lz), .ref q]) ++ List.replicate (5 - (lg_sl ([.ref mo, .int (nI lz), .ref q])).length) Slot.unset).toArray = ls at hl ⊢
  replace hl : lv_has ls 5 [(0, .ref mo), (1, .int (nI lz)), (2, .ref q)] := hl
  have hn := hm.le
  have hzf := szR_le f
  refine lv_aload_n hx hb dX3_front_0 rfl (lv_at hl 0 rfl) ?_
  refine h_get (v := .ref lv) hx hb hts hi3 hown hK0 hV0 hm.cmo rfl 6 (by decide) hw0 rfl dX3_front_1 ?_
  refine lv_iload_n hx hb dX3_front_4 rfl (lv_at hl 1 rfl) ?_
  refine h_aaldE (i := lz) hm.clv hx hb hK0 hV0 rfl rfl (by omega) (by omega) dX3_front_5 ?_
  refine h_alenQ (hm.clvl (l := lz) (by omega)) hx hb hK0 hV0 rfl dX3_front_6 ?_
  refine lv_iconst (v := nI 1) hx hb dX3_front_7 (by decide) ?_
  refine h_iaddN hx hb dX3_front_8 ?_
  refine h_newqA (t := 4) (ty := .array .int) hx hb hK0.2.2.2.1 rfl hown hw1 hK0 hV0 hA0 hS hA (n := bN V lz + 1) (by omega) (by show _ ≤ 1; omega) (by show _ ≤ 65; omega) dX3_front_9 (fun q1 H hqq1 hV0 hA0 hS => ?_)
  have hle : leH hp (hput hp q1 (eQ 4 (bN V lz + 1) (fun _ => none))) := leH.rf.new hqq1
  have hm1 := hm.mv hle
  have hq1 : (hput hp q1 (eQ 4 (bN V lz + 1) (fun _ => none))) q1 = some (eQ 4 (bN V lz + 1) (fun _ => none)) := hput_s _ _ _
  have hrq : rn (hput hp q1 (eQ 4 (bN V lz + 1) (fun _ => none))) q f w := hq.mv hle.x
  refine lv_astore_n (lv' := [(3, .ref q1), (0, .ref mo), (1, .int (nI lz)), (2, .ref q)]) hx hb dX3_front_12 rfl hl (by decide) rfl (fun ls hl => ?_)
  refine lv_aload_n hx hb dX3_front_13 rfl (lv_at hl 0 rfl) ?_
  refine lv_iconst (v := nI 0) hx hb dX3_front_14 (by decide) ?_
  refine lv_aload_n hx hb dX3_front_15 rfl (lv_at hl 3 rfl) ?_
  obtain ⟨QF, hQF, hQs⟩ := hrq.1
  refine h_aastA (i := 0) hx hb hK0 hV0 hA0 hS hq1 hQF (by omega) (by omega) dX3_front_16 (fun H locs hV0 hA0 hS => ?_)
  rw [hput_hput] at hV0 hA0
  have hle : leH hp (hput hp q1 (eQ 4 (bN V lz + 1) (va_up (fun _ => none) 0 (some q)))) := leH.rf.new hqq1
  have hm1 := hm.mv hle
  have hq1 : (hput hp q1 (eQ 4 (bN V lz + 1) (va_up (fun _ => none) 0 (some q)))) q1 = some (eQ 4 (bN V lz + 1) (va_up (fun _ => none) 0 (some q))) := hput_s _ _ _
  have hrq : rn (hput hp q1 (eQ 4 (bN V lz + 1) (va_up (fun _ => none) 0 (some q)))) q f w := hq.mv hle.x
  refine lv_iconst (v := nI 1) hx hb dX3_front_17 (by decide) ?_
  refine lv_istore (lv' := [(4, .int (nI 1)), (3, .ref q1), (0, .ref mo), (1, .int (nI lz)), (2, .ref q)]) hx hb dX3_front_18 hl (by decide) rfl (fun ls hl => ?_)
  replace hl : lv_has ls 5 [(4, .int (nI (0 + 1))), (3, .ref q1), (0, .ref mo), (1, .int (nI lz)), (2, .ref q)] := lv_sub hl [0, 1, 2, 3, 4] rfl
  refine h_loopW (G := G) (A := A) (H0 := s.heap) (Wf := fun k H locs ls => W p l e (headSpec wsX3_front { frames := 0, cells := 1, slots := 65, locals := 0 }).room s m ([.ref mo, .int (nI lz), .ref q].toArray) below meth c H locs (0 + 1) (0 + (bN V lz + 1)) (MQ below (hW G A (fun ro hp' => ro = none ∧ (∃ lvl2 row2, sA mo dk lv lvl2 row2 rm tm dt d δ (cmB V lz f) (cmT ω lz w) hp') ∧ exH hp hp')) ([.ref mo, .int (nI lz), .ref q].toArray) s 1 65 A) (F0 m 20 ls [])) (bN V lz) (fun k => [(4, .int (nI (k + 1))), (3, .ref q1), (0, .ref mo), (1, .int (nI lz)), (2, .ref q)]) (fun k hp' => ∃ M, hp' = hput hp q1 (eQ 4 (bN V lz + 1) M) ∧ ∀ i, i < k + 1 → M i = some ((fun r => if r = 0 then q else row lz (r - 1)) i)) (fun k hi20 hp' H locs hI20 hV0 hA0 hS ih20 ls hl => ?_) 0 (Nat.zero_le _) _ H locs ⟨_, rfl, fun i hi => by rw [show i = 0 by omega]; rfl⟩ hV0 hA0 hS ls hl
  obtain ⟨M, rfl, hM⟩ := hI20
  have hle : leH hp (hput hp q1 (eQ 4 (bN V lz + 1) M)) := leH.rf.new hqq1
  have hm1 := hm.mv hle
  have hq1 : (hput hp q1 (eQ 4 (bN V lz + 1) M)) q1 = some (eQ 4 (bN V lz + 1) M) := hput_s _ _ _
  have hrq : rn (hput hp q1 (eQ 4 (bN V lz + 1) M)) q f w := hq.mv hle.x
  refine lv_iload hx hb dX3_front_20 (lv_at hl 0 rfl) ?_
  refine lv_aload_n hx hb dX3_front_22 rfl (lv_at hl 1 rfl) ?_
  refine h_alen hx hb hK0 hV0 hq1 rfl dX3_front_23 ?_
  refine h_icmp_ge (a := k + 1) (b := bN V lz + 1) (tgt := 48) hx hb dX3_front_24 (by decide) (by omega) (by omega) (fun c_24 => ?_) (fun c_24 => ?_)
  · obtain rfl : k = bN V lz := by omega
    refine lv_aload_n hx hb dX3_front_48 rfl (lv_at hl 2 rfl) ?_
    refine h_get (v := .ref lv) hx hb hts hi3 hown hK0 hV0 hm1.cmo rfl 6 (by decide) hw0 rfl dX3_front_49 ?_
    refine lv_iload_n hx hb dX3_front_52 rfl (lv_at hl 3 rfl) ?_
    refine lv_aload_n hx hb dX3_front_53 rfl (lv_at hl 1 rfl) ?_
    obtain ⟨LF, hLF, hLs⟩ := hm1.clv
    refine h_aastB (i := lz) hx hb hK0 hV0 hA0 hS hLF hq1 (by omega) (by omega) dX3_front_54 (fun H locs hV0 hA0 hS => ?_)
    have hE : exH hp (hput (hput hp q1 (eQ 4 (bN V lz + 1) M)) lv (eQ 5 4 (va_up LF lz (some q1)))) := hle.x.tr (exH.rf.set hLF rfl)
    replace hm : sA mo dk lv ((fun l2 => if l2 = lz then q1 else lvl l2)) ((fun l2 => if l2 = lz then (fun r => if r = 0 then q else row lz (r - 1)) else row l2)) rm tm dt d δ ((setL V lz (bN V lz + 1) (fun r => if r = 0 then f else bG V lz (r - 1)))) ((cmT ω lz w)) (hput (hput hp q1 (eQ 4 (bN V lz + 1) M)) lv (eQ 5 4 (va_up LF lz (some q1)))) := hm1.setL hLF hLs (l := lz) (n := bN V lz + 1) (rw2 := fun r => if r = 0 then q else row lz (r - 1)) (g := fun r => if r = 0 then f else bG V lz (r - 1)) (w2 := fun r => if r = 0 then w else ω lz (r - 1)) ⟨_, hq1, hM⟩ (fun r hr => by
        by_cases e9 : r = 0
        · subst e9; exact hrq
        · rw [if_neg e9, if_neg e9, if_neg e9]; exact hm1.crow hl4 (by omega)) (fun r hr => by
        by_cases e9 : r = 0
        · subst e9; exact ⟨hz, hok⟩
        · rw [if_neg e9]; exact ⟨hm1.pos hl4 (by omega), hm1.ok hl4 (by omega)⟩) (by omega)
    have hn := hm.le
    replace hV0 : hV G (hput (hput hp q1 (eQ 4 (bN V lz + 1) M)) lv (eQ 5 4 (va_up LF lz (some q1)))) H := hV0
    replace hA0 : hIn A (hput (hput hp q1 (eQ 4 (bN V lz + 1) M)) lv (eQ 5 4 (va_up LF lz (some q1)))) := hA0
    generalize hput (hput hp q1 (eQ 4 (bN V lz + 1) M)) lv (eQ 5 4 (va_up LF lz (some q1))) = hp9 at hV0 hA0 hm hE
    have hN9 : bN ((setL V lz (bN V lz + 1) (fun r => if r = 0 then f else bG V lz (r - 1)))) lz = bN V lz + 1 := if_pos rfl
    have hrq9 : rn hp9 q f w := hq.mv hE
    refine lv_aload_n hx hb dX3_front_55 rfl (lv_at hl 2 rfl) ?_
    refine lv_dup hx hb dX3_front_56 rfl ?_
    refine h_get (v := .int (bM ((setL V lz (bN V lz + 1) (fun r => if r = 0 then f else bG V lz (r - 1)))))) hx hb hts hi3 hown hK0 hV0 hm.cmo rfl 2 (by decide) hw2 rfl dX3_front_57 ?_
    refine lv_aload_n hx hb dX3_front_60 rfl (lv_at hl 4 rfl) ?_
    refine h_alenQ hrq9.1 hx hb hK0 hV0 rfl dX3_front_61 ?_
    refine lv_iadd hx hb dX3_front_62 ?_
    refine h_put (v := .int ((bM ((setL V lz (bN V lz + 1) (fun r => if r = 0 then f else bG V lz (r - 1))))) + nI (szR f))) hx hb hts hi3 tyX3 tyX3_ok nmX3 hown hK0 hV0 hA0 hS hm.cmo rfl 2 (by decide) hw2 rfl (by rfl) (by rfl) (Nat.le_of_ble_eq_true rfl) dX3_front_63 (fun H locs hV0 hA0 hS => ?_)
    have hE0 := exH.rf.set (hp0 := hp9) hm.cmo (e := eO 3 [.int rm, .int (nI tm), .int (((bM ((setL V lz (bN V lz + 1) (fun r => if r = 0 then f else bG V lz (r - 1))))) + nI (szR f))), .int dt, .int (bK ((setL V lz (bN V lz + 1) (fun r => if r = 0 then f else bG V lz (r - 1))))), .ref dk, .ref lv]) rfl
    replace hE := hE.tr hE0
    replace hm : sA mo dk lv ((fun l2 => if l2 = lz then q1 else lvl l2)) ((fun l2 => if l2 = lz then (fun r => if r = 0 then q else row lz (r - 1)) else row l2)) rm tm dt d δ (setM ((setL V lz (bN V lz + 1) (fun r => if r = 0 then f else bG V lz (r - 1)))) (((bM ((setL V lz (bN V lz + 1) (fun r => if r = 0 then f else bG V lz (r - 1))))) + nI (szR f)))) ((cmT ω lz w)) (hput hp9 mo (eO 3 [.int rm, .int (nI tm), .int (((bM ((setL V lz (bN V lz + 1) (fun r => if r = 0 then f else bG V lz (r - 1))))) + nI (szR f))), .int dt, .int (bK ((setL V lz (bN V lz + 1) (fun r => if r = 0 then f else bG V lz (r - 1))))), .ref dk, .ref lv])) := hm.setO hm.cdk
    have hn := hm.le
    replace hV0 : hV G (hput hp9 mo (eO 3 [.int rm, .int (nI tm), .int (((bM ((setL V lz (bN V lz + 1) (fun r => if r = 0 then f else bG V lz (r - 1))))) + nI (szR f))), .int dt, .int (bK ((setL V lz (bN V lz + 1) (fun r => if r = 0 then f else bG V lz (r - 1))))), .ref dk, .ref lv])) H := hV0
    replace hA0 : hIn A (hput hp9 mo (eO 3 [.int rm, .int (nI tm), .int (((bM ((setL V lz (bN V lz + 1) (fun r => if r = 0 then f else bG V lz (r - 1))))) + nI (szR f))), .int dt, .int (bK ((setL V lz (bN V lz + 1) (fun r => if r = 0 then f else bG V lz (r - 1))))), .ref dk, .ref lv])) := hA0
    generalize hput hp9 mo (eO 3 [.int rm, .int (nI tm), .int (((bM ((setL V lz (bN V lz + 1) (fun r => if r = 0 then f else bG V lz (r - 1))))) + nI (szR f))), .int dt, .int (bK ((setL V lz (bN V lz + 1) (fun r => if r = 0 then f else bG V lz (r - 1))))), .ref dk, .ref lv]) = hp101 at hV0 hA0 hm hE hE0
    refine W.widen (k := 1) (n := 65) (by omega) (by omega) ?_
    exact W.vret hx hb hr (h_qW ⟨rfl, ⟨_, _, hm⟩, hE⟩ hV0 hA0 hS) hS.2.2 dX3_front_66 hlocks
  · refine lv_aload_n hx hb dX3_front_27 rfl (lv_at hl 1 rfl) ?_
    refine lv_iload hx hb dX3_front_28 (lv_at hl 0 rfl) ?_
    refine lv_aload_n hx hb dX3_front_30 rfl (lv_at hl 2 rfl) ?_
    refine h_get (v := .ref lv) hx hb hts hi3 hown hK0 hV0 hm1.cmo rfl 6 (by decide) hw0 rfl dX3_front_31 ?_
    refine lv_iload_n hx hb dX3_front_34 rfl (lv_at hl 3 rfl) ?_
    refine h_aaldE (i := lz) hm1.clv hx hb hK0 hV0 rfl rfl (by omega) (by omega) dX3_front_35 ?_
    refine lv_iload hx hb dX3_front_36 (lv_at hl 0 rfl) ?_
    refine lv_iconst (v := nI 1) hx hb dX3_front_38 (by decide) ?_
    refine h_isubN hx hb (by omega) dX3_front_39 ?_
    rw [show k + 1 - 1 = k by omega]
    refine h_aaldE (i := k) (hm1.clvl (l := lz) (by omega)) hx hb hK0 hV0 rfl rfl (by omega) (by omega) dX3_front_40 ?_
    obtain ⟨QF, hQF, hQs⟩ := (hm1.crow (l := lz) (r := k) hl4 (by omega)).1
    refine h_aastA (i := k + 1) hx hb hK0 hV0 hA0 hS hq1 hQF (by omega) (by omega) dX3_front_41 (fun H locs hV0 hA0 hS => ?_)
    rw [hput_hput] at hV0 hA0
    have hle : leH hp (hput hp q1 (eQ 4 (bN V lz + 1) (va_up M (k + 1) (some (row lz k))))) := leH.rf.new hqq1
    have hm1 := hm.mv hle
    have hq1 : (hput hp q1 (eQ 4 (bN V lz + 1) (va_up M (k + 1) (some (row lz k))))) q1 = some (eQ 4 (bN V lz + 1) (va_up M (k + 1) (some (row lz k)))) := hput_s _ _ _
    have hrq : rn (hput hp q1 (eQ 4 (bN V lz + 1) (va_up M (k + 1) (some (row lz k))))) q f w := hq.mv hle.x
    refine lv_iinc (v := nI (k + 1 + 1)) (lv' := [(4, .int (nI (k + 1 + 1))), (3, .ref q1), (0, .ref mo), (1, .int (nI lz)), (2, .ref q)]) hx hb dX3_front_42 hl (k := 0) rfl (nI_add (k + 1) 1) (by decide) rfl (fun ls hl => ?_)
    refine lv_goto (tgt := 20) hx hb dX3_front_45 (by decide) ?_
    have hMn : ∀ i, i < k + 1 + 1 → (va_up M (k + 1) (some (row lz k))) i = some ((fun r => if r = 0 then q else row lz (r - 1)) i) := fun i hi => by
      unfold va_up
      by_cases e9 : i = k + 1
      · rw [if_pos e9]
        show some (row lz k) = some (if i = 0 then q else row lz (i - 1))
        rw [if_neg (by omega), show i - 1 = k by omega]
      · rw [if_neg e9]; exact hM i (by omega)
    exact ih20 _ H locs (by omega) ⟨_, rfl, hMn⟩ hV0 hA0 hS ls (lv_sub hl [0, 1, 2, 3, 4] rfl)
