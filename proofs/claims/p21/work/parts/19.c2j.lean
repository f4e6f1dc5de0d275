set_option maxHeartbeats 1000000 in
set_option maxRecDepth 100000 in
theorem c_X2_init (l : Launch) (G : hG) (A : Nat → Prop) (hp : HP) (a : Nat) (he : hp a = some (eO 2 [.null, .null, .null, .int 0, .int 0])) (hA0 : hIn A hp) : hWr l yX2_init wsX2_init 4 84 60 1932 G A hp [.ref a] (fun ro hp' => ro = none ∧ ∃ ad, ad 60 = a ∧ cW ad S0 hp' ∧ ∀ x, (∀ key, key < 61 → x ≠ ad key) → hp' x = hp x) := by
  refine Met.ofW (cc := cX2_init) (maxL := 1) (ret := none) (by decide) rfl ?_
  intro p e s m args below meth c s₁ B hml hv
  obtain ⟨rfl, hV0, hK0, hA⟩ := hv
  have hx := B.exec
  have hb := B.bytes
  have hr := B.returns
  have hts := atoms_spec (ws := wsX2_init) B.pre
  have hown : s.vm.findClass RX2 = some m.cls := findClass_of_methodNamed B.named
  have hlocks := B.notSynchronized
  have hin0 : meth.name = "<init>" := (name_of_methodNamed B.named B.method).1
  have hF : CallFix p m c cX2_init 1 s [.ref a].toArray wsX2_init RX2 := ⟨hx, hb, hml, hown, hts⟩
  have hw0 := hts (.methodLink RX2 1 objectInit) (by decide +kernel)
  have hw1 := hts (.instanceMethod objectInit) (by decide +kernel)
  have hw2 := hts (.code objectInit ⟨#[0xb1]⟩ 1 none) (by decide +kernel)
  have hw3 := hts (.classLink RX2 7 RX1) (by decide +kernel)
  have hw4 := hts (.instantiable RX1 6) (by decide +kernel)
  have hw5 := hts (.initialized RX1) (by decide +kernel)
  have hw6 := hts (.methodLink RX2 9 yX1_init) (by decide +kernel)
  have hw7 := hts (.instanceMethod yX1_init) (by decide +kernel)
  have hw8 := hts (.fieldLink RX2 10 "SlipLevels" "deskSlips" "LSlipLevels$Slips;") (by decide +kernel)
  have hw9 := hts (.classLink RX2 16 RX0) (by decide +kernel)
  have hw10 := hts (.instantiable RX0 5) (by decide +kernel)
  have hw11 := hts (.initialized RX0) (by decide +kernel)
  have hw12 := hts (.methodLink RX2 18 yX0_init) (by decide +kernel)
  have hw13 := hts (.instanceMethod yX0_init) (by decide +kernel)
  have hw14 := hts (.fieldLink RX2 19 "SlipLevels" "binder" "LSlipLevels$Binder;") (by decide +kernel)
  have hw15 := hts (.fieldLink RX2 23 "SlipLevels" "trial" "LSlipLevels$Binder;") (by decide +kernel)
  have hw16 := hts (.fieldLink RX2 26 "SlipLevels" "deskRoom" "I") (by decide +kernel)
  have hw17 := hts (.fieldLink RX2 30 "SlipLevels" "detoursRead" "I") (by decide +kernel)
  have hi0 : ∀ w ∈ u_ws RX0 TX0 5, w ∈ wsX2_init := by
    intro w h
    unfold wsX2_init
    simp only [List.mem_cons, List.mem_append, h, true_or, or_true]
  have hi1 : ∀ w ∈ u_ws RX1 TX1 6, w ∈ wsX2_init := by
    intro w h
    unfold wsX2_init
    simp only [List.mem_cons, List.mem_append, h, true_or, or_true]
  have hi2 : ∀ w ∈ u_ws RX2 TX2 5, w ∈ wsX2_init := by
    intro w h
    unfold wsX2_init
    simp only [List.mem_cons, List.mem_append, h, true_or, or_true]
  have hS : va_S A s.heap s.heap [] := va_S.rf
  have hl := lv_entry ([.ref a]) (n := 1) (Nat.le_of_ble_eq_true rfl)
  rw [lg_entry_eq]
  generalize (lg_sl ([.ref a]) ++ List.replicate (1 - (lg_sl ([.ref a])).length) Slot.unset).toArray = ls at hl ⊢
  replace hl : lv_has ls 1 [(0, .ref a)] := hl
  refine lv_aload_n hx hb dX2_init_0 rfl (lv_at hl 0 rfl) ?_
  refine W.objInit hx hb hown hw0 hw1 hw2 rfl (by rw [hml]; exact hl.1) rfl dX2_init_1 (Nat.le_of_ble_eq_true rfl) (Nat.le_of_ble_eq_true rfl) ?_
  refine W.eq (g2 := F0 m 4 ls []) rfl ?_
  refine lv_aload_n hx hb dX2_init_4 rfl (lv_at hl 0 rfl) ?_
  refine h_new hx hb hts hi1 tyX1 tyX1_ok hown hw3 hw4 hw5 hK0 hV0 hA0 hS hA (ci := 1) rfl dfX1 (Nat.le_of_ble_eq_true rfl) (Nat.le_of_ble_eq_true rfl) dX2_init_5 (fun q1 H hqq1 hV0 hA0 hS => ?_)
  have hn_q1_a : a ≠ q1 := fun h => absurd ((he).symm.trans ((congrArg hp h).trans hqq1)) (fun h => by cases h)
  have he2 : (hput hp q1 (eO 1 [.null, .int 0, .int 0, .int 0, .int 0, .int 0])) q1 = some (eO 1 [.null, .int 0, .int 0, .int 0, .int 0, .int 0]) := hput_s _ _ _
  have he3 : (hput hp q1 (eO 1 [.null, .int 0, .int 0, .int 0, .int 0, .int 0])) a = some (eO 2 [.null, .null, .null, .int 0, .int 0]) := (hput_n _ _ hn_q1_a).trans he
  refine lv_dup hx hb dX2_init_8 rfl ?_
  refine h_wrI (As := []) (rest := [.ref q1, .ref a]) hF (c_X1_init l G A (hput hp q1 (eO 1 [.null, .int 0, .int 0, .int 0, .int 0, .int 0])) q1 he2 hA0) 0 gX2_init_X1_init rfl hw5 hw6 hw7 rfl (by decide +kernel) ⟨Nat.le_of_ble_eq_true rfl, Nat.le_of_ble_eq_true rfl⟩ hK0 hV0 hA hS rfl hl.1 rfl (Nat.le_of_ble_eq_true rfl) ⟨Nat.le_of_ble_eq_true rfl, Nat.le_of_ble_eq_true rfl⟩ dX2_init_9 (fun ro hp1 H locs hP1 hV0 hA0 hS => ?_)
  obtain ⟨rfl, w1, hqw1, rfl⟩ := hP1
  have hn_w1_a : a ≠ w1 := fun h => absurd ((he3).symm.trans ((congrArg (hput hp q1 (eO 1 [.null, .int 0, .int 0, .int 0, .int 0, .int 0])) h).trans hqw1)) (fun h => by cases h)
  have hn_w1_q1 : q1 ≠ w1 := fun h => absurd ((he2).symm.trans ((congrArg (hput hp q1 (eO 1 [.null, .int 0, .int 0, .int 0, .int 0, .int 0])) h).trans hqw1)) (fun h => by cases h)
  have he4 : (hput (hput hp q1 (eO 1 [.null, .int 0, .int 0, .int 0, .int 0, .int 0])) w1 (eI 64 emR)) w1 = some (eI 64 emR) := hput_s _ _ _
  have he5 : (hput (hput hp q1 (eO 1 [.null, .int 0, .int 0, .int 0, .int 0, .int 0])) w1 (eI 64 emR)) a = some (eO 2 [.null, .null, .null, .int 0, .int 0]) := (hput_n _ _ hn_w1_a).trans he3
  have he6 : (hput (hput hp q1 (eO 1 [.null, .int 0, .int 0, .int 0, .int 0, .int 0])) w1 (eI 64 emR)) q1 = some (eO 1 [.null, .int 0, .int 0, .int 0, .int 0, .int 0]) := (hput_n _ _ hn_w1_q1).trans he2
  have he7 : (hput (hput (hput hp q1 (eO 1 [.null, .int 0, .int 0, .int 0, .int 0, .int 0])) w1 (eI 64 emR)) q1 (eO 1 [.ref w1, .int (nI (szR emR)), .int (nI (tbR emR)), .int (nI (lsR emR)), .int (grR emR), .int (svR emR)])) q1 = some (eO 1 [.ref w1, .int (nI (szR emR)), .int (nI (tbR emR)), .int (nI (lsR emR)), .int (grR emR), .int (svR emR)]) := hput_s _ _ _
  have he8 : (hput (hput (hput hp q1 (eO 1 [.null, .int 0, .int 0, .int 0, .int 0, .int 0])) w1 (eI 64 emR)) q1 (eO 1 [.ref w1, .int (nI (szR emR)), .int (nI (tbR emR)), .int (nI (lsR emR)), .int (grR emR), .int (svR emR)])) a = some (eO 2 [.null, .null, .null, .int 0, .int 0]) := (hput_n _ _ hn_q1_a).trans he5
  have he9 : (hput (hput (hput hp q1 (eO 1 [.null, .int 0, .int 0, .int 0, .int 0, .int 0])) w1 (eI 64 emR)) q1 (eO 1 [.ref w1, .int (nI (szR emR)), .int (nI (tbR emR)), .int (nI (lsR emR)), .int (grR emR), .int (svR emR)])) w1 = some (eI 64 emR) := (hput_n _ _ (Ne.symm hn_w1_q1)).trans he4
  refine h_putF (v := .ref q1) hx hb hts hi2 tyX2 tyX2_ok nmX2 hown hK0 hV0 hA0 hS he8 rfl 0 (by decide) hw8 rfl hin0 rfl (by rfl) (by rfl) (Nat.le_of_ble_eq_true rfl) dX2_init_12 (fun H locs hV0 hA0 hS => ?_)
  have he10 : (hput (hput (hput (hput hp q1 (eO 1 [.null, .int 0, .int 0, .int 0, .int 0, .int 0])) w1 (eI 64 emR)) q1 (eO 1 [.ref w1, .int (nI (szR emR)), .int (nI (tbR emR)), .int (nI (lsR emR)), .int (grR emR), .int (svR emR)])) a (eO 2 [.ref q1, .null, .null, .int 0, .int 0])) a = some (eO 2 [.ref q1, .null, .null, .int 0, .int 0]) := hput_s _ _ _
  have he11 : (hput (hput (hput (hput hp q1 (eO 1 [.null, .int 0, .int 0, .int 0, .int 0, .int 0])) w1 (eI 64 emR)) q1 (eO 1 [.ref w1, .int (nI (szR emR)), .int (nI (tbR emR)), .int (nI (lsR emR)), .int (grR emR), .int (svR emR)])) a (eO 2 [.ref q1, .null, .null, .int 0, .int 0])) q1 = some (eO 1 [.ref w1, .int (nI (szR emR)), .int (nI (tbR emR)), .int (nI (lsR emR)), .int (grR emR), .int (svR emR)]) := (hput_n _ _ (Ne.symm hn_q1_a)).trans ((by first | exact he7 | exact (hput_n _ _ (Ne.symm hn_q1_a)).symm.trans he7))
  have he12 : (hput (hput (hput (hput hp q1 (eO 1 [.null, .int 0, .int 0, .int 0, .int 0, .int 0])) w1 (eI 64 emR)) q1 (eO 1 [.ref w1, .int (nI (szR emR)), .int (nI (tbR emR)), .int (nI (lsR emR)), .int (grR emR), .int (svR emR)])) a (eO 2 [.ref q1, .null, .null, .int 0, .int 0])) w1 = some (eI 64 emR) := (hput_n _ _ (Ne.symm hn_w1_a)).trans ((by first | exact he9 | exact (hput_n _ _ (Ne.symm hn_w1_a)).symm.trans he9))
  refine lv_aload_n hx hb dX2_init_15 rfl (lv_at hl 0 rfl) ?_
  have hAsl : slAt (hput (hput (hput (hput hp q1 (eO 1 [.null, .int 0, .int 0, .int 0, .int 0, .int 0])) w1 (eI 64 emR)) q1 (eO 1 [.ref w1, .int (nI (szR emR)), .int (nI (tbR emR)), .int (nI (lsR emR)), .int (grR emR), .int (svR emR)])) a (eO 2 [.ref q1, .null, .null, .int 0, .int 0])) q1 w1 emR := ⟨he11, he12⟩
  have hAa := he10
  have hAfr : ∀ x, x ≠ a → x ≠ q1 → x ≠ w1 → (hput (hput (hput (hput hp q1 (eO 1 [.null, .int 0, .int 0, .int 0, .int 0, .int 0])) w1 (eI 64 emR)) q1 (eO 1 [.ref w1, .int (nI (szR emR)), .int (nI (tbR emR)), .int (nI (lsR emR)), .int (grR emR), .int (svR emR)])) a (eO 2 [.ref q1, .null, .null, .int 0, .int 0])) x = hp x := fun x g0 g1 g2 => by rw [hput_n _ _ g0, hput_n _ _ g1, hput_n _ _ g2, hput_n _ _ g1]
  have hAq : hp q1 = none := hqq1
  have hAw : hp w1 = none := (hput_none hqw1).2
  have hqw : q1 ≠ w1 := hn_w1_q1
  refine h_new hx hb hts hi0 tyX0 tyX0_ok hown hw9 hw10 hw11 hK0 hV0 hA0 hS hA (ci := 0) rfl dfX0 (Nat.le_of_ble_eq_true rfl) (Nat.le_of_ble_eq_true rfl) dX2_init_16 (fun q13 H hqq13 hV0 hA0 hS => ?_)
  have hn_q13_a : a ≠ q13 := fun h => absurd ((he10).symm.trans ((congrArg (hput (hput (hput (hput hp q1 (eO 1 [.null, .int 0, .int 0, .int 0, .int 0, .int 0])) w1 (eI 64 emR)) q1 (eO 1 [.ref w1, .int (nI (szR emR)), .int (nI (tbR emR)), .int (nI (lsR emR)), .int (grR emR), .int (svR emR)])) a (eO 2 [.ref q1, .null, .null, .int 0, .int 0])) h).trans hqq13)) (fun h => by cases h)
  have hn_q13_q1 : q1 ≠ q13 := fun h => absurd ((he11).symm.trans ((congrArg (hput (hput (hput (hput hp q1 (eO 1 [.null, .int 0, .int 0, .int 0, .int 0, .int 0])) w1 (eI 64 emR)) q1 (eO 1 [.ref w1, .int (nI (szR emR)), .int (nI (tbR emR)), .int (nI (lsR emR)), .int (grR emR), .int (svR emR)])) a (eO 2 [.ref q1, .null, .null, .int 0, .int 0])) h).trans hqq13)) (fun h => by cases h)
  have hn_q13_w1 : w1 ≠ q13 := fun h => absurd ((he12).symm.trans ((congrArg (hput (hput (hput (hput hp q1 (eO 1 [.null, .int 0, .int 0, .int 0, .int 0, .int 0])) w1 (eI 64 emR)) q1 (eO 1 [.ref w1, .int (nI (szR emR)), .int (nI (tbR emR)), .int (nI (lsR emR)), .int (grR emR), .int (svR emR)])) a (eO 2 [.ref q1, .null, .null, .int 0, .int 0])) h).trans hqq13)) (fun h => by cases h)
  have he14 : (hput (hput (hput (hput (hput hp q1 (eO 1 [.null, .int 0, .int 0, .int 0, .int 0, .int 0])) w1 (eI 64 emR)) q1 (eO 1 [.ref w1, .int (nI (szR emR)), .int (nI (tbR emR)), .int (nI (lsR emR)), .int (grR emR), .int (svR emR)])) a (eO 2 [.ref q1, .null, .null, .int 0, .int 0])) q13 (eO 0 [.null, .null, .null, .int 0, .int 0])) q13 = some (eO 0 [.null, .null, .null, .int 0, .int 0]) := hput_s _ _ _
  have he15 : (hput (hput (hput (hput (hput hp q1 (eO 1 [.null, .int 0, .int 0, .int 0, .int 0, .int 0])) w1 (eI 64 emR)) q1 (eO 1 [.ref w1, .int (nI (szR emR)), .int (nI (tbR emR)), .int (nI (lsR emR)), .int (grR emR), .int (svR emR)])) a (eO 2 [.ref q1, .null, .null, .int 0, .int 0])) q13 (eO 0 [.null, .null, .null, .int 0, .int 0])) a = some (eO 2 [.ref q1, .null, .null, .int 0, .int 0]) := (hput_n _ _ hn_q13_a).trans he10
  have he16 : (hput (hput (hput (hput (hput hp q1 (eO 1 [.null, .int 0, .int 0, .int 0, .int 0, .int 0])) w1 (eI 64 emR)) q1 (eO 1 [.ref w1, .int (nI (szR emR)), .int (nI (tbR emR)), .int (nI (lsR emR)), .int (grR emR), .int (svR emR)])) a (eO 2 [.ref q1, .null, .null, .int 0, .int 0])) q13 (eO 0 [.null, .null, .null, .int 0, .int 0])) q1 = some (eO 1 [.ref w1, .int (nI (szR emR)), .int (nI (tbR emR)), .int (nI (lsR emR)), .int (grR emR), .int (svR emR)]) := (hput_n _ _ hn_q13_q1).trans he11
  have he17 : (hput (hput (hput (hput (hput hp q1 (eO 1 [.null, .int 0, .int 0, .int 0, .int 0, .int 0])) w1 (eI 64 emR)) q1 (eO 1 [.ref w1, .int (nI (szR emR)), .int (nI (tbR emR)), .int (nI (lsR emR)), .int (grR emR), .int (svR emR)])) a (eO 2 [.ref q1, .null, .null, .int 0, .int 0])) q13 (eO 0 [.null, .null, .null, .int 0, .int 0])) w1 = some (eI 64 emR) := (hput_n _ _ hn_q13_w1).trans he12
  refine lv_dup hx hb dX2_init_19 rfl ?_
  refine h_wrI (As := []) (rest := [.ref q13, .ref a]) hF (c_X0_init l G A (hput (hput (hput (hput (hput hp q1 (eO 1 [.null, .int 0, .int 0, .int 0, .int 0, .int 0])) w1 (eI 64 emR)) q1 (eO 1 [.ref w1, .int (nI (szR emR)), .int (nI (tbR emR)), .int (nI (lsR emR)), .int (grR emR), .int (svR emR)])) a (eO 2 [.ref q1, .null, .null, .int 0, .int 0])) q13 (eO 0 [.null, .null, .null, .int 0, .int 0])) q13 he14 hA0) 0 gX2_init_X0_init rfl hw11 hw12 hw13 rfl (by decide +kernel) ⟨Nat.le_of_ble_eq_true rfl, Nat.le_of_ble_eq_true rfl⟩ hK0 hV0 hA hS rfl hl.1 rfl (Nat.le_of_ble_eq_true rfl) ⟨Nat.le_of_ble_eq_true rfl, Nat.le_of_ble_eq_true rfl⟩ dX2_init_20 (fun ro hq1 H locs hP1 hV0 hA0 hS => ?_)
  obtain ⟨rfl, f1, hB1⟩ := hP1
  have he18 : hq1 a = some (eO 2 [.ref q1, .null, .null, .int 0, .int 0]) := (hB1.2.2.2.2.2.2 a hn_q13_a (fun k hk => hp_ne he15 (hB1.2.1 k hk).1)).trans he15
  have he19 : hq1 q1 = some (eO 1 [.ref w1, .int (nI (szR emR)), .int (nI (tbR emR)), .int (nI (lsR emR)), .int (grR emR), .int (svR emR)]) := (hB1.2.2.2.2.2.2 q1 hn_q13_q1 (fun k hk => hp_ne he16 (hB1.2.1 k hk).1)).trans he16
  have he20 : hq1 w1 = some (eI 64 emR) := (hB1.2.2.2.2.2.2 w1 hn_q13_w1 (fun k hk => hp_ne he17 (hB1.2.1 k hk).1)).trans he17
  refine h_putF (v := .ref q13) hx hb hts hi2 tyX2 tyX2_ok nmX2 hown hK0 hV0 hA0 hS he18 rfl 1 (by decide) hw14 rfl hin0 rfl (by rfl) (by rfl) (Nat.le_of_ble_eq_true rfl) dX2_init_23 (fun H locs hV0 hA0 hS => ?_)
  have he22 : (hput hq1 a (eO 2 [.ref q1, .ref q13, .null, .int 0, .int 0])) a = some (eO 2 [.ref q1, .ref q13, .null, .int 0, .int 0]) := hput_s _ _ _
  have he23 : (hput hq1 a (eO 2 [.ref q1, .ref q13, .null, .int 0, .int 0])) q1 = some (eO 1 [.ref w1, .int (nI (szR emR)), .int (nI (tbR emR)), .int (nI (lsR emR)), .int (grR emR), .int (svR emR)]) := (hput_n _ _ (Ne.symm hn_q1_a)).trans ((by first | exact he19 | exact (hput_n _ _ (Ne.symm hn_q1_a)).symm.trans he19))
  have he24 : (hput hq1 a (eO 2 [.ref q1, .ref q13, .null, .int 0, .int 0])) w1 = some (eI 64 emR) := (hput_n _ _ (Ne.symm hn_w1_a)).trans ((by first | exact he20 | exact (hput_n _ _ (Ne.symm hn_w1_a)).symm.trans he20))
  have he25 : (hput hq1 a (eO 2 [.ref q1, .ref q13, .null, .int 0, .int 0])) q13 = some (eO 0 [.ref (f1 26), .ref (f1 27), .ref (f1 24), .int 0, .int 0]) := (hput_n _ _ (Ne.symm hn_q13_a)).trans ((by first | exact hB1.2.2.2.2.2.1 | exact (hput_n _ _ (Ne.symm hn_q13_a)).symm.trans hB1.2.2.2.2.2.1))
  refine lv_aload_n hx hb dX2_init_26 rfl (lv_at hl 0 rfl) ?_
  refine h_new hx hb hts hi0 tyX0 tyX0_ok hown hw9 hw10 hw11 hK0 hV0 hA0 hS hA (ci := 0) rfl dfX0 (Nat.le_of_ble_eq_true rfl) (Nat.le_of_ble_eq_true rfl) dX2_init_27 (fun q26 H hqq26 hV0 hA0 hS => ?_)
  have hn_q26_a : a ≠ q26 := fun h => absurd ((he22).symm.trans ((congrArg (hput hq1 a (eO 2 [.ref q1, .ref q13, .null, .int 0, .int 0])) h).trans hqq26)) (fun h => by cases h)
  have hn_q26_q1 : q1 ≠ q26 := fun h => absurd ((he23).symm.trans ((congrArg (hput hq1 a (eO 2 [.ref q1, .ref q13, .null, .int 0, .int 0])) h).trans hqq26)) (fun h => by cases h)
  have hn_q26_w1 : w1 ≠ q26 := fun h => absurd ((he24).symm.trans ((congrArg (hput hq1 a (eO 2 [.ref q1, .ref q13, .null, .int 0, .int 0])) h).trans hqq26)) (fun h => by cases h)
  have hn_q26_q13 : q13 ≠ q26 := fun h => absurd ((he25).symm.trans ((congrArg (hput hq1 a (eO 2 [.ref q1, .ref q13, .null, .int 0, .int 0])) h).trans hqq26)) (fun h => by cases h)
  have he27 : (hput (hput hq1 a (eO 2 [.ref q1, .ref q13, .null, .int 0, .int 0])) q26 (eO 0 [.null, .null, .null, .int 0, .int 0])) q26 = some (eO 0 [.null, .null, .null, .int 0, .int 0]) := hput_s _ _ _
  have he28 : (hput (hput hq1 a (eO 2 [.ref q1, .ref q13, .null, .int 0, .int 0])) q26 (eO 0 [.null, .null, .null, .int 0, .int 0])) a = some (eO 2 [.ref q1, .ref q13, .null, .int 0, .int 0]) := (hput_n _ _ hn_q26_a).trans he22
  have he29 : (hput (hput hq1 a (eO 2 [.ref q1, .ref q13, .null, .int 0, .int 0])) q26 (eO 0 [.null, .null, .null, .int 0, .int 0])) q1 = some (eO 1 [.ref w1, .int (nI (szR emR)), .int (nI (tbR emR)), .int (nI (lsR emR)), .int (grR emR), .int (svR emR)]) := (hput_n _ _ hn_q26_q1).trans he23
  have he30 : (hput (hput hq1 a (eO 2 [.ref q1, .ref q13, .null, .int 0, .int 0])) q26 (eO 0 [.null, .null, .null, .int 0, .int 0])) w1 = some (eI 64 emR) := (hput_n _ _ hn_q26_w1).trans he24
  have he31 : (hput (hput hq1 a (eO 2 [.ref q1, .ref q13, .null, .int 0, .int 0])) q26 (eO 0 [.null, .null, .null, .int 0, .int 0])) q13 = some (eO 0 [.ref (f1 26), .ref (f1 27), .ref (f1 24), .int 0, .int 0]) := (hput_n _ _ hn_q26_q13).trans he25
  refine lv_dup hx hb dX2_init_30 rfl ?_
  refine h_wrI (As := []) (rest := [.ref q26, .ref a]) hF (c_X0_init l G A (hput (hput hq1 a (eO 2 [.ref q1, .ref q13, .null, .int 0, .int 0])) q26 (eO 0 [.null, .null, .null, .int 0, .int 0])) q26 he27 hA0) 0 gX2_init_X0_init rfl hw11 hw12 hw13 rfl (by decide +kernel) ⟨Nat.le_of_ble_eq_true rfl, Nat.le_of_ble_eq_true rfl⟩ hK0 hV0 hA hS rfl hl.1 rfl (Nat.le_of_ble_eq_true rfl) ⟨Nat.le_of_ble_eq_true rfl, Nat.le_of_ble_eq_true rfl⟩ dX2_init_31 (fun ro hq2 H locs hP1 hV0 hA0 hS => ?_)
  obtain ⟨rfl, f2, hB2⟩ := hP1
  have he32 : hq2 a = some (eO 2 [.ref q1, .ref q13, .null, .int 0, .int 0]) := (hB2.2.2.2.2.2.2 a hn_q26_a (fun k hk => hp_ne he28 (hB2.2.1 k hk).1)).trans he28
  have he33 : hq2 q1 = some (eO 1 [.ref w1, .int (nI (szR emR)), .int (nI (tbR emR)), .int (nI (lsR emR)), .int (grR emR), .int (svR emR)]) := (hB2.2.2.2.2.2.2 q1 hn_q26_q1 (fun k hk => hp_ne he29 (hB2.2.1 k hk).1)).trans he29
  have he34 : hq2 w1 = some (eI 64 emR) := (hB2.2.2.2.2.2.2 w1 hn_q26_w1 (fun k hk => hp_ne he30 (hB2.2.1 k hk).1)).trans he30
  have he35 : hq2 q13 = some (eO 0 [.ref (f1 26), .ref (f1 27), .ref (f1 24), .int 0, .int 0]) := (hB2.2.2.2.2.2.2 q13 hn_q26_q13 (fun k hk => hp_ne he31 (hB2.2.1 k hk).1)).trans he31
  refine h_putF (v := .ref q26) hx hb hts hi2 tyX2 tyX2_ok nmX2 hown hK0 hV0 hA0 hS he32 rfl 2 (by decide) hw15 rfl hin0 rfl (by rfl) (by rfl) (Nat.le_of_ble_eq_true rfl) dX2_init_34 (fun H locs hV0 hA0 hS => ?_)
  have he37 : (hput hq2 a (eO 2 [.ref q1, .ref q13, .ref q26, .int 0, .int 0])) a = some (eO 2 [.ref q1, .ref q13, .ref q26, .int 0, .int 0]) := hput_s _ _ _
  have he38 : (hput hq2 a (eO 2 [.ref q1, .ref q13, .ref q26, .int 0, .int 0])) q1 = some (eO 1 [.ref w1, .int (nI (szR emR)), .int (nI (tbR emR)), .int (nI (lsR emR)), .int (grR emR), .int (svR emR)]) := (hput_n _ _ (Ne.symm hn_q1_a)).trans ((by first | exact he33 | exact (hput_n _ _ (Ne.symm hn_q1_a)).symm.trans he33))
  have he39 : (hput hq2 a (eO 2 [.ref q1, .ref q13, .ref q26, .int 0, .int 0])) w1 = some (eI 64 emR) := (hput_n _ _ (Ne.symm hn_w1_a)).trans ((by first | exact he34 | exact (hput_n _ _ (Ne.symm hn_w1_a)).symm.trans he34))
  have he40 : (hput hq2 a (eO 2 [.ref q1, .ref q13, .ref q26, .int 0, .int 0])) q13 = some (eO 0 [.ref (f1 26), .ref (f1 27), .ref (f1 24), .int 0, .int 0]) := (hput_n _ _ (Ne.symm hn_q13_a)).trans ((by first | exact he35 | exact (hput_n _ _ (Ne.symm hn_q13_a)).symm.trans he35))
  have he41 : (hput hq2 a (eO 2 [.ref q1, .ref q13, .ref q26, .int 0, .int 0])) q26 = some (eO 0 [.ref (f2 26), .ref (f2 27), .ref (f2 24), .int 0, .int 0]) := (hput_n _ _ (Ne.symm hn_q26_a)).trans ((by first | exact hB2.2.2.2.2.2.1 | exact (hput_n _ _ (Ne.symm hn_q26_a)).symm.trans hB2.2.2.2.2.2.1))
  refine lv_aload_n hx hb dX2_init_37 rfl (lv_at hl 0 rfl) ?_
  refine lv_iconst (v := nI 4) hx hb dX2_init_38 (by decide) ?_
  refine h_put (v := .int (nI 4)) hx hb hts hi2 tyX2 tyX2_ok nmX2 hown hK0 hV0 hA0 hS he37 rfl 3 (by decide) hw16 rfl (by rfl) (by rfl) (Nat.le_of_ble_eq_true rfl) dX2_init_39 (fun H locs hV0 hA0 hS => ?_)
  rw [hput_hput] at hV0 hA0
  have he42 : (hput hq2 a (eO 2 [.ref q1, .ref q13, .ref q26, .int (nI 4), .int 0])) a = some (eO 2 [.ref q1, .ref q13, .ref q26, .int (nI 4), .int 0]) := hput_s _ _ _
  have he43 : (hput hq2 a (eO 2 [.ref q1, .ref q13, .ref q26, .int (nI 4), .int 0])) q1 = some (eO 1 [.ref w1, .int (nI (szR emR)), .int (nI (tbR emR)), .int (nI (lsR emR)), .int (grR emR), .int (svR emR)]) := (hput_n _ _ (Ne.symm hn_q1_a)).trans ((by first | exact he38 | exact (hput_n _ _ (Ne.symm hn_q1_a)).symm.trans he38))
  have he44 : (hput hq2 a (eO 2 [.ref q1, .ref q13, .ref q26, .int (nI 4), .int 0])) w1 = some (eI 64 emR) := (hput_n _ _ (Ne.symm hn_w1_a)).trans ((by first | exact he39 | exact (hput_n _ _ (Ne.symm hn_w1_a)).symm.trans he39))
  have he45 : (hput hq2 a (eO 2 [.ref q1, .ref q13, .ref q26, .int (nI 4), .int 0])) q13 = some (eO 0 [.ref (f1 26), .ref (f1 27), .ref (f1 24), .int 0, .int 0]) := (hput_n _ _ (Ne.symm hn_q13_a)).trans ((by first | exact he40 | exact (hput_n _ _ (Ne.symm hn_q13_a)).symm.trans he40))
  have he46 : (hput hq2 a (eO 2 [.ref q1, .ref q13, .ref q26, .int (nI 4), .int 0])) q26 = some (eO 0 [.ref (f2 26), .ref (f2 27), .ref (f2 24), .int 0, .int 0]) := (hput_n _ _ (Ne.symm hn_q26_a)).trans ((by first | exact he41 | exact (hput_n _ _ (Ne.symm hn_q26_a)).symm.trans he41))
  refine lv_aload_n hx hb dX2_init_42 rfl (lv_at hl 0 rfl) ?_
  refine lv_iconst (v := nI 0) hx hb dX2_init_43 (by decide) ?_
  refine h_put (v := .int (nI 0)) hx hb hts hi2 tyX2 tyX2_ok nmX2 hown hK0 hV0 hA0 hS he42 rfl 4 (by decide) hw17 rfl (by rfl) (by rfl) (Nat.le_of_ble_eq_true rfl) dX2_init_44 (fun H locs hV0 hA0 hS => ?_)
  rw [hput_hput] at hV0 hA0
  have he47 : (hput hq2 a (eO 2 [.ref q1, .ref q13, .ref q26, .int (nI 4), .int (nI 0)])) a = some (eO 2 [.ref q1, .ref q13, .ref q26, .int (nI 4), .int (nI 0)]) := hput_s _ _ _
  have he48 : (hput hq2 a (eO 2 [.ref q1, .ref q13, .ref q26, .int (nI 4), .int (nI 0)])) q1 = some (eO 1 [.ref w1, .int (nI (szR emR)), .int (nI (tbR emR)), .int (nI (lsR emR)), .int (grR emR), .int (svR emR)]) := (hput_n _ _ (Ne.symm hn_q1_a)).trans ((by first | exact he43 | exact (hput_n _ _ (Ne.symm hn_q1_a)).symm.trans he43))
  have he49 : (hput hq2 a (eO 2 [.ref q1, .ref q13, .ref q26, .int (nI 4), .int (nI 0)])) w1 = some (eI 64 emR) := (hput_n _ _ (Ne.symm hn_w1_a)).trans ((by first | exact he44 | exact (hput_n _ _ (Ne.symm hn_w1_a)).symm.trans he44))
  have he50 : (hput hq2 a (eO 2 [.ref q1, .ref q13, .ref q26, .int (nI 4), .int (nI 0)])) q13 = some (eO 0 [.ref (f1 26), .ref (f1 27), .ref (f1 24), .int 0, .int 0]) := (hput_n _ _ (Ne.symm hn_q13_a)).trans ((by first | exact he45 | exact (hput_n _ _ (Ne.symm hn_q13_a)).symm.trans he45))
  have he51 : (hput hq2 a (eO 2 [.ref q1, .ref q13, .ref q26, .int (nI 4), .int (nI 0)])) q26 = some (eO 0 [.ref (f2 26), .ref (f2 27), .ref (f2 24), .int 0, .int 0]) := (hput_n _ _ (Ne.symm hn_q26_a)).trans ((by first | exact he46 | exact (hput_n _ _ (Ne.symm hn_q26_a)).symm.trans he46))
  obtain ⟨ad, h4, j1, j2, j3, j4, j5⟩ := c2_fin ⟨_, he⟩ hAq hAw hqw hAsl hAa hAfr hqq13 hB1 hqq26 hB2
  replace hV0 : hV G (hput hq2 a (eO 2 [.ref q1, .ref q13, .ref q26, .int 4, .int 0])) H := hV0
  replace hA0 : hIn A (hput hq2 a (eO 2 [.ref q1, .ref q13, .ref q26, .int 4, .int 0])) := hA0
  replace hV0 := j4 _ _ hV0
  replace hA0 := j5 _ hA0
  exact W.vret hx hb hr (h_qW ⟨rfl, ad, j1, j2, j3⟩ hV0 hA0 hS) hS.2.2 dX2_init_47 hlocks
