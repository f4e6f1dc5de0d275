/-! the law: build -/
theorem dfX2 : ∀ j, j < 5 → defaultValue (tyX2 j) = vp_V [.null, .null, .null, .int 0, .int 0] j := fun j hj => match j, hj with
  | 0, _ => rfl
  | 1, _ => rfl
  | 2, _ => rfl
  | 3, _ => rfl
  | 4, _ => rfl
theorem dfX3 : ∀ j, j < 7 → defaultValue (tyX3 j) = vp_V [.int 0, .int 0, .int 0, .int 0, .int 0, .null, .null] j := fun j hj => match j, hj with
  | 0, _ => rfl
  | 1, _ => rfl
  | 2, _ => rfl
  | 3, _ => rfl
  | 4, _ => rfl
  | 5, _ => rfl
  | 6, _ => rfl
def wZ : List Cond := [.classLink RX3 19 "[[[I"]
theorem gZz : GoodIn wZ wZ := goodIn_of _ (by decide +kernel)
theorem gZl {a b ws : List Cond} (h : GoodIn a ws) : GoodIn (a ++ b) ws := fun w hw => ⟨List.mem_append_left _ (h w hw).1, (h w hw).2⟩
theorem gZr {a b ws : List Cond} (h : GoodIn b ws) : GoodIn (a ++ b) ws := fun w hw => ⟨List.mem_append_right _ (h w hw).1, (h w hw).2⟩
theorem gZ_in {a ws : List Cond} (h : GoodIn a ws) : GoodIn (a ++ wZ) (ws ++ wZ) := fun w hw => (List.mem_append.mp hw).elim (fun q => gZl h w q) (fun q => gZr gZz w q)
theorem gZ_S {own : String} {idx : Nat} {y : MethodName} {a ws : List Cond} (h : GoodIn a (va_wsS own idx y ws)) : GoodIn (a ++ wZ) (va_wsS own idx y (ws ++ wZ)) := fun w hw => by
  have hw2 : w ∈ va_wsS own idx y ws ∨ w ∈ wZ := by
    unfold va_wsS at hw ⊢
    rcases List.mem_append.mp hw with q | q
    · exact Or.inl (List.mem_append_left _ q)
    · rcases List.mem_append.mp q with q | q
      · exact Or.inl (List.mem_append_right _ q)
      · exact Or.inr q
  exact hw2.elim (fun q => gZl h w q) (fun q => gZr gZz w q)
def wsB : List Cond := wsL_build ++ wZ
theorem gB_init : GoodIn wsB wsI := gZ_in gL_build_X3_init_n69
set_option maxHeartbeats 1000000 in
set_option maxRecDepth 100000 in
theorem c_L_build (l : Launch) (G : hG) (A : Nat → Prop) (hp : HP) (ad : Nat → Nat) (hC : cW ad S0 hp) (b L : Nat) (xs : Nat → Int32) (hL : L ≤ 260) (hbA : ¬ A b) (hA0 : hIn A hp) : Met l yL_build wsB { frames := 8, cells := 53500, slots := 3477500, locals := 183 } (hPb G A hp b L xs [.ref (aX ad), .ref b]) (hW G A (fun ro hp' => ∃ mo lv S2, ro = some (.ref mo) ∧ gX ad mo lv 90 28800 450 S2 hp')) 53500 3477500 A := by
  refine Met.ofW (cc := cL_build) (maxL := 5) (ret := (some (.object "SlipLevelsLaw$Sim"))) (by decide) rfl ?_
  intro p e s m args below meth c s₁ B hml hv
  obtain ⟨rfl, ⟨hV0, hK0, hA⟩, hX, hbl⟩ := hv
  have hx := B.exec
  have hb := B.bytes
  have hr := B.returns
  have hts := atoms_spec (ws := wsB) B.pre
  have hown : s.vm.findClass RL = some m.cls := findClass_of_methodNamed B.named
  have hlocks := B.notSynchronized
  have hF : CallFix p m c cL_build 5 s [.ref (aX ad), .ref b].toArray wsB RL := ⟨hx, hb, hml, hown, hts⟩
  have hw0 := hts (.classLink RL 24 RX3) (by decide +kernel)
  have hw1 := hts (.instantiable RX3 7) (by decide +kernel)
  have hw2 := hts (.initialized RX3) (by decide +kernel)
  have hw3 := hts (.instanceMethod yX3_init) (by decide +kernel)
  have hi3 : ∀ w ∈ u_ws RX3 TX3 7, w ∈ wsB := by
    intro w h
    unfold wsB wsL_build
    simp only [List.mem_cons, List.mem_append, h, true_or, or_true]
  have hS : va_S A s.heap s.heap [] := va_S.rf
  have hl := lv_entry ([.ref (aX ad), .ref b]) (n := 5) (Nat.le_of_ble_eq_true rfl)
  rw [lg_entry_eq]
  generalize (lg_sl ([.ref (aX ad), .ref b]) ++ List.replicate (5 - (lg_sl ([.ref (aX ad), .ref b])).length) Slot.unset).toArray = ls at hl ⊢
  replace hl : lv_has ls 5 [(0, .ref (aX ad)), (1, .ref b)] := hl
  refine h_new hx hb hts hi3 tyX3 tyX3_ok hown hw0 hw1 hw2 hK0 hV0 hA0 hS hA (ci := 3) rfl dfX3 (by show _ ≤ 53500; omega) (by show _ ≤ 3477500; omega) dL_build_0 (fun mo H hqm hV0 hA0 hS => ?_)
  refine lv_dup hx hb dL_build_3 rfl ?_
  have hle0 : leH hp (hput hp mo (eO 3 [.int 0, .int 0, .int 0, .int 0, .int 0, .null, .null])) := leH.rf.new hqm
  refine h_wrIN (As := []) (rest := [.ref mo]) hF (c_X3_init l G A (hput hp mo (eO 3 [.int 0, .int 0, .int 0, .int 0, .int 0, .null, .null])) mo (hput_s _ _ _) hA0) 0 gB_init rfl hK0.2.2.2.2.2.2.2 hw2 hw3 rfl (by decide +kernel) ⟨Nat.le_of_ble_eq_true rfl, Nat.le_of_ble_eq_true rfl⟩ hK0 hV0 hA hS rfl hl.1 rfl (Nat.le_of_ble_eq_true rfl) ⟨by show _ ≤ 53500; omega, by show _ ≤ 3477500; omega⟩ dL_build_4 (fun ro hp1 H locs hP1 hV0 hA0 hS => ?_)
  obtain ⟨rfl, ⟨dk, lv, lvl, row, hm⟩, hE⟩ := hP1
  replace hC := (hC.mvL hle0).mvX hE
  have hg0 : gX ad mo lv 0 0 0 S0 hp1 := ⟨0, _, _, gI_0, hC, dk, lvl, row, by rw [vw_S0]; exact hm⟩
  refine W.widen (k := 10) (n := 65 * 10) (by omega) (by omega) ?_
  refine lv_astore_n (lv' := [(2, .ref mo), (0, .ref (aX ad)), (1, .ref b)]) hx hb dL_build_7 rfl hl (by decide) rfl (fun ls hl => ?_)
  refine lv_bipush (v := nI 20) hx hb dL_build_8 (by decide) ?_
  refine lv_aload_n hx hb dL_build_10 rfl (lv_at hl 2 rfl) ?_
  refine lv_iconst (v := nI 0) hx hb dL_build_11 (by decide) ?_
  refine h_rdSx (As := [.ref b, .int (nI 0)]) (rest := [.int (nI 20)]) hF (c_L_cell l b L xs hL 0 (by omega)) 2 (gZl gL_build_L_cell) rfl (by decide +kernel) ⟨Nat.le_of_ble_eq_true rfl, Nat.le_of_ble_eq_true rfl⟩ hX hbl hbA hS rfl hl.1 rfl (Nat.le_of_ble_eq_true rfl) (by show _ ≤ 53500; omega) (by show _ ≤ 3477500; omega) dL_build_12 ?_
  refine lv_bipush (v := nI 70) hx hb dL_build_15 (by decide) ?_
  have hbl17 : blN ((clX L xs 0)) 70 < 70 := bl_lt _ (by omega)
  refine h_rdS (As := [.int (clX L xs 0), .int (nI 70)]) (rest := [.int (nI 20)]) hF (c_L_below l G hp1 ((clX L xs 0)) 70 (by omega) (by omega)) 2 (gZl gL_build_L_below) rfl (by decide +kernel) ⟨Nat.le_of_ble_eq_true rfl, Nat.le_of_ble_eq_true rfl⟩ hK0 hV0 rfl hl.1 rfl (Nat.le_of_ble_eq_true rfl) (by show _ ≤ 53500; omega) (by show _ ≤ 3477500; omega) dL_build_17 ?_
  refine h_iaddN hx hb dL_build_20 ?_
  refine lv_istore_n (lv' := [(3, .int (nI (20 + blN ((clX L xs 0)) 70))), (2, .ref mo), (0, .ref (aX ad)), (1, .ref b)]) hx hb dL_build_21 rfl hl (by decide) rfl (fun ls hl => ?_)
  refine lv_iconst (v := nI 0) hx hb dL_build_22 (by decide) ?_
  refine lv_istore (lv' := [(4, .int (nI 0)), (3, .int (nI (20 + blN ((clX L xs 0)) 70))), (2, .ref mo), (0, .ref (aX ad)), (1, .ref b)]) hx hb dL_build_23 hl (by decide) rfl (fun ls hl => ?_)
  obtain ⟨N9, hN9, hN9l⟩ : ∃ n : Nat, 20 + blN ((clX L xs 0)) 70 = n ∧ n ≤ 89 := ⟨_, rfl, by omega⟩
  rw [hN9] at hl
  replace hl : lv_has ls 5 [(4, .int (nI 0)), (3, .int (nI N9)), (2, .ref mo), (0, .ref (aX ad)), (1, .ref b)] := lv_sub hl [0, 1, 2, 3, 4] rfl
  refine h_loopWK (G := G) (A := A) (H0 := s.heap) (Wf := fun i k H locs ls => W p l e (headSpec wsB { frames := 8, cells := 53500, slots := 3477500, locals := 183 }).room s m ([.ref (aX ad), .ref b].toArray) below meth c H locs k (65 * k) (MQ below (hW G A (fun ro hp' => ∃ mo lv S2, ro = some (.ref mo) ∧ gX ad mo lv 90 28800 450 S2 hp')) ([.ref (aX ad), .ref b].toArray) s 53500 3477500 A) (F0 m 25 ls [])) N9 (fun i => [(4, .int (nI i)), (3, .int (nI N9)), (2, .ref mo), (0, .ref (aX ad)), (1, .ref b)]) (fun i k hp' => ∃ S, gX ad mo lv i (320 * i) (5 * i) S hp' ∧ k + gS S ≤ 10 + 600 * i) (fun i hi25 k hp' H locs hI25 hV0 hA0 hS ih25 ls hl => ?_) 0 (Nat.zero_le _) 10 _ H locs ⟨S0, hg0, by rw [gS_0]; omega⟩ hV0 hA0 hS ls hl
  obtain ⟨S, ⟨tm, δ, ω, hg, hC, dk, lvl, row, hm⟩, hkS⟩ := hI25
  refine lv_iload hx hb dL_build_25 (lv_at hl 0 rfl) ?_
  refine lv_iload_n hx hb dL_build_27 rfl (lv_at hl 1 rfl) ?_
  refine h_icmp_ge (a := i) (b := N9) (tgt := 71) hx hb dL_build_28 (by decide) (by omega) (by omega) (fun c_28 => ?_) (fun c_28 => ?_)
  · refine lv_aload_n hx hb dL_build_71 rfl (lv_at hl 2 rfl) ?_
    have hgf := G_mono (tb2 := 90) (mb2 := 28800) (gb2 := 450) (⟨tm, δ, ω, hg, hC, dk, lvl, row, hm⟩ : gX ad mo lv i (320 * i) (5 * i) S _) (by omega) (by omega) (by omega)
    refine W.widen (k := 53500) (n := 3477500) (by omega) (by omega) ?_
    exact W.aret hx hb hr (by first | exact Or.inl ⟨_, rfl⟩ | exact Or.inr ⟨_, rfl⟩) (Or.inr ⟨_, rfl⟩) (h_qW ⟨_, _, _, rfl, hgf⟩ hV0 hA0 hS) hS.2.2 dL_build_72 hlocks
  · refine lv_aload_n hx hb dL_build_31 rfl (lv_at hl 3 rfl) ?_
    refine lv_aload_n hx hb dL_build_32 rfl (lv_at hl 2 rfl) ?_
    refine lv_aload_n hx hb dL_build_33 rfl (lv_at hl 4 rfl) ?_
    refine lv_iload hx hb dL_build_34 (lv_at hl 0 rfl) ?_
    refine lv_bipush (v := nI 16) hx hb dL_build_36 (by decide) ?_
    refine h_iremN hx hb (by omega) (by decide) (by decide) dL_build_38 ?_
    refine h_rdSx (As := [.ref b, .int (nI (i % 16))]) (rest := [.ref mo, .ref (aX ad)]) hF (c_L_cell l b L xs hL (i % 16) (by omega)) 2 (gZl gL_build_L_cell) rfl (by decide +kernel) ⟨Nat.le_of_ble_eq_true rfl, Nat.le_of_ble_eq_true rfl⟩ hX hbl hbA hS rfl hl.1 rfl (Nat.le_of_ble_eq_true rfl) (by show _ ≤ 53500; omega) (by show _ ≤ 3477500; omega) dL_build_39 ?_
    refine lv_iload hx hb dL_build_42 (lv_at hl 0 rfl) ?_
    refine lv_bipush (v := nI 16) hx hb dL_build_44 (by decide) ?_
    refine h_idivN hx hb (by omega) (by decide) (by decide) dL_build_46 ?_
    refine lv_iconst (v := nI 2) hx hb dL_build_47 (by decide) ?_
    refine h_imulN hx hb dL_build_48 ?_
    refine lv_ishr hx hb dL_build_49 ?_
    refine lv_sipush (v := nI 337) hx hb dL_build_50 (by decide) ?_
    refine lv_iload hx hb dL_build_53 (lv_at hl 0 rfl) ?_
    refine h_imulN hx hb dL_build_55 ?_
    refine lv_iadd hx hb dL_build_56 ?_
    obtain ⟨k9, hk9, hAct⟩ := c_L_act l G A hp' ad S hC mo dk lv lvl row tm δ ω hm _ _ _ hg (by omega) ((((clX L xs (i % 16)) >>> (nI (((i) / 16) * (2)) &&& 31)) + nI ((337) * (i)))) hA0
    refine h_wrS (As := [.ref (aX ad), .ref mo, .int (((clX L xs (i % 16)) >>> (nI (((i) / 16) * (2)) &&& 31)) + nI ((337) * (i)))]) (rest := []) hF hAct 3 (gZl gL_build_L_act) rfl (by decide +kernel) ⟨Nat.le_of_ble_eq_true rfl, Nat.le_of_ble_eq_true rfl⟩ hK0 hV0 hA hS rfl hl.1 rfl (Nat.le_of_ble_eq_true rfl) ⟨by show _ ≤ 53500; omega, by show _ ≤ 3477500; omega⟩ dL_build_57 (fun ro hp1 H locs hP1 hV0 hA0 hS => ?_)
    obtain ⟨rfl, S2, hg2, hk2⟩ := hP1
    refine h_if_neB (tgt := 65) hx hb dL_build_60 (by decide) (fun c_60 => ?_) (fun c_60 => absurd c_60 (by decide))
    refine lv_iinc (v := nI (i + 1)) (lv' := [(4, .int (nI (i + 1))), (3, .int (nI N9)), (2, .ref mo), (0, .ref (aX ad)), (1, .ref b)]) hx hb dL_build_65 hl (k := 0) rfl (nI_add (i) 1) (by decide) rfl (fun ls hl => ?_)
    refine lv_goto (tgt := 25) hx hb dL_build_68 (by decide) ?_
    refine W.widen (k := k + k9) (n := 65 * (k + k9)) (by omega) (by omega) ?_
    exact ih25 (k + k9) _ H locs (by omega) ⟨S2, G_mono hg2 (by omega) (by omega) (by omega), by omega⟩ hV0 hA0 hS ls (lv_sub hl [0, 1, 2, 3, 4] rfl)
