/-! the law: below, act -/
set_option maxHeartbeats 1000000 in
set_option maxRecDepth 100000 in
theorem c_L_below (l : Launch) (G : hG) (hp : HP) (x : Int32) (n : Nat) (h0 : 0 < n) (hn : n < 2 ^ 31) : hRd l yL_below wsL_below 0 0 G hp [.int x, .int (nI n)] (some (.int (nI (blN x n)))) := by
  refine Met.ofW (cc := cL_below) (maxL := 2) (ret := (some .int)) (by decide) rfl ?_
  intro p e s m args below meth c s₁ B hml hv
  obtain ⟨rfl, hV0, hK0⟩ := hv
  have hx := B.exec
  have hb := B.bytes
  have hr := B.returns
  have hts := atoms_spec (ws := wsL_below) B.pre
  have hown : s.vm.findClass RL = some m.cls := findClass_of_methodNamed B.named
  have hlocks := B.notSynchronized
  have hF : CallFix p m c cL_below 2 s [.int x, .int (nI n)].toArray wsL_below RL := ⟨hx, hb, hml, hown, hts⟩
  have hw0 := hts (.constant RL 7 (2147483647)) (by decide +kernel)
  have hl := lv_entry ([.int x, .int (nI n)]) (n := 2) (Nat.le_of_ble_eq_true rfl)
  rw [lg_entry_eq]
  generalize (lg_sl ([.int x, .int (nI n)]) ++ List.replicate (2 - (lg_sl ([.int x, .int (nI n)])).length) Slot.unset).toArray = ls at hl ⊢
  replace hl : lv_has ls 2 [(0, .int x), (1, .int (nI n))] := hl
  refine lv_iload_n hx hb dL_below_0 rfl (lv_at hl 0 rfl) ?_
  refine lv_ldc (v := 2147483647) hx hb hown hw0 dL_below_1 ?_
  refine lv_iand hx hb dL_below_3 ?_
  rw [bl_and]
  refine lv_iload_n hx hb dL_below_4 rfl (lv_at hl 1 rfl) ?_
  refine h_iremN hx hb (by omega) h0 hn dL_below_5 ?_
  exact h_iretR hx hb hr hlocks rfl dL_below_6

set_option maxHeartbeats 1000000 in
set_option maxRecDepth 100000 in
theorem c_act_0e (l : Launch) (G : hG) (A : Nat → Prop) (hp : HP) (ad : Nat → Nat) (S : CS) (hC : cW ad S hp) (mo dk lv : Nat) (lvl : Nat → Nat) (row : Nat → Nat → Nat) (tm : Nat) (δ : TG) (ω : TS) (hm : sA mo dk lv lvl row (sR S) tm (sD S) (sF S 0) δ (vw S 0) ω hp) (tb mb gb : Nat) (hg : gI tb mb gb S tm δ ω) (htb : tb < 1000) (x : Int32) (hsw : blN (x >>> (nI 9 &&& 31)) 18 = 0) (h2 : blN x 2 = 0) (hA0 : hIn A hp) : hWr l yL_act wsL_act 7 157 (0) (65 * (0)) G A hp [.ref (aX ad), .ref mo, .int x] (fun ro hp' => ro = some (.int (bI true)) ∧ ∃ S2, gX ad mo lv (tb + 1) (mb + 320) (gb + 5) S2 hp' ∧ 0 + gS S2 ≤ gS S + 600) := by
  refine Met.ofW (cc := cL_act) (maxL := 7) (ret := (some .boolean)) (by decide) rfl ?_
  intro p e s m args below meth c s₁ B hml hv
  obtain ⟨rfl, hV0, hK0, hA⟩ := hv
  have hx := B.exec
  have hb := B.bytes
  have hr := B.returns
  have hts := atoms_spec (ws := wsL_act) B.pre
  have hown : s.vm.findClass RL = some m.cls := findClass_of_methodNamed B.named
  have hlocks := B.notSynchronized
  have hF : CallFix p m c cL_act 7 s [.ref (aX ad), .ref mo, .int x].toArray wsL_act RL := ⟨hx, hb, hml, hown, hts⟩
  have hS : va_S A s.heap s.heap [] := va_S.rf
  have hl := lv_entry ([.ref (aX ad), .ref mo, .int x]) (n := 7) (Nat.le_of_ble_eq_true rfl)
  rw [lg_entry_eq]
  generalize (lg_sl ([.ref (aX ad), .ref mo, .int x]) ++ List.replicate (7 - (lg_sl ([.ref (aX ad), .ref mo, .int x])).length) Slot.unset).toArray = ls at hl ⊢
  replace hl : lv_has ls 7 [(0, .ref (aX ad)), (1, .ref mo), (2, .int x)] := hl
  have hn := hm.le
  have hn9l := numN_lt x
  obtain ⟨hI, hoT, hoD, htd, htg, ⟨r9, hr1, hr2, hr3⟩, hmv, hmg, htm9⟩ := id hg
  have hnk := hC.ok.n
  have hvk := hm.v
  have hokd : okR (sF S 0) := hC.ok.1 0
  have hI2 : ∀ l, l < 4 → bN (vw S 0) l ≤ 2 := fun l hl => hI l hl
  have hE : exH hp hp := exH.rf
  have hzd := szR_le (sF S 0)
  refine lv_iload_n hx hb dL_act_0 rfl (lv_at hl 2 rfl) ?_
  refine lv_iconst (v := nI 1) hx hb dL_act_1 (by decide) ?_
  refine lv_ishr hx hb dL_act_2 ?_
  refine lv_iload_n hx hb dL_act_3 rfl (lv_at hl 2 rfl) ?_
  refine lv_iconst (v := nI 5) hx hb dL_act_4 (by decide) ?_
  refine lv_ishr hx hb dL_act_5 ?_
  refine lv_iconst (v := nI 3) hx hb dL_act_6 (by decide) ?_
  have hbl7 : blN ((x >>> (nI 5 &&& 31))) 3 < 3 := bl_lt _ (by omega)
  refine h_rdS (As := [.int (x >>> (nI 5 &&& 31)), .int (nI 3)]) (rest := [.int (x >>> (nI 1 &&& 31))]) hF (c_L_below l G hp ((x >>> (nI 5 &&& 31))) 3 (by omega) (by omega)) 2 gL_act_L_below rfl (by decide +kernel) ⟨Nat.le_of_ble_eq_true rfl, Nat.le_of_ble_eq_true rfl⟩ hK0 hV0 rfl hl.1 rfl (Nat.le_of_ble_eq_true rfl) (by show _ ≤ (0); omega) (by show _ ≤ (65 * (0)); omega) dL_act_7 ?_
  refine h_if_ne (a := blN ((x >>> (nI 5 &&& 31))) 3) (tgt := 18) hx hb dL_act_10 (by decide) (by omega) (fun c_10 => ?_) (fun c_10 => ?_)
  · refine lv_bipush (v := nI 13) hx hb dL_act_18 (by decide) ?_
    have hbl20 : blN ((x >>> (nI 1 &&& 31))) 13 < 13 := bl_lt _ (by omega)
    refine h_rdS (As := [.int (x >>> (nI 1 &&& 31)), .int (nI 13)]) (rest := []) hF (c_L_below l G hp ((x >>> (nI 1 &&& 31))) 13 (by omega) (by omega)) 2 gL_act_L_below rfl (by decide +kernel) ⟨Nat.le_of_ble_eq_true rfl, Nat.le_of_ble_eq_true rfl⟩ hK0 hV0 rfl hl.1 rfl (Nat.le_of_ble_eq_true rfl) (by show _ ≤ (0); omega) (by show _ ≤ (65 * (0)); omega) dL_act_20 ?_
    have hnum : blN ((x >>> (nI 1 &&& 31))) 13 = numN x := (if_neg c_10).symm
    rw [hnum]
    refine lv_istore_n (lv' := [(3, .int (nI (numN x))), (0, .ref (aX ad)), (1, .ref mo), (2, .int x)]) hx hb dL_act_23 rfl hl (by decide) rfl (fun ls hl => ?_)
    refine lv_iload_n hx hb dL_act_24 rfl (lv_at hl 3 rfl) ?_
    refine lv_bipush (v := nI 9) hx hb dL_act_25 (by decide) ?_
    refine lv_ishr hx hb dL_act_27 ?_
    refine lv_bipush (v := nI 18) hx hb dL_act_28 (by decide) ?_
    have hbl30 : blN ((x >>> (nI 9 &&& 31))) 18 < 18 := bl_lt _ (by omega)
    refine h_rdS (As := [.int (x >>> (nI 9 &&& 31)), .int (nI 18)]) (rest := []) hF (c_L_below l G hp ((x >>> (nI 9 &&& 31))) 18 (by omega) (by omega)) 2 gL_act_L_below rfl (by decide +kernel) ⟨Nat.le_of_ble_eq_true rfl, Nat.le_of_ble_eq_true rfl⟩ hK0 hV0 rfl hl.1 rfl (Nat.le_of_ble_eq_true rfl) (by show _ ≤ (0); omega) (by show _ ≤ (65 * (0)); omega) dL_act_30 ?_
    rw [hsw]
    refine lv_tableIn (off := 51) (tgt := 84) hx hb dL_act_33 (by decide) (by decide) (by decide) (by decide) ?_
    refine lv_iload_n hx hb dL_act_84 rfl (lv_at hl 3 rfl) ?_
    refine lv_iconst (v := nI 2) hx hb dL_act_85 (by decide) ?_
    have hbl86 : blN (x) 2 < 2 := bl_lt _ (by omega)
    refine h_rdS (As := [.int x, .int (nI 2)]) (rest := []) hF (c_L_below l G hp (x) 2 (by omega) (by omega)) 2 gL_act_L_below rfl (by decide +kernel) ⟨Nat.le_of_ble_eq_true rfl, Nat.le_of_ble_eq_true rfl⟩ hK0 hV0 rfl hl.1 rfl (Nat.le_of_ble_eq_true rfl) (by show _ ≤ (0); omega) (by show _ ≤ (65 * (0)); omega) dL_act_86 ?_
    refine h_if_ne (a := blN (x) 2) (tgt := 94) hx hb dL_act_89 (by decide) (by omega) (fun c_89 => absurd h2 c_89) (fun c_89 => ?_)
    refine lv_iconst (v := nI 1) hx hb dL_act_92 (by decide) ?_
    refine W.widen (k := (0)) (n := (65 * (0))) (by omega) (by omega) ?_
    exact W.zret hx hb hr (by first | exact narrow_bI _ | rfl) (h_qW ⟨rfl, S, G_mono (G_same hg hC hm) (by omega) (by omega) (by omega), by omega⟩ hV0 hA0 hS) hS.2.2 dL_act_93 hlocks
  · refine lv_bipush (v := nI 64) hx hb dL_act_13 (by decide) ?_
    refine lv_goto (tgt := 20) hx hb dL_act_15 (by decide) ?_
    have hbl20 : blN ((x >>> (nI 1 &&& 31))) 64 < 64 := bl_lt _ (by omega)
    refine h_rdS (As := [.int (x >>> (nI 1 &&& 31)), .int (nI 64)]) (rest := []) hF (c_L_below l G hp ((x >>> (nI 1 &&& 31))) 64 (by omega) (by omega)) 2 gL_act_L_below rfl (by decide +kernel) ⟨Nat.le_of_ble_eq_true rfl, Nat.le_of_ble_eq_true rfl⟩ hK0 hV0 rfl hl.1 rfl (Nat.le_of_ble_eq_true rfl) (by show _ ≤ (0); omega) (by show _ ≤ (65 * (0)); omega) dL_act_20 ?_
    have hnum : blN ((x >>> (nI 1 &&& 31))) 64 = numN x := (if_pos c_10).symm
    rw [hnum]
    refine lv_istore_n (lv' := [(3, .int (nI (numN x))), (0, .ref (aX ad)), (1, .ref mo), (2, .int x)]) hx hb dL_act_23 rfl hl (by decide) rfl (fun ls hl => ?_)
    refine lv_iload_n hx hb dL_act_24 rfl (lv_at hl 3 rfl) ?_
    refine lv_bipush (v := nI 9) hx hb dL_act_25 (by decide) ?_
    refine lv_ishr hx hb dL_act_27 ?_
    refine lv_bipush (v := nI 18) hx hb dL_act_28 (by decide) ?_
    have hbl30 : blN ((x >>> (nI 9 &&& 31))) 18 < 18 := bl_lt _ (by omega)
    refine h_rdS (As := [.int (x >>> (nI 9 &&& 31)), .int (nI 18)]) (rest := []) hF (c_L_below l G hp ((x >>> (nI 9 &&& 31))) 18 (by omega) (by omega)) 2 gL_act_L_below rfl (by decide +kernel) ⟨Nat.le_of_ble_eq_true rfl, Nat.le_of_ble_eq_true rfl⟩ hK0 hV0 rfl hl.1 rfl (Nat.le_of_ble_eq_true rfl) (by show _ ≤ (0); omega) (by show _ ≤ (65 * (0)); omega) dL_act_30 ?_
    rw [hsw]
    refine lv_tableIn (off := 51) (tgt := 84) hx hb dL_act_33 (by decide) (by decide) (by decide) (by decide) ?_
    refine lv_iload_n hx hb dL_act_84 rfl (lv_at hl 3 rfl) ?_
    refine lv_iconst (v := nI 2) hx hb dL_act_85 (by decide) ?_
    have hbl86 : blN (x) 2 < 2 := bl_lt _ (by omega)
    refine h_rdS (As := [.int x, .int (nI 2)]) (rest := []) hF (c_L_below l G hp (x) 2 (by omega) (by omega)) 2 gL_act_L_below rfl (by decide +kernel) ⟨Nat.le_of_ble_eq_true rfl, Nat.le_of_ble_eq_true rfl⟩ hK0 hV0 rfl hl.1 rfl (Nat.le_of_ble_eq_true rfl) (by show _ ≤ (0); omega) (by show _ ≤ (65 * (0)); omega) dL_act_86 ?_
    refine h_if_ne (a := blN (x) 2) (tgt := 94) hx hb dL_act_89 (by decide) (by omega) (fun c_89 => absurd h2 c_89) (fun c_89 => ?_)
    refine lv_iconst (v := nI 1) hx hb dL_act_92 (by decide) ?_
    refine W.widen (k := (0)) (n := (65 * (0))) (by omega) (by omega) ?_
    exact W.zret hx hb hr (by first | exact narrow_bI _ | rfl) (h_qW ⟨rfl, S, G_mono (G_same hg hC hm) (by omega) (by omega) (by omega), by omega⟩ hV0 hA0 hS) hS.2.2 dL_act_93 hlocks

set_option maxHeartbeats 1000000 in
set_option maxRecDepth 100000 in
theorem c_act_0B (l : Launch) (G : hG) (A : Nat → Prop) (hp : HP) (ad : Nat → Nat) (S : CS) (hC : cW ad S hp) (mo dk lv : Nat) (lvl : Nat → Nat) (row : Nat → Nat → Nat) (tm : Nat) (δ : TG) (ω : TS) (hm : sA mo dk lv lvl row (sR S) tm (sD S) (sF S 0) δ (vw S 0) ω hp) (tb mb gb : Nat) (hg : gI tb mb gb S tm δ ω) (htb : tb < 1000) (x : Int32) (hsw : blN (x >>> (nI 9 &&& 31)) 18 = 0) (h2 : ¬ blN x 2 = 0) (hzz : 0 < szR (sF S 0)) (hA0 : hIn A hp) : hWr l yL_act wsL_act 7 157 (2 + stC (cmB (vw S 0) 0 (sF S 0)) 4) (65 * (2 + stC (cmB (vw S 0) 0 (sF S 0)) 4)) G A hp [.ref (aX ad), .ref mo, .int x] (fun ro hp' => ro = some (.int (bI true)) ∧ ∃ S2, gX ad mo lv (tb + 1) (mb + 320) (gb + 5) S2 hp' ∧ 2 + stC (cmB (vw S 0) 0 (sF S 0)) 4 + gS S2 ≤ gS S + 600) := by
  refine Met.ofW (cc := cL_act) (maxL := 7) (ret := (some .boolean)) (by decide) rfl ?_
  intro p e s m args below meth c s₁ B hml hv
  obtain ⟨rfl, hV0, hK0, hA⟩ := hv
  have hx := B.exec
  have hb := B.bytes
  have hr := B.returns
  have hts := atoms_spec (ws := wsL_act) B.pre
  have hown : s.vm.findClass RL = some m.cls := findClass_of_methodNamed B.named
  have hlocks := B.notSynchronized
  have hF : CallFix p m c cL_act 7 s [.ref (aX ad), .ref mo, .int x].toArray wsL_act RL := ⟨hx, hb, hml, hown, hts⟩
  have hS : va_S A s.heap s.heap [] := va_S.rf
  have hl := lv_entry ([.ref (aX ad), .ref mo, .int x]) (n := 7) (Nat.le_of_ble_eq_true rfl)
  rw [lg_entry_eq]
  generalize (lg_sl ([.ref (aX ad), .ref mo, .int x]) ++ List.replicate (7 - (lg_sl ([.ref (aX ad), .ref mo, .int x])).length) Slot.unset).toArray = ls at hl ⊢
  replace hl : lv_has ls 7 [(0, .ref (aX ad)), (1, .ref mo), (2, .int x)] := hl
  have hn := hm.le
  have hn9l := numN_lt x
  obtain ⟨hI, hoT, hoD, htd, htg, ⟨r9, hr1, hr2, hr3⟩, hmv, hmg, htm9⟩ := id hg
  have hnk := hC.ok.n
  have hvk := hm.v
  have hokd : okR (sF S 0) := hC.ok.1 0
  have hI2 : ∀ l, l < 4 → bN (vw S 0) l ≤ 2 := fun l hl => hI l hl
  have hE : exH hp hp := exH.rf
  have hzd := szR_le (sF S 0)
  have hz9 : ¬ szR (sF S 0) = 0 := by omega
  refine lv_iload_n hx hb dL_act_0 rfl (lv_at hl 2 rfl) ?_
  refine lv_iconst (v := nI 1) hx hb dL_act_1 (by decide) ?_
  refine lv_ishr hx hb dL_act_2 ?_
  refine lv_iload_n hx hb dL_act_3 rfl (lv_at hl 2 rfl) ?_
  refine lv_iconst (v := nI 5) hx hb dL_act_4 (by decide) ?_
  refine lv_ishr hx hb dL_act_5 ?_
  refine lv_iconst (v := nI 3) hx hb dL_act_6 (by decide) ?_
  have hbl7 : blN ((x >>> (nI 5 &&& 31))) 3 < 3 := bl_lt _ (by omega)
  refine h_rdS (As := [.int (x >>> (nI 5 &&& 31)), .int (nI 3)]) (rest := [.int (x >>> (nI 1 &&& 31))]) hF (c_L_below l G hp ((x >>> (nI 5 &&& 31))) 3 (by omega) (by omega)) 2 gL_act_L_below rfl (by decide +kernel) ⟨Nat.le_of_ble_eq_true rfl, Nat.le_of_ble_eq_true rfl⟩ hK0 hV0 rfl hl.1 rfl (Nat.le_of_ble_eq_true rfl) (by show _ ≤ (2 + stC (cmB (vw S 0) 0 (sF S 0)) 4); omega) (by show _ ≤ (65 * (2 + stC (cmB (vw S 0) 0 (sF S 0)) 4)); omega) dL_act_7 ?_
  refine h_if_ne (a := blN ((x >>> (nI 5 &&& 31))) 3) (tgt := 18) hx hb dL_act_10 (by decide) (by omega) (fun c_10 => ?_) (fun c_10 => ?_)
  · refine lv_bipush (v := nI 13) hx hb dL_act_18 (by decide) ?_
    have hbl20 : blN ((x >>> (nI 1 &&& 31))) 13 < 13 := bl_lt _ (by omega)
    refine h_rdS (As := [.int (x >>> (nI 1 &&& 31)), .int (nI 13)]) (rest := []) hF (c_L_below l G hp ((x >>> (nI 1 &&& 31))) 13 (by omega) (by omega)) 2 gL_act_L_below rfl (by decide +kernel) ⟨Nat.le_of_ble_eq_true rfl, Nat.le_of_ble_eq_true rfl⟩ hK0 hV0 rfl hl.1 rfl (Nat.le_of_ble_eq_true rfl) (by show _ ≤ (2 + stC (cmB (vw S 0) 0 (sF S 0)) 4); omega) (by show _ ≤ (65 * (2 + stC (cmB (vw S 0) 0 (sF S 0)) 4)); omega) dL_act_20 ?_
    have hnum : blN ((x >>> (nI 1 &&& 31))) 13 = numN x := (if_neg c_10).symm
    rw [hnum]
    refine lv_istore_n (lv' := [(3, .int (nI (numN x))), (0, .ref (aX ad)), (1, .ref mo), (2, .int x)]) hx hb dL_act_23 rfl hl (by decide) rfl (fun ls hl => ?_)
    refine lv_iload_n hx hb dL_act_24 rfl (lv_at hl 3 rfl) ?_
    refine lv_bipush (v := nI 9) hx hb dL_act_25 (by decide) ?_
    refine lv_ishr hx hb dL_act_27 ?_
    refine lv_bipush (v := nI 18) hx hb dL_act_28 (by decide) ?_
    have hbl30 : blN ((x >>> (nI 9 &&& 31))) 18 < 18 := bl_lt _ (by omega)
    refine h_rdS (As := [.int (x >>> (nI 9 &&& 31)), .int (nI 18)]) (rest := []) hF (c_L_below l G hp ((x >>> (nI 9 &&& 31))) 18 (by omega) (by omega)) 2 gL_act_L_below rfl (by decide +kernel) ⟨Nat.le_of_ble_eq_true rfl, Nat.le_of_ble_eq_true rfl⟩ hK0 hV0 rfl hl.1 rfl (Nat.le_of_ble_eq_true rfl) (by show _ ≤ (2 + stC (cmB (vw S 0) 0 (sF S 0)) 4); omega) (by show _ ≤ (65 * (2 + stC (cmB (vw S 0) 0 (sF S 0)) 4)); omega) dL_act_30 ?_
    rw [hsw]
    refine lv_tableIn (off := 51) (tgt := 84) hx hb dL_act_33 (by decide) (by decide) (by decide) (by decide) ?_
    refine lv_iload_n hx hb dL_act_84 rfl (lv_at hl 3 rfl) ?_
    refine lv_iconst (v := nI 2) hx hb dL_act_85 (by decide) ?_
    have hbl86 : blN (x) 2 < 2 := bl_lt _ (by omega)
    refine h_rdS (As := [.int x, .int (nI 2)]) (rest := []) hF (c_L_below l G hp (x) 2 (by omega) (by omega)) 2 gL_act_L_below rfl (by decide +kernel) ⟨Nat.le_of_ble_eq_true rfl, Nat.le_of_ble_eq_true rfl⟩ hK0 hV0 rfl hl.1 rfl (Nat.le_of_ble_eq_true rfl) (by show _ ≤ (2 + stC (cmB (vw S 0) 0 (sF S 0)) 4); omega) (by show _ ≤ (65 * (2 + stC (cmB (vw S 0) 0 (sF S 0)) 4)); omega) dL_act_86 ?_
    refine h_if_ne (a := blN (x) 2) (tgt := 94) hx hb dL_act_89 (by decide) (by omega) (fun c_89 => ?_) (fun c_89 => absurd c_89 h2)
    refine lv_aload_n hx hb dL_act_94 rfl (lv_at hl 1 rfl) ?_
    refine h_wrV (As := []) (rest := []) hF (c_X2_bind l G A hp ad S hC hI  hA0) 0 gL_act_X2_bind rfl (by decide +kernel) ⟨Nat.le_of_ble_eq_true rfl, Nat.le_of_ble_eq_true rfl⟩ hK0 hV0 hA hS hC.xo rfl rfl rfl hl.1 rfl (Nat.le_of_ble_eq_true rfl) ⟨by show _ ≤ (2 + stC (cmB (vw S 0) 0 (sF S 0)) 4); omega, by show _ ≤ (65 * (2 + stC (cmB (vw S 0) 0 (sF S 0)) 4)); omega⟩ dL_act_95 (fun ro hp1 H locs hP1 hV0 hA0 hS => ?_)
    rw [if_neg hz9, if_neg hz9] at hP1
    obtain ⟨rfl, hT⟩ := hP1
    replace hm := hm.ms (cT.skw hC hT)
    have hCn := hT.1
    have hn := hm.le
    refine lv_aload_n hx hb dL_act_98 rfl (lv_at hl 2 rfl) ?_
    refine h_wrV (As := []) (rest := [.int (sV (bfS S) 0 - sV S 0)]) hF (c_X3_bind l G A hp1 mo dk lv lvl row (sR S) tm (sD S) (sF S 0) δ (vw S 0) ω hm hI2 hoT hoD hokd hzz hA0) 0 gL_act_X3_bind rfl (by decide +kernel) ⟨Nat.le_of_ble_eq_true rfl, Nat.le_of_ble_eq_true rfl⟩ hK0 hV0 hA hS hm.cmo rfl rfl rfl hl.1 rfl (Nat.le_of_ble_eq_true rfl) ⟨by show _ ≤ (2 + stC (cmB (vw S 0) 0 (sF S 0)) 4); omega, by show _ ≤ (65 * (2 + stC (cmB (vw S 0) 0 (sF S 0)) 4)); omega⟩ dL_act_99 (fun ro hp2 H locs hP1 hV0 hA0 hS => ?_)
    obtain ⟨rfl, ⟨dk2, lvl2, row2, hm2⟩, hE3⟩ := hP1
    replace hCn := hCn.mvX hE3
    refine lv_icmp_ne (tgt := 109) hx hb dL_act_102 (by decide) (fun c_102 => absurd (q_bind hnk hI hzz) c_102) (fun c_102 => ?_)
    refine lv_iconst (v := nI 1) hx hb dL_act_105 (by decide) ?_
    refine lv_goto (tgt := 110) hx hb dL_act_106 (by decide) ?_
    refine W.widen (k := (2 + stC (cmB (vw S 0) 0 (sF S 0)) 4)) (n := (65 * (2 + stC (cmB (vw S 0) 0 (sF S 0)) 4))) (by omega) (by omega) ?_
    exact W.zret hx hb hr (by first | exact narrow_bI _ | rfl) (h_qW ⟨rfl, bfS S, G_mono (G_bind hg hnk hvk hokd hzz hCn hm2) (by omega) (by omega) (by omega), by have := gS_bf hnk hI hvk hokd hzz; omega⟩ hV0 hA0 hS) hS.2.2 dL_act_110 hlocks
  · refine lv_bipush (v := nI 64) hx hb dL_act_13 (by decide) ?_
    refine lv_goto (tgt := 20) hx hb dL_act_15 (by decide) ?_
    have hbl20 : blN ((x >>> (nI 1 &&& 31))) 64 < 64 := bl_lt _ (by omega)
    refine h_rdS (As := [.int (x >>> (nI 1 &&& 31)), .int (nI 64)]) (rest := []) hF (c_L_below l G hp ((x >>> (nI 1 &&& 31))) 64 (by omega) (by omega)) 2 gL_act_L_below rfl (by decide +kernel) ⟨Nat.le_of_ble_eq_true rfl, Nat.le_of_ble_eq_true rfl⟩ hK0 hV0 rfl hl.1 rfl (Nat.le_of_ble_eq_true rfl) (by show _ ≤ (2 + stC (cmB (vw S 0) 0 (sF S 0)) 4); omega) (by show _ ≤ (65 * (2 + stC (cmB (vw S 0) 0 (sF S 0)) 4)); omega) dL_act_20 ?_
    have hnum : blN ((x >>> (nI 1 &&& 31))) 64 = numN x := (if_pos c_10).symm
    rw [hnum]
    refine lv_istore_n (lv' := [(3, .int (nI (numN x))), (0, .ref (aX ad)), (1, .ref mo), (2, .int x)]) hx hb dL_act_23 rfl hl (by decide) rfl (fun ls hl => ?_)
    refine lv_iload_n hx hb dL_act_24 rfl (lv_at hl 3 rfl) ?_
    refine lv_bipush (v := nI 9) hx hb dL_act_25 (by decide) ?_
    refine lv_ishr hx hb dL_act_27 ?_
    refine lv_bipush (v := nI 18) hx hb dL_act_28 (by decide) ?_
    have hbl30 : blN ((x >>> (nI 9 &&& 31))) 18 < 18 := bl_lt _ (by omega)
    refine h_rdS (As := [.int (x >>> (nI 9 &&& 31)), .int (nI 18)]) (rest := []) hF (c_L_below l G hp ((x >>> (nI 9 &&& 31))) 18 (by omega) (by omega)) 2 gL_act_L_below rfl (by decide +kernel) ⟨Nat.le_of_ble_eq_true rfl, Nat.le_of_ble_eq_true rfl⟩ hK0 hV0 rfl hl.1 rfl (Nat.le_of_ble_eq_true rfl) (by show _ ≤ (2 + stC (cmB (vw S 0) 0 (sF S 0)) 4); omega) (by show _ ≤ (65 * (2 + stC (cmB (vw S 0) 0 (sF S 0)) 4)); omega) dL_act_30 ?_
    rw [hsw]
    refine lv_tableIn (off := 51) (tgt := 84) hx hb dL_act_33 (by decide) (by decide) (by decide) (by decide) ?_
    refine lv_iload_n hx hb dL_act_84 rfl (lv_at hl 3 rfl) ?_
    refine lv_iconst (v := nI 2) hx hb dL_act_85 (by decide) ?_
    have hbl86 : blN (x) 2 < 2 := bl_lt _ (by omega)
    refine h_rdS (As := [.int x, .int (nI 2)]) (rest := []) hF (c_L_below l G hp (x) 2 (by omega) (by omega)) 2 gL_act_L_below rfl (by decide +kernel) ⟨Nat.le_of_ble_eq_true rfl, Nat.le_of_ble_eq_true rfl⟩ hK0 hV0 rfl hl.1 rfl (Nat.le_of_ble_eq_true rfl) (by show _ ≤ (2 + stC (cmB (vw S 0) 0 (sF S 0)) 4); omega) (by show _ ≤ (65 * (2 + stC (cmB (vw S 0) 0 (sF S 0)) 4)); omega) dL_act_86 ?_
    refine h_if_ne (a := blN (x) 2) (tgt := 94) hx hb dL_act_89 (by decide) (by omega) (fun c_89 => ?_) (fun c_89 => absurd c_89 h2)
    refine lv_aload_n hx hb dL_act_94 rfl (lv_at hl 1 rfl) ?_
    refine h_wrV (As := []) (rest := []) hF (c_X2_bind l G A hp ad S hC hI  hA0) 0 gL_act_X2_bind rfl (by decide +kernel) ⟨Nat.le_of_ble_eq_true rfl, Nat.le_of_ble_eq_true rfl⟩ hK0 hV0 hA hS hC.xo rfl rfl rfl hl.1 rfl (Nat.le_of_ble_eq_true rfl) ⟨by show _ ≤ (2 + stC (cmB (vw S 0) 0 (sF S 0)) 4); omega, by show _ ≤ (65 * (2 + stC (cmB (vw S 0) 0 (sF S 0)) 4)); omega⟩ dL_act_95 (fun ro hp1 H locs hP1 hV0 hA0 hS => ?_)
    rw [if_neg hz9, if_neg hz9] at hP1
    obtain ⟨rfl, hT⟩ := hP1
    replace hm := hm.ms (cT.skw hC hT)
    have hCn := hT.1
    have hn := hm.le
    refine lv_aload_n hx hb dL_act_98 rfl (lv_at hl 2 rfl) ?_
    refine h_wrV (As := []) (rest := [.int (sV (bfS S) 0 - sV S 0)]) hF (c_X3_bind l G A hp1 mo dk lv lvl row (sR S) tm (sD S) (sF S 0) δ (vw S 0) ω hm hI2 hoT hoD hokd hzz hA0) 0 gL_act_X3_bind rfl (by decide +kernel) ⟨Nat.le_of_ble_eq_true rfl, Nat.le_of_ble_eq_true rfl⟩ hK0 hV0 hA hS hm.cmo rfl rfl rfl hl.1 rfl (Nat.le_of_ble_eq_true rfl) ⟨by show _ ≤ (2 + stC (cmB (vw S 0) 0 (sF S 0)) 4); omega, by show _ ≤ (65 * (2 + stC (cmB (vw S 0) 0 (sF S 0)) 4)); omega⟩ dL_act_99 (fun ro hp2 H locs hP1 hV0 hA0 hS => ?_)
    obtain ⟨rfl, ⟨dk2, lvl2, row2, hm2⟩, hE3⟩ := hP1
    replace hCn := hCn.mvX hE3
    refine lv_icmp_ne (tgt := 109) hx hb dL_act_102 (by decide) (fun c_102 => absurd (q_bind hnk hI hzz) c_102) (fun c_102 => ?_)
    refine lv_iconst (v := nI 1) hx hb dL_act_105 (by decide) ?_
    refine lv_goto (tgt := 110) hx hb dL_act_106 (by decide) ?_
    refine W.widen (k := (2 + stC (cmB (vw S 0) 0 (sF S 0)) 4)) (n := (65 * (2 + stC (cmB (vw S 0) 0 (sF S 0)) 4))) (by omega) (by omega) ?_
    exact W.zret hx hb hr (by first | exact narrow_bI _ | rfl) (h_qW ⟨rfl, bfS S, G_mono (G_bind hg hnk hvk hokd hzz hCn hm2) (by omega) (by omega) (by omega), by have := gS_bf hnk hI hvk hokd hzz; omega⟩ hV0 hA0 hS) hS.2.2 dL_act_110 hlocks

set_option maxHeartbeats 1000000 in
set_option maxRecDepth 100000 in
theorem c_act_0N (l : Launch) (G : hG) (A : Nat → Prop) (hp : HP) (ad : Nat → Nat) (S : CS) (hC : cW ad S hp) (mo dk lv : Nat) (lvl : Nat → Nat) (row : Nat → Nat → Nat) (tm : Nat) (δ : TG) (ω : TS) (hm : sA mo dk lv lvl row (sR S) tm (sD S) (sF S 0) δ (vw S 0) ω hp) (tb mb gb : Nat) (hg : gI tb mb gb S tm δ ω) (htb : tb < 1000) (x : Int32) (hsw : blN (x >>> (nI 9 &&& 31)) 18 = 0) (h2 : ¬ blN x 2 = 0) (hz9 : szR (sF S 0) = 0) (hA0 : hIn A hp) : hWr l yL_act wsL_act 7 157 (0) (65 * (0)) G A hp [.ref (aX ad), .ref mo, .int x] (fun ro hp' => ro = some (.int (bI true)) ∧ ∃ S2, gX ad mo lv (tb + 1) (mb + 320) (gb + 5) S2 hp' ∧ 0 + gS S2 ≤ gS S + 600) := by
  refine Met.ofW (cc := cL_act) (maxL := 7) (ret := (some .boolean)) (by decide) rfl ?_
  intro p e s m args below meth c s₁ B hml hv
  obtain ⟨rfl, hV0, hK0, hA⟩ := hv
  have hx := B.exec
  have hb := B.bytes
  have hr := B.returns
  have hts := atoms_spec (ws := wsL_act) B.pre
  have hown : s.vm.findClass RL = some m.cls := findClass_of_methodNamed B.named
  have hlocks := B.notSynchronized
  have hF : CallFix p m c cL_act 7 s [.ref (aX ad), .ref mo, .int x].toArray wsL_act RL := ⟨hx, hb, hml, hown, hts⟩
  have hS : va_S A s.heap s.heap [] := va_S.rf
  have hl := lv_entry ([.ref (aX ad), .ref mo, .int x]) (n := 7) (Nat.le_of_ble_eq_true rfl)
  rw [lg_entry_eq]
  generalize (lg_sl ([.ref (aX ad), .ref mo, .int x]) ++ List.replicate (7 - (lg_sl ([.ref (aX ad), .ref mo, .int x])).length) Slot.unset).toArray = ls at hl ⊢
  replace hl : lv_has ls 7 [(0, .ref (aX ad)), (1, .ref mo), (2, .int x)] := hl
  have hn := hm.le
  have hn9l := numN_lt x
  obtain ⟨hI, hoT, hoD, htd, htg, ⟨r9, hr1, hr2, hr3⟩, hmv, hmg, htm9⟩ := id hg
  have hnk := hC.ok.n
  have hvk := hm.v
  have hokd : okR (sF S 0) := hC.ok.1 0
  have hI2 : ∀ l, l < 4 → bN (vw S 0) l ≤ 2 := fun l hl => hI l hl
  have hE : exH hp hp := exH.rf
  have hzd := szR_le (sF S 0)
  refine lv_iload_n hx hb dL_act_0 rfl (lv_at hl 2 rfl) ?_
  refine lv_iconst (v := nI 1) hx hb dL_act_1 (by decide) ?_
  refine lv_ishr hx hb dL_act_2 ?_
  refine lv_iload_n hx hb dL_act_3 rfl (lv_at hl 2 rfl) ?_
  refine lv_iconst (v := nI 5) hx hb dL_act_4 (by decide) ?_
  refine lv_ishr hx hb dL_act_5 ?_
  refine lv_iconst (v := nI 3) hx hb dL_act_6 (by decide) ?_
  have hbl7 : blN ((x >>> (nI 5 &&& 31))) 3 < 3 := bl_lt _ (by omega)
  refine h_rdS (As := [.int (x >>> (nI 5 &&& 31)), .int (nI 3)]) (rest := [.int (x >>> (nI 1 &&& 31))]) hF (c_L_below l G hp ((x >>> (nI 5 &&& 31))) 3 (by omega) (by omega)) 2 gL_act_L_below rfl (by decide +kernel) ⟨Nat.le_of_ble_eq_true rfl, Nat.le_of_ble_eq_true rfl⟩ hK0 hV0 rfl hl.1 rfl (Nat.le_of_ble_eq_true rfl) (by show _ ≤ (0); omega) (by show _ ≤ (65 * (0)); omega) dL_act_7 ?_
  refine h_if_ne (a := blN ((x >>> (nI 5 &&& 31))) 3) (tgt := 18) hx hb dL_act_10 (by decide) (by omega) (fun c_10 => ?_) (fun c_10 => ?_)
  · refine lv_bipush (v := nI 13) hx hb dL_act_18 (by decide) ?_
    have hbl20 : blN ((x >>> (nI 1 &&& 31))) 13 < 13 := bl_lt _ (by omega)
    refine h_rdS (As := [.int (x >>> (nI 1 &&& 31)), .int (nI 13)]) (rest := []) hF (c_L_below l G hp ((x >>> (nI 1 &&& 31))) 13 (by omega) (by omega)) 2 gL_act_L_below rfl (by decide +kernel) ⟨Nat.le_of_ble_eq_true rfl, Nat.le_of_ble_eq_true rfl⟩ hK0 hV0 rfl hl.1 rfl (Nat.le_of_ble_eq_true rfl) (by show _ ≤ (0); omega) (by show _ ≤ (65 * (0)); omega) dL_act_20 ?_
    have hnum : blN ((x >>> (nI 1 &&& 31))) 13 = numN x := (if_neg c_10).symm
    rw [hnum]
    refine lv_istore_n (lv' := [(3, .int (nI (numN x))), (0, .ref (aX ad)), (1, .ref mo), (2, .int x)]) hx hb dL_act_23 rfl hl (by decide) rfl (fun ls hl => ?_)
    refine lv_iload_n hx hb dL_act_24 rfl (lv_at hl 3 rfl) ?_
    refine lv_bipush (v := nI 9) hx hb dL_act_25 (by decide) ?_
    refine lv_ishr hx hb dL_act_27 ?_
    refine lv_bipush (v := nI 18) hx hb dL_act_28 (by decide) ?_
    have hbl30 : blN ((x >>> (nI 9 &&& 31))) 18 < 18 := bl_lt _ (by omega)
    refine h_rdS (As := [.int (x >>> (nI 9 &&& 31)), .int (nI 18)]) (rest := []) hF (c_L_below l G hp ((x >>> (nI 9 &&& 31))) 18 (by omega) (by omega)) 2 gL_act_L_below rfl (by decide +kernel) ⟨Nat.le_of_ble_eq_true rfl, Nat.le_of_ble_eq_true rfl⟩ hK0 hV0 rfl hl.1 rfl (Nat.le_of_ble_eq_true rfl) (by show _ ≤ (0); omega) (by show _ ≤ (65 * (0)); omega) dL_act_30 ?_
    rw [hsw]
    refine lv_tableIn (off := 51) (tgt := 84) hx hb dL_act_33 (by decide) (by decide) (by decide) (by decide) ?_
    refine lv_iload_n hx hb dL_act_84 rfl (lv_at hl 3 rfl) ?_
    refine lv_iconst (v := nI 2) hx hb dL_act_85 (by decide) ?_
    have hbl86 : blN (x) 2 < 2 := bl_lt _ (by omega)
    refine h_rdS (As := [.int x, .int (nI 2)]) (rest := []) hF (c_L_below l G hp (x) 2 (by omega) (by omega)) 2 gL_act_L_below rfl (by decide +kernel) ⟨Nat.le_of_ble_eq_true rfl, Nat.le_of_ble_eq_true rfl⟩ hK0 hV0 rfl hl.1 rfl (Nat.le_of_ble_eq_true rfl) (by show _ ≤ (0); omega) (by show _ ≤ (65 * (0)); omega) dL_act_86 ?_
    refine h_if_ne (a := blN (x) 2) (tgt := 94) hx hb dL_act_89 (by decide) (by omega) (fun c_89 => ?_) (fun c_89 => absurd c_89 h2)
    refine lv_aload_n hx hb dL_act_94 rfl (lv_at hl 1 rfl) ?_
    refine h_wrV (As := []) (rest := []) hF (c_X2_bind l G A hp ad S hC hI  hA0) 0 gL_act_X2_bind rfl (by decide +kernel) ⟨Nat.le_of_ble_eq_true rfl, Nat.le_of_ble_eq_true rfl⟩ hK0 hV0 hA hS hC.xo rfl rfl rfl hl.1 rfl (Nat.le_of_ble_eq_true rfl) ⟨by show _ ≤ (0); omega, by show _ ≤ (65 * (0)); omega⟩ dL_act_95 (fun ro hp1 H locs hP1 hV0 hA0 hS => ?_)
    rw [if_pos hz9, if_pos hz9] at hP1
    obtain ⟨rfl, hT⟩ := hP1
    replace hm := hm.ms (cT.skw hC hT)
    have hCn := hT.1
    have hn := hm.le
    refine lv_aload_n hx hb dL_act_98 rfl (lv_at hl 2 rfl) ?_
    refine h_rdV (As := []) (rest := [.int 0]) hF (c_X3_bindN l G hp1 mo dk lv lvl row (sR S) tm (sD S) (sF S 0) δ (vw S 0) ω hm hz9) 0 gL_act_X3_bind rfl (by decide +kernel) ⟨Nat.le_of_ble_eq_true rfl, Nat.le_of_ble_eq_true rfl⟩ hK0 hV0 hm.cmo rfl rfl rfl hl.1 rfl (Nat.le_of_ble_eq_true rfl) (by show _ ≤ (0); omega) (by show _ ≤ (65 * (0)); omega) dL_act_99 ?_
    refine lv_icmp_ne (tgt := 109) hx hb dL_act_102 (by decide) (fun c_102 => absurd (Int32.sub_self _).symm c_102) (fun c_102 => ?_)
    refine lv_iconst (v := nI 1) hx hb dL_act_105 (by decide) ?_
    refine lv_goto (tgt := 110) hx hb dL_act_106 (by decide) ?_
    refine W.widen (k := (0)) (n := (65 * (0))) (by omega) (by omega) ?_
    exact W.zret hx hb hr (by first | exact narrow_bI _ | rfl) (h_qW ⟨rfl, S, G_mono (G_same hg hCn hm) (by omega) (by omega) (by omega), by omega⟩ hV0 hA0 hS) hS.2.2 dL_act_110 hlocks
  · refine lv_bipush (v := nI 64) hx hb dL_act_13 (by decide) ?_
    refine lv_goto (tgt := 20) hx hb dL_act_15 (by decide) ?_
    have hbl20 : blN ((x >>> (nI 1 &&& 31))) 64 < 64 := bl_lt _ (by omega)
    refine h_rdS (As := [.int (x >>> (nI 1 &&& 31)), .int (nI 64)]) (rest := []) hF (c_L_below l G hp ((x >>> (nI 1 &&& 31))) 64 (by omega) (by omega)) 2 gL_act_L_below rfl (by decide +kernel) ⟨Nat.le_of_ble_eq_true rfl, Nat.le_of_ble_eq_true rfl⟩ hK0 hV0 rfl hl.1 rfl (Nat.le_of_ble_eq_true rfl) (by show _ ≤ (0); omega) (by show _ ≤ (65 * (0)); omega) dL_act_20 ?_
    have hnum : blN ((x >>> (nI 1 &&& 31))) 64 = numN x := (if_pos c_10).symm
    rw [hnum]
    refine lv_istore_n (lv' := [(3, .int (nI (numN x))), (0, .ref (aX ad)), (1, .ref mo), (2, .int x)]) hx hb dL_act_23 rfl hl (by decide) rfl (fun ls hl => ?_)
    refine lv_iload_n hx hb dL_act_24 rfl (lv_at hl 3 rfl) ?_
    refine lv_bipush (v := nI 9) hx hb dL_act_25 (by decide) ?_
    refine lv_ishr hx hb dL_act_27 ?_
    refine lv_bipush (v := nI 18) hx hb dL_act_28 (by decide) ?_
    have hbl30 : blN ((x >>> (nI 9 &&& 31))) 18 < 18 := bl_lt _ (by omega)
    refine h_rdS (As := [.int (x >>> (nI 9 &&& 31)), .int (nI 18)]) (rest := []) hF (c_L_below l G hp ((x >>> (nI 9 &&& 31))) 18 (by omega) (by omega)) 2 gL_act_L_below rfl (by decide +kernel) ⟨Nat.le_of_ble_eq_true rfl, Nat.le_of_ble_eq_true rfl⟩ hK0 hV0 rfl hl.1 rfl (Nat.le_of_ble_eq_true rfl) (by show _ ≤ (0); omega) (by show _ ≤ (65 * (0)); omega) dL_act_30 ?_
    rw [hsw]
    refine lv_tableIn (off := 51) (tgt := 84) hx hb dL_act_33 (by decide) (by decide) (by decide) (by decide) ?_
    refine lv_iload_n hx hb dL_act_84 rfl (lv_at hl 3 rfl) ?_
    refine lv_iconst (v := nI 2) hx hb dL_act_85 (by decide) ?_
    have hbl86 : blN (x) 2 < 2 := bl_lt _ (by omega)
    refine h_rdS (As := [.int x, .int (nI 2)]) (rest := []) hF (c_L_below l G hp (x) 2 (by omega) (by omega)) 2 gL_act_L_below rfl (by decide +kernel) ⟨Nat.le_of_ble_eq_true rfl, Nat.le_of_ble_eq_true rfl⟩ hK0 hV0 rfl hl.1 rfl (Nat.le_of_ble_eq_true rfl) (by show _ ≤ (0); omega) (by show _ ≤ (65 * (0)); omega) dL_act_86 ?_
    refine h_if_ne (a := blN (x) 2) (tgt := 94) hx hb dL_act_89 (by decide) (by omega) (fun c_89 => ?_) (fun c_89 => absurd c_89 h2)
    refine lv_aload_n hx hb dL_act_94 rfl (lv_at hl 1 rfl) ?_
    refine h_wrV (As := []) (rest := []) hF (c_X2_bind l G A hp ad S hC hI  hA0) 0 gL_act_X2_bind rfl (by decide +kernel) ⟨Nat.le_of_ble_eq_true rfl, Nat.le_of_ble_eq_true rfl⟩ hK0 hV0 hA hS hC.xo rfl rfl rfl hl.1 rfl (Nat.le_of_ble_eq_true rfl) ⟨by show _ ≤ (0); omega, by show _ ≤ (65 * (0)); omega⟩ dL_act_95 (fun ro hp1 H locs hP1 hV0 hA0 hS => ?_)
    rw [if_pos hz9, if_pos hz9] at hP1
    obtain ⟨rfl, hT⟩ := hP1
    replace hm := hm.ms (cT.skw hC hT)
    have hCn := hT.1
    have hn := hm.le
    refine lv_aload_n hx hb dL_act_98 rfl (lv_at hl 2 rfl) ?_
    refine h_rdV (As := []) (rest := [.int 0]) hF (c_X3_bindN l G hp1 mo dk lv lvl row (sR S) tm (sD S) (sF S 0) δ (vw S 0) ω hm hz9) 0 gL_act_X3_bind rfl (by decide +kernel) ⟨Nat.le_of_ble_eq_true rfl, Nat.le_of_ble_eq_true rfl⟩ hK0 hV0 hm.cmo rfl rfl rfl hl.1 rfl (Nat.le_of_ble_eq_true rfl) (by show _ ≤ (0); omega) (by show _ ≤ (65 * (0)); omega) dL_act_99 ?_
    refine lv_icmp_ne (tgt := 109) hx hb dL_act_102 (by decide) (fun c_102 => absurd (Int32.sub_self _).symm c_102) (fun c_102 => ?_)
    refine lv_iconst (v := nI 1) hx hb dL_act_105 (by decide) ?_
    refine lv_goto (tgt := 110) hx hb dL_act_106 (by decide) ?_
    refine W.widen (k := (0)) (n := (65 * (0))) (by omega) (by omega) ?_
    exact W.zret hx hb hr (by first | exact narrow_bI _ | rfl) (h_qW ⟨rfl, S, G_mono (G_same hg hCn hm) (by omega) (by omega) (by omega), by omega⟩ hV0 hA0 hS) hS.2.2 dL_act_110 hlocks

set_option maxHeartbeats 1000000 in
set_option maxRecDepth 100000 in
theorem c_act_1e (l : Launch) (G : hG) (A : Nat → Prop) (hp : HP) (ad : Nat → Nat) (S : CS) (hC : cW ad S hp) (mo dk lv : Nat) (lvl : Nat → Nat) (row : Nat → Nat → Nat) (tm : Nat) (δ : TG) (ω : TS) (hm : sA mo dk lv lvl row (sR S) tm (sD S) (sF S 0) δ (vw S 0) ω hp) (tb mb gb : Nat) (hg : gI tb mb gb S tm δ ω) (htb : tb < 1000) (x : Int32) (hsw : blN (x >>> (nI 9 &&& 31)) 18 = 1) (h2 : bN (vw S 0) (blN (x >>> (nI 1 &&& 31)) 4) = 0) (hA0 : hIn A hp) : hWr l yL_act wsL_act 7 157 (0) (65 * (0)) G A hp [.ref (aX ad), .ref mo, .int x] (fun ro hp' => ro = some (.int (bI true)) ∧ ∃ S2, gX ad mo lv (tb + 1) (mb + 320) (gb + 5) S2 hp' ∧ 0 + gS S2 ≤ gS S + 600) := by
  refine Met.ofW (cc := cL_act) (maxL := 7) (ret := (some .boolean)) (by decide) rfl ?_
  intro p e s m args below meth c s₁ B hml hv
  obtain ⟨rfl, hV0, hK0, hA⟩ := hv
  have hx := B.exec
  have hb := B.bytes
  have hr := B.returns
  have hts := atoms_spec (ws := wsL_act) B.pre
  have hown : s.vm.findClass RL = some m.cls := findClass_of_methodNamed B.named
  have hlocks := B.notSynchronized
  have hF : CallFix p m c cL_act 7 s [.ref (aX ad), .ref mo, .int x].toArray wsL_act RL := ⟨hx, hb, hml, hown, hts⟩
  have hw0 := hts (.fieldLink RL 26 "SlipLevelsLaw$Sim" "levels" "[[[[I") (by decide +kernel)
  have hi3 : ∀ w ∈ u_ws RX3 TX3 7, w ∈ wsL_act := by
    intro w h
    unfold wsL_act
    simp only [List.mem_cons, List.mem_append, h, true_or, or_true]
  have hS : va_S A s.heap s.heap [] := va_S.rf
  have hl := lv_entry ([.ref (aX ad), .ref mo, .int x]) (n := 7) (Nat.le_of_ble_eq_true rfl)
  rw [lg_entry_eq]
  generalize (lg_sl ([.ref (aX ad), .ref mo, .int x]) ++ List.replicate (7 - (lg_sl ([.ref (aX ad), .ref mo, .int x])).length) Slot.unset).toArray = ls at hl ⊢
  replace hl : lv_has ls 7 [(0, .ref (aX ad)), (1, .ref mo), (2, .int x)] := hl
  have hn := hm.le
  have hn9l := numN_lt x
  obtain ⟨hI, hoT, hoD, htd, htg, ⟨r9, hr1, hr2, hr3⟩, hmv, hmg, htm9⟩ := id hg
  have hnk := hC.ok.n
  have hvk := hm.v
  have hokd : okR (sF S 0) := hC.ok.1 0
  have hI2 : ∀ l, l < 4 → bN (vw S 0) l ≤ 2 := fun l hl => hI l hl
  have hE : exH hp hp := exH.rf
  have hzd := szR_le (sF S 0)
  refine lv_iload_n hx hb dL_act_0 rfl (lv_at hl 2 rfl) ?_
  refine lv_iconst (v := nI 1) hx hb dL_act_1 (by decide) ?_
  refine lv_ishr hx hb dL_act_2 ?_
  refine lv_iload_n hx hb dL_act_3 rfl (lv_at hl 2 rfl) ?_
  refine lv_iconst (v := nI 5) hx hb dL_act_4 (by decide) ?_
  refine lv_ishr hx hb dL_act_5 ?_
  refine lv_iconst (v := nI 3) hx hb dL_act_6 (by decide) ?_
  have hbl7 : blN ((x >>> (nI 5 &&& 31))) 3 < 3 := bl_lt _ (by omega)
  refine h_rdS (As := [.int (x >>> (nI 5 &&& 31)), .int (nI 3)]) (rest := [.int (x >>> (nI 1 &&& 31))]) hF (c_L_below l G hp ((x >>> (nI 5 &&& 31))) 3 (by omega) (by omega)) 2 gL_act_L_below rfl (by decide +kernel) ⟨Nat.le_of_ble_eq_true rfl, Nat.le_of_ble_eq_true rfl⟩ hK0 hV0 rfl hl.1 rfl (Nat.le_of_ble_eq_true rfl) (by show _ ≤ (0); omega) (by show _ ≤ (65 * (0)); omega) dL_act_7 ?_
  refine h_if_ne (a := blN ((x >>> (nI 5 &&& 31))) 3) (tgt := 18) hx hb dL_act_10 (by decide) (by omega) (fun c_10 => ?_) (fun c_10 => ?_)
  · refine lv_bipush (v := nI 13) hx hb dL_act_18 (by decide) ?_
    have hbl20 : blN ((x >>> (nI 1 &&& 31))) 13 < 13 := bl_lt _ (by omega)
    refine h_rdS (As := [.int (x >>> (nI 1 &&& 31)), .int (nI 13)]) (rest := []) hF (c_L_below l G hp ((x >>> (nI 1 &&& 31))) 13 (by omega) (by omega)) 2 gL_act_L_below rfl (by decide +kernel) ⟨Nat.le_of_ble_eq_true rfl, Nat.le_of_ble_eq_true rfl⟩ hK0 hV0 rfl hl.1 rfl (Nat.le_of_ble_eq_true rfl) (by show _ ≤ (0); omega) (by show _ ≤ (65 * (0)); omega) dL_act_20 ?_
    have hnum : blN ((x >>> (nI 1 &&& 31))) 13 = numN x := (if_neg c_10).symm
    rw [hnum]
    refine lv_istore_n (lv' := [(3, .int (nI (numN x))), (0, .ref (aX ad)), (1, .ref mo), (2, .int x)]) hx hb dL_act_23 rfl hl (by decide) rfl (fun ls hl => ?_)
    refine lv_iload_n hx hb dL_act_24 rfl (lv_at hl 3 rfl) ?_
    refine lv_bipush (v := nI 9) hx hb dL_act_25 (by decide) ?_
    refine lv_ishr hx hb dL_act_27 ?_
    refine lv_bipush (v := nI 18) hx hb dL_act_28 (by decide) ?_
    have hbl30 : blN ((x >>> (nI 9 &&& 31))) 18 < 18 := bl_lt _ (by omega)
    refine h_rdS (As := [.int (x >>> (nI 9 &&& 31)), .int (nI 18)]) (rest := []) hF (c_L_below l G hp ((x >>> (nI 9 &&& 31))) 18 (by omega) (by omega)) 2 gL_act_L_below rfl (by decide +kernel) ⟨Nat.le_of_ble_eq_true rfl, Nat.le_of_ble_eq_true rfl⟩ hK0 hV0 rfl hl.1 rfl (Nat.le_of_ble_eq_true rfl) (by show _ ≤ (0); omega) (by show _ ≤ (65 * (0)); omega) dL_act_30 ?_
    rw [hsw]
    refine lv_tableIn (off := 78) (tgt := 111) hx hb dL_act_33 (by decide) (by decide) (by decide) (by decide) ?_
    refine lv_iload_n hx hb dL_act_111 rfl (lv_at hl 3 rfl) ?_
    refine lv_iconst (v := nI 1) hx hb dL_act_112 (by decide) ?_
    refine lv_ishr hx hb dL_act_113 ?_
    refine lv_iconst (v := nI 4) hx hb dL_act_114 (by decide) ?_
    have hbl115 : blN ((x >>> (nI 1 &&& 31))) 4 < 4 := bl_lt _ (by omega)
    refine h_rdS (As := [.int (x >>> (nI 1 &&& 31)), .int (nI 4)]) (rest := []) hF (c_L_below l G hp ((x >>> (nI 1 &&& 31))) 4 (by omega) (by omega)) 2 gL_act_L_below rfl (by decide +kernel) ⟨Nat.le_of_ble_eq_true rfl, Nat.le_of_ble_eq_true rfl⟩ hK0 hV0 rfl hl.1 rfl (Nat.le_of_ble_eq_true rfl) (by show _ ≤ (0); omega) (by show _ ≤ (65 * (0)); omega) dL_act_115 ?_
    refine lv_istore (lv' := [(4, .int (nI (blN ((x >>> (nI 1 &&& 31))) 4))), (3, .int (nI (numN x))), (0, .ref (aX ad)), (1, .ref mo), (2, .int x)]) hx hb dL_act_118 hl (by decide) rfl (fun ls hl => ?_)
    refine lv_aload_n hx hb dL_act_120 rfl (lv_at hl 3 rfl) ?_
    refine h_get (v := .ref lv) hx hb hts hi3 hown hK0 hV0 hm.cmo rfl 6 (by decide) hw0 rfl dL_act_121 ?_
    refine lv_iload hx hb dL_act_124 (lv_at hl 0 rfl) ?_
    refine h_aaldE (i := blN ((x >>> (nI 1 &&& 31))) 4) hm.clv hx hb hK0 hV0 rfl rfl (by omega) (by omega) dL_act_126 ?_
    refine h_alenQ (hm.clvl (l := (blN ((x >>> (nI 1 &&& 31))) 4)) (by omega)) hx hb hK0 hV0 rfl dL_act_127 ?_
    refine h_if_ne (a := bN (vw S 0) (blN ((x >>> (nI 1 &&& 31))) 4)) (tgt := 133) hx hb dL_act_128 (by decide) (by omega) (fun c_128 => absurd h2 c_128) (fun c_128 => ?_)
    refine lv_iconst (v := nI 1) hx hb dL_act_131 (by decide) ?_
    refine W.widen (k := (0)) (n := (65 * (0))) (by omega) (by omega) ?_
    exact W.zret hx hb hr (by first | exact narrow_bI _ | rfl) (h_qW ⟨rfl, S, G_mono (G_same hg hC hm) (by omega) (by omega) (by omega), by omega⟩ hV0 hA0 hS) hS.2.2 dL_act_132 hlocks
  · refine lv_bipush (v := nI 64) hx hb dL_act_13 (by decide) ?_
    refine lv_goto (tgt := 20) hx hb dL_act_15 (by decide) ?_
    have hbl20 : blN ((x >>> (nI 1 &&& 31))) 64 < 64 := bl_lt _ (by omega)
    refine h_rdS (As := [.int (x >>> (nI 1 &&& 31)), .int (nI 64)]) (rest := []) hF (c_L_below l G hp ((x >>> (nI 1 &&& 31))) 64 (by omega) (by omega)) 2 gL_act_L_below rfl (by decide +kernel) ⟨Nat.le_of_ble_eq_true rfl, Nat.le_of_ble_eq_true rfl⟩ hK0 hV0 rfl hl.1 rfl (Nat.le_of_ble_eq_true rfl) (by show _ ≤ (0); omega) (by show _ ≤ (65 * (0)); omega) dL_act_20 ?_
    have hnum : blN ((x >>> (nI 1 &&& 31))) 64 = numN x := (if_pos c_10).symm
    rw [hnum]
    refine lv_istore_n (lv' := [(3, .int (nI (numN x))), (0, .ref (aX ad)), (1, .ref mo), (2, .int x)]) hx hb dL_act_23 rfl hl (by decide) rfl (fun ls hl => ?_)
    refine lv_iload_n hx hb dL_act_24 rfl (lv_at hl 3 rfl) ?_
    refine lv_bipush (v := nI 9) hx hb dL_act_25 (by decide) ?_
    refine lv_ishr hx hb dL_act_27 ?_
    refine lv_bipush (v := nI 18) hx hb dL_act_28 (by decide) ?_
    have hbl30 : blN ((x >>> (nI 9 &&& 31))) 18 < 18 := bl_lt _ (by omega)
    refine h_rdS (As := [.int (x >>> (nI 9 &&& 31)), .int (nI 18)]) (rest := []) hF (c_L_below l G hp ((x >>> (nI 9 &&& 31))) 18 (by omega) (by omega)) 2 gL_act_L_below rfl (by decide +kernel) ⟨Nat.le_of_ble_eq_true rfl, Nat.le_of_ble_eq_true rfl⟩ hK0 hV0 rfl hl.1 rfl (Nat.le_of_ble_eq_true rfl) (by show _ ≤ (0); omega) (by show _ ≤ (65 * (0)); omega) dL_act_30 ?_
    rw [hsw]
    refine lv_tableIn (off := 78) (tgt := 111) hx hb dL_act_33 (by decide) (by decide) (by decide) (by decide) ?_
    refine lv_iload_n hx hb dL_act_111 rfl (lv_at hl 3 rfl) ?_
    refine lv_iconst (v := nI 1) hx hb dL_act_112 (by decide) ?_
    refine lv_ishr hx hb dL_act_113 ?_
    refine lv_iconst (v := nI 4) hx hb dL_act_114 (by decide) ?_
    have hbl115 : blN ((x >>> (nI 1 &&& 31))) 4 < 4 := bl_lt _ (by omega)
    refine h_rdS (As := [.int (x >>> (nI 1 &&& 31)), .int (nI 4)]) (rest := []) hF (c_L_below l G hp ((x >>> (nI 1 &&& 31))) 4 (by omega) (by omega)) 2 gL_act_L_below rfl (by decide +kernel) ⟨Nat.le_of_ble_eq_true rfl, Nat.le_of_ble_eq_true rfl⟩ hK0 hV0 rfl hl.1 rfl (Nat.le_of_ble_eq_true rfl) (by show _ ≤ (0); omega) (by show _ ≤ (65 * (0)); omega) dL_act_115 ?_
    refine lv_istore (lv' := [(4, .int (nI (blN ((x >>> (nI 1 &&& 31))) 4))), (3, .int (nI (numN x))), (0, .ref (aX ad)), (1, .ref mo), (2, .int x)]) hx hb dL_act_118 hl (by decide) rfl (fun ls hl => ?_)
    refine lv_aload_n hx hb dL_act_120 rfl (lv_at hl 3 rfl) ?_
    refine h_get (v := .ref lv) hx hb hts hi3 hown hK0 hV0 hm.cmo rfl 6 (by decide) hw0 rfl dL_act_121 ?_
    refine lv_iload hx hb dL_act_124 (lv_at hl 0 rfl) ?_
    refine h_aaldE (i := blN ((x >>> (nI 1 &&& 31))) 4) hm.clv hx hb hK0 hV0 rfl rfl (by omega) (by omega) dL_act_126 ?_
    refine h_alenQ (hm.clvl (l := (blN ((x >>> (nI 1 &&& 31))) 4)) (by omega)) hx hb hK0 hV0 rfl dL_act_127 ?_
    refine h_if_ne (a := bN (vw S 0) (blN ((x >>> (nI 1 &&& 31))) 4)) (tgt := 133) hx hb dL_act_128 (by decide) (by omega) (fun c_128 => absurd h2 c_128) (fun c_128 => ?_)
    refine lv_iconst (v := nI 1) hx hb dL_act_131 (by decide) ?_
    refine W.widen (k := (0)) (n := (65 * (0))) (by omega) (by omega) ?_
    exact W.zret hx hb hr (by first | exact narrow_bI _ | rfl) (h_qW ⟨rfl, S, G_mono (G_same hg hC hm) (by omega) (by omega) (by omega), by omega⟩ hV0 hA0 hS) hS.2.2 dL_act_132 hlocks

set_option maxHeartbeats 1000000 in
set_option maxRecDepth 100000 in
theorem c_act_1 (l : Launch) (G : hG) (A : Nat → Prop) (hp : HP) (ad : Nat → Nat) (S : CS) (hC : cW ad S hp) (mo dk lv : Nat) (lvl : Nat → Nat) (row : Nat → Nat → Nat) (tm : Nat) (δ : TG) (ω : TS) (hm : sA mo dk lv lvl row (sR S) tm (sD S) (sF S 0) δ (vw S 0) ω hp) (tb mb gb : Nat) (hg : gI tb mb gb S tm δ ω) (htb : tb < 1000) (x : Int32) (hsw : blN (x >>> (nI 9 &&& 31)) 18 = 1) (h2 : ¬ bN (vw S 0) (blN (x >>> (nI 1 &&& 31)) 4) = 0) (hA0 : hIn A hp) : hWr l yL_act wsL_act 7 157 (mgC (vw S 0) (blN (x >>> (nI 1 &&& 31)) 4) + stC (mgB (vw S 0) (blN (x >>> (nI 1 &&& 31)) 4)) 4) (65 * (mgC (vw S 0) (blN (x >>> (nI 1 &&& 31)) 4) + stC (mgB (vw S 0) (blN (x >>> (nI 1 &&& 31)) 4)) 4)) G A hp [.ref (aX ad), .ref mo, .int x] (fun ro hp' => ro = some (.int (bI true)) ∧ ∃ S2, gX ad mo lv (tb + 1) (mb + 320) (gb + 5) S2 hp' ∧ mgC (vw S 0) (blN (x >>> (nI 1 &&& 31)) 4) + stC (mgB (vw S 0) (blN (x >>> (nI 1 &&& 31)) 4)) 4 + gS S2 ≤ gS S + 600) := by
  refine Met.ofW (cc := cL_act) (maxL := 7) (ret := (some .boolean)) (by decide) rfl ?_
  intro p e s m args below meth c s₁ B hml hv
  obtain ⟨rfl, hV0, hK0, hA⟩ := hv
  have hx := B.exec
  have hb := B.bytes
  have hr := B.returns
  have hts := atoms_spec (ws := wsL_act) B.pre
  have hown : s.vm.findClass RL = some m.cls := findClass_of_methodNamed B.named
  have hlocks := B.notSynchronized
  have hF : CallFix p m c cL_act 7 s [.ref (aX ad), .ref mo, .int x].toArray wsL_act RL := ⟨hx, hb, hml, hown, hts⟩
  have hw0 := hts (.fieldLink RL 26 "SlipLevelsLaw$Sim" "levels" "[[[[I") (by decide +kernel)
  have hi3 : ∀ w ∈ u_ws RX3 TX3 7, w ∈ wsL_act := by
    intro w h
    unfold wsL_act
    simp only [List.mem_cons, List.mem_append, h, true_or, or_true]
  have hS : va_S A s.heap s.heap [] := va_S.rf
  have hl := lv_entry ([.ref (aX ad), .ref mo, .int x]) (n := 7) (Nat.le_of_ble_eq_true rfl)
  rw [lg_entry_eq]
  generalize (lg_sl ([.ref (aX ad), .ref mo, .int x]) ++ List.replicate (7 - (lg_sl ([.ref (aX ad), .ref mo, .int x])).length) Slot.unset).toArray = ls at hl ⊢
  replace hl : lv_has ls 7 [(0, .ref (aX ad)), (1, .ref mo), (2, .int x)] := hl
  have hn := hm.le
  have hn9l := numN_lt x
  obtain ⟨hI, hoT, hoD, htd, htg, ⟨r9, hr1, hr2, hr3⟩, hmv, hmg, htm9⟩ := id hg
  have hnk := hC.ok.n
  have hvk := hm.v
  have hokd : okR (sF S 0) := hC.ok.1 0
  have hI2 : ∀ l, l < 4 → bN (vw S 0) l ≤ 2 := fun l hl => hI l hl
  have hE : exH hp hp := exH.rf
  have hzd := szR_le (sF S 0)
  refine lv_iload_n hx hb dL_act_0 rfl (lv_at hl 2 rfl) ?_
  refine lv_iconst (v := nI 1) hx hb dL_act_1 (by decide) ?_
  refine lv_ishr hx hb dL_act_2 ?_
  refine lv_iload_n hx hb dL_act_3 rfl (lv_at hl 2 rfl) ?_
  refine lv_iconst (v := nI 5) hx hb dL_act_4 (by decide) ?_
  refine lv_ishr hx hb dL_act_5 ?_
  refine lv_iconst (v := nI 3) hx hb dL_act_6 (by decide) ?_
  have hbl7 : blN ((x >>> (nI 5 &&& 31))) 3 < 3 := bl_lt _ (by omega)
  refine h_rdS (As := [.int (x >>> (nI 5 &&& 31)), .int (nI 3)]) (rest := [.int (x >>> (nI 1 &&& 31))]) hF (c_L_below l G hp ((x >>> (nI 5 &&& 31))) 3 (by omega) (by omega)) 2 gL_act_L_below rfl (by decide +kernel) ⟨Nat.le_of_ble_eq_true rfl, Nat.le_of_ble_eq_true rfl⟩ hK0 hV0 rfl hl.1 rfl (Nat.le_of_ble_eq_true rfl) (by show _ ≤ (mgC (vw S 0) (blN (x >>> (nI 1 &&& 31)) 4) + stC (mgB (vw S 0) (blN (x >>> (nI 1 &&& 31)) 4)) 4); omega) (by show _ ≤ (65 * (mgC (vw S 0) (blN (x >>> (nI 1 &&& 31)) 4) + stC (mgB (vw S 0) (blN (x >>> (nI 1 &&& 31)) 4)) 4)); omega) dL_act_7 ?_
  refine h_if_ne (a := blN ((x >>> (nI 5 &&& 31))) 3) (tgt := 18) hx hb dL_act_10 (by decide) (by omega) (fun c_10 => ?_) (fun c_10 => ?_)
  · refine lv_bipush (v := nI 13) hx hb dL_act_18 (by decide) ?_
    have hbl20 : blN ((x >>> (nI 1 &&& 31))) 13 < 13 := bl_lt _ (by omega)
    refine h_rdS (As := [.int (x >>> (nI 1 &&& 31)), .int (nI 13)]) (rest := []) hF (c_L_below l G hp ((x >>> (nI 1 &&& 31))) 13 (by omega) (by omega)) 2 gL_act_L_below rfl (by decide +kernel) ⟨Nat.le_of_ble_eq_true rfl, Nat.le_of_ble_eq_true rfl⟩ hK0 hV0 rfl hl.1 rfl (Nat.le_of_ble_eq_true rfl) (by show _ ≤ (mgC (vw S 0) (blN (x >>> (nI 1 &&& 31)) 4) + stC (mgB (vw S 0) (blN (x >>> (nI 1 &&& 31)) 4)) 4); omega) (by show _ ≤ (65 * (mgC (vw S 0) (blN (x >>> (nI 1 &&& 31)) 4) + stC (mgB (vw S 0) (blN (x >>> (nI 1 &&& 31)) 4)) 4)); omega) dL_act_20 ?_
    have hnum : blN ((x >>> (nI 1 &&& 31))) 13 = numN x := (if_neg c_10).symm
    rw [hnum]
    refine lv_istore_n (lv' := [(3, .int (nI (numN x))), (0, .ref (aX ad)), (1, .ref mo), (2, .int x)]) hx hb dL_act_23 rfl hl (by decide) rfl (fun ls hl => ?_)
    refine lv_iload_n hx hb dL_act_24 rfl (lv_at hl 3 rfl) ?_
    refine lv_bipush (v := nI 9) hx hb dL_act_25 (by decide) ?_
    refine lv_ishr hx hb dL_act_27 ?_
    refine lv_bipush (v := nI 18) hx hb dL_act_28 (by decide) ?_
    have hbl30 : blN ((x >>> (nI 9 &&& 31))) 18 < 18 := bl_lt _ (by omega)
    refine h_rdS (As := [.int (x >>> (nI 9 &&& 31)), .int (nI 18)]) (rest := []) hF (c_L_below l G hp ((x >>> (nI 9 &&& 31))) 18 (by omega) (by omega)) 2 gL_act_L_below rfl (by decide +kernel) ⟨Nat.le_of_ble_eq_true rfl, Nat.le_of_ble_eq_true rfl⟩ hK0 hV0 rfl hl.1 rfl (Nat.le_of_ble_eq_true rfl) (by show _ ≤ (mgC (vw S 0) (blN (x >>> (nI 1 &&& 31)) 4) + stC (mgB (vw S 0) (blN (x >>> (nI 1 &&& 31)) 4)) 4); omega) (by show _ ≤ (65 * (mgC (vw S 0) (blN (x >>> (nI 1 &&& 31)) 4) + stC (mgB (vw S 0) (blN (x >>> (nI 1 &&& 31)) 4)) 4)); omega) dL_act_30 ?_
    rw [hsw]
    refine lv_tableIn (off := 78) (tgt := 111) hx hb dL_act_33 (by decide) (by decide) (by decide) (by decide) ?_
    refine lv_iload_n hx hb dL_act_111 rfl (lv_at hl 3 rfl) ?_
    refine lv_iconst (v := nI 1) hx hb dL_act_112 (by decide) ?_
    refine lv_ishr hx hb dL_act_113 ?_
    refine lv_iconst (v := nI 4) hx hb dL_act_114 (by decide) ?_
    have hbl115 : blN ((x >>> (nI 1 &&& 31))) 4 < 4 := bl_lt _ (by omega)
    refine h_rdS (As := [.int (x >>> (nI 1 &&& 31)), .int (nI 4)]) (rest := []) hF (c_L_below l G hp ((x >>> (nI 1 &&& 31))) 4 (by omega) (by omega)) 2 gL_act_L_below rfl (by decide +kernel) ⟨Nat.le_of_ble_eq_true rfl, Nat.le_of_ble_eq_true rfl⟩ hK0 hV0 rfl hl.1 rfl (Nat.le_of_ble_eq_true rfl) (by show _ ≤ (mgC (vw S 0) (blN (x >>> (nI 1 &&& 31)) 4) + stC (mgB (vw S 0) (blN (x >>> (nI 1 &&& 31)) 4)) 4); omega) (by show _ ≤ (65 * (mgC (vw S 0) (blN (x >>> (nI 1 &&& 31)) 4) + stC (mgB (vw S 0) (blN (x >>> (nI 1 &&& 31)) 4)) 4)); omega) dL_act_115 ?_
    refine lv_istore (lv' := [(4, .int (nI (blN ((x >>> (nI 1 &&& 31))) 4))), (3, .int (nI (numN x))), (0, .ref (aX ad)), (1, .ref mo), (2, .int x)]) hx hb dL_act_118 hl (by decide) rfl (fun ls hl => ?_)
    have hl9 : (blN (x >>> (nI 1 &&& 31)) 4) < 4 := hbl115
    have hnl9 := hn (blN (x >>> (nI 1 &&& 31)) 4)
    refine lv_aload_n hx hb dL_act_120 rfl (lv_at hl 3 rfl) ?_
    refine h_get (v := .ref lv) hx hb hts hi3 hown hK0 hV0 hm.cmo rfl 6 (by decide) hw0 rfl dL_act_121 ?_
    refine lv_iload hx hb dL_act_124 (lv_at hl 0 rfl) ?_
    refine h_aaldE (i := blN ((x >>> (nI 1 &&& 31))) 4) hm.clv hx hb hK0 hV0 rfl rfl (by omega) (by omega) dL_act_126 ?_
    refine h_alenQ (hm.clvl (l := (blN ((x >>> (nI 1 &&& 31))) 4)) (by omega)) hx hb hK0 hV0 rfl dL_act_127 ?_
    refine h_if_ne (a := bN (vw S 0) (blN ((x >>> (nI 1 &&& 31))) 4)) (tgt := 133) hx hb dL_act_128 (by decide) (by omega) (fun c_128 => ?_) (fun c_128 => absurd c_128 h2)
    refine lv_aload_n hx hb dL_act_133 rfl (lv_at hl 2 rfl) ?_
    refine lv_iload hx hb dL_act_134 (lv_at hl 0 rfl) ?_
    refine h_wrV (As := [.int (nI (blN ((x >>> (nI 1 &&& 31))) 4))]) (rest := []) hF (c_X2_merge l G A hp ad S hC hI (blN ((x >>> (nI 1 &&& 31))) 4) (by omega) h2 hA0) 1 gL_act_X2_merge rfl (by decide +kernel) ⟨Nat.le_of_ble_eq_true rfl, Nat.le_of_ble_eq_true rfl⟩ hK0 hV0 hA hS hC.xo rfl rfl rfl hl.1 rfl (Nat.le_of_ble_eq_true rfl) ⟨by show _ ≤ (mgC (vw S 0) (blN (x >>> (nI 1 &&& 31)) 4) + stC (mgB (vw S 0) (blN (x >>> (nI 1 &&& 31)) 4)) 4); omega, by show _ ≤ (65 * (mgC (vw S 0) (blN (x >>> (nI 1 &&& 31)) 4) + stC (mgB (vw S 0) (blN (x >>> (nI 1 &&& 31)) 4)) 4)); omega⟩ dL_act_136 (fun ro hp1 H locs hP1 hV0 hA0 hS => ?_)
    obtain ⟨rfl, hT⟩ := hP1
    replace hm := hm.ms (cT.skw hC hT)
    have hCn := hT.1
    have hn := hm.le
    refine lv_aload_n hx hb dL_act_139 rfl (lv_at hl 3 rfl) ?_
    refine lv_iload hx hb dL_act_140 (lv_at hl 0 rfl) ?_
    refine h_wrV (As := [.int (nI (blN ((x >>> (nI 1 &&& 31))) 4))]) (rest := [.int (sV (stS (mgS S 0 (blN (x >>> (nI 1 &&& 31)) 4)) 0 4) 0 - sV S 0)]) hF (c_X3_merge l G A hp1 mo dk lv lvl row (sR S) tm (sD S) (sF S 0) δ (vw S 0) ω hm (blN ((x >>> (nI 1 &&& 31))) 4) (by omega) (oneB_all hI2 _) hoT hA0) 1 gL_act_X3_merge rfl (by decide +kernel) ⟨Nat.le_of_ble_eq_true rfl, Nat.le_of_ble_eq_true rfl⟩ hK0 hV0 hA hS hm.cmo rfl rfl rfl hl.1 rfl (Nat.le_of_ble_eq_true rfl) ⟨by show _ ≤ (mgC (vw S 0) (blN (x >>> (nI 1 &&& 31)) 4) + stC (mgB (vw S 0) (blN (x >>> (nI 1 &&& 31)) 4)) 4); omega, by show _ ≤ (65 * (mgC (vw S 0) (blN (x >>> (nI 1 &&& 31)) 4) + stC (mgB (vw S 0) (blN (x >>> (nI 1 &&& 31)) 4)) 4)); omega⟩ dL_act_142 (fun ro hp2 H locs hP1 hV0 hA0 hS => ?_)
    obtain ⟨rfl, ⟨lvl2, row2, hm2⟩, hE3⟩ := hP1
    replace hCn := hCn.mvX hE3
    refine lv_icmp_ne (tgt := 152) hx hb dL_act_145 (by decide) (fun c_145 => absurd (q_merge hnk hI hl9) c_145) (fun c_145 => ?_)
    refine lv_iconst (v := nI 1) hx hb dL_act_148 (by decide) ?_
    refine lv_goto (tgt := 153) hx hb dL_act_149 (by decide) ?_
    refine W.widen (k := (mgC (vw S 0) (blN (x >>> (nI 1 &&& 31)) 4) + stC (mgB (vw S 0) (blN (x >>> (nI 1 &&& 31)) 4)) 4)) (n := (65 * (mgC (vw S 0) (blN (x >>> (nI 1 &&& 31)) 4) + stC (mgB (vw S 0) (blN (x >>> (nI 1 &&& 31)) 4)) 4))) (by omega) (by omega) ?_
    exact W.zret hx hb hr (by first | exact narrow_bI _ | rfl) (h_qW ⟨rfl, _, G_mono (G_merge hg hnk hvk hl9 hCn hm2) (by omega) (by omega) (by omega), by have := gS_mg hnk hI hvk hl9 h2; omega⟩ hV0 hA0 hS) hS.2.2 dL_act_153 hlocks
  · refine lv_bipush (v := nI 64) hx hb dL_act_13 (by decide) ?_
    refine lv_goto (tgt := 20) hx hb dL_act_15 (by decide) ?_
    have hbl20 : blN ((x >>> (nI 1 &&& 31))) 64 < 64 := bl_lt _ (by omega)
    refine h_rdS (As := [.int (x >>> (nI 1 &&& 31)), .int (nI 64)]) (rest := []) hF (c_L_below l G hp ((x >>> (nI 1 &&& 31))) 64 (by omega) (by omega)) 2 gL_act_L_below rfl (by decide +kernel) ⟨Nat.le_of_ble_eq_true rfl, Nat.le_of_ble_eq_true rfl⟩ hK0 hV0 rfl hl.1 rfl (Nat.le_of_ble_eq_true rfl) (by show _ ≤ (mgC (vw S 0) (blN (x >>> (nI 1 &&& 31)) 4) + stC (mgB (vw S 0) (blN (x >>> (nI 1 &&& 31)) 4)) 4); omega) (by show _ ≤ (65 * (mgC (vw S 0) (blN (x >>> (nI 1 &&& 31)) 4) + stC (mgB (vw S 0) (blN (x >>> (nI 1 &&& 31)) 4)) 4)); omega) dL_act_20 ?_
    have hnum : blN ((x >>> (nI 1 &&& 31))) 64 = numN x := (if_pos c_10).symm
    rw [hnum]
    refine lv_istore_n (lv' := [(3, .int (nI (numN x))), (0, .ref (aX ad)), (1, .ref mo), (2, .int x)]) hx hb dL_act_23 rfl hl (by decide) rfl (fun ls hl => ?_)
    refine lv_iload_n hx hb dL_act_24 rfl (lv_at hl 3 rfl) ?_
    refine lv_bipush (v := nI 9) hx hb dL_act_25 (by decide) ?_
    refine lv_ishr hx hb dL_act_27 ?_
    refine lv_bipush (v := nI 18) hx hb dL_act_28 (by decide) ?_
    have hbl30 : blN ((x >>> (nI 9 &&& 31))) 18 < 18 := bl_lt _ (by omega)
    refine h_rdS (As := [.int (x >>> (nI 9 &&& 31)), .int (nI 18)]) (rest := []) hF (c_L_below l G hp ((x >>> (nI 9 &&& 31))) 18 (by omega) (by omega)) 2 gL_act_L_below rfl (by decide +kernel) ⟨Nat.le_of_ble_eq_true rfl, Nat.le_of_ble_eq_true rfl⟩ hK0 hV0 rfl hl.1 rfl (Nat.le_of_ble_eq_true rfl) (by show _ ≤ (mgC (vw S 0) (blN (x >>> (nI 1 &&& 31)) 4) + stC (mgB (vw S 0) (blN (x >>> (nI 1 &&& 31)) 4)) 4); omega) (by show _ ≤ (65 * (mgC (vw S 0) (blN (x >>> (nI 1 &&& 31)) 4) + stC (mgB (vw S 0) (blN (x >>> (nI 1 &&& 31)) 4)) 4)); omega) dL_act_30 ?_
    rw [hsw]
    refine lv_tableIn (off := 78) (tgt := 111) hx hb dL_act_33 (by decide) (by decide) (by decide) (by decide) ?_
    refine lv_iload_n hx hb dL_act_111 rfl (lv_at hl 3 rfl) ?_
    refine lv_iconst (v := nI 1) hx hb dL_act_112 (by decide) ?_
    refine lv_ishr hx hb dL_act_113 ?_
    refine lv_iconst (v := nI 4) hx hb dL_act_114 (by decide) ?_
    have hbl115 : blN ((x >>> (nI 1 &&& 31))) 4 < 4 := bl_lt _ (by omega)
    refine h_rdS (As := [.int (x >>> (nI 1 &&& 31)), .int (nI 4)]) (rest := []) hF (c_L_below l G hp ((x >>> (nI 1 &&& 31))) 4 (by omega) (by omega)) 2 gL_act_L_below rfl (by decide +kernel) ⟨Nat.le_of_ble_eq_true rfl, Nat.le_of_ble_eq_true rfl⟩ hK0 hV0 rfl hl.1 rfl (Nat.le_of_ble_eq_true rfl) (by show _ ≤ (mgC (vw S 0) (blN (x >>> (nI 1 &&& 31)) 4) + stC (mgB (vw S 0) (blN (x >>> (nI 1 &&& 31)) 4)) 4); omega) (by show _ ≤ (65 * (mgC (vw S 0) (blN (x >>> (nI 1 &&& 31)) 4) + stC (mgB (vw S 0) (blN (x >>> (nI 1 &&& 31)) 4)) 4)); omega) dL_act_115 ?_
    refine lv_istore (lv' := [(4, .int (nI (blN ((x >>> (nI 1 &&& 31))) 4))), (3, .int (nI (numN x))), (0, .ref (aX ad)), (1, .ref mo), (2, .int x)]) hx hb dL_act_118 hl (by decide) rfl (fun ls hl => ?_)
    have hl9 : (blN (x >>> (nI 1 &&& 31)) 4) < 4 := hbl115
    have hnl9 := hn (blN (x >>> (nI 1 &&& 31)) 4)
    refine lv_aload_n hx hb dL_act_120 rfl (lv_at hl 3 rfl) ?_
    refine h_get (v := .ref lv) hx hb hts hi3 hown hK0 hV0 hm.cmo rfl 6 (by decide) hw0 rfl dL_act_121 ?_
    refine lv_iload hx hb dL_act_124 (lv_at hl 0 rfl) ?_
    refine h_aaldE (i := blN ((x >>> (nI 1 &&& 31))) 4) hm.clv hx hb hK0 hV0 rfl rfl (by omega) (by omega) dL_act_126 ?_
    refine h_alenQ (hm.clvl (l := (blN ((x >>> (nI 1 &&& 31))) 4)) (by omega)) hx hb hK0 hV0 rfl dL_act_127 ?_
    refine h_if_ne (a := bN (vw S 0) (blN ((x >>> (nI 1 &&& 31))) 4)) (tgt := 133) hx hb dL_act_128 (by decide) (by omega) (fun c_128 => ?_) (fun c_128 => absurd c_128 h2)
    refine lv_aload_n hx hb dL_act_133 rfl (lv_at hl 2 rfl) ?_
    refine lv_iload hx hb dL_act_134 (lv_at hl 0 rfl) ?_
    refine h_wrV (As := [.int (nI (blN ((x >>> (nI 1 &&& 31))) 4))]) (rest := []) hF (c_X2_merge l G A hp ad S hC hI (blN ((x >>> (nI 1 &&& 31))) 4) (by omega) h2 hA0) 1 gL_act_X2_merge rfl (by decide +kernel) ⟨Nat.le_of_ble_eq_true rfl, Nat.le_of_ble_eq_true rfl⟩ hK0 hV0 hA hS hC.xo rfl rfl rfl hl.1 rfl (Nat.le_of_ble_eq_true rfl) ⟨by show _ ≤ (mgC (vw S 0) (blN (x >>> (nI 1 &&& 31)) 4) + stC (mgB (vw S 0) (blN (x >>> (nI 1 &&& 31)) 4)) 4); omega, by show _ ≤ (65 * (mgC (vw S 0) (blN (x >>> (nI 1 &&& 31)) 4) + stC (mgB (vw S 0) (blN (x >>> (nI 1 &&& 31)) 4)) 4)); omega⟩ dL_act_136 (fun ro hp1 H locs hP1 hV0 hA0 hS => ?_)
    obtain ⟨rfl, hT⟩ := hP1
    replace hm := hm.ms (cT.skw hC hT)
    have hCn := hT.1
    have hn := hm.le
    refine lv_aload_n hx hb dL_act_139 rfl (lv_at hl 3 rfl) ?_
    refine lv_iload hx hb dL_act_140 (lv_at hl 0 rfl) ?_
    refine h_wrV (As := [.int (nI (blN ((x >>> (nI 1 &&& 31))) 4))]) (rest := [.int (sV (stS (mgS S 0 (blN (x >>> (nI 1 &&& 31)) 4)) 0 4) 0 - sV S 0)]) hF (c_X3_merge l G A hp1 mo dk lv lvl row (sR S) tm (sD S) (sF S 0) δ (vw S 0) ω hm (blN ((x >>> (nI 1 &&& 31))) 4) (by omega) (oneB_all hI2 _) hoT hA0) 1 gL_act_X3_merge rfl (by decide +kernel) ⟨Nat.le_of_ble_eq_true rfl, Nat.le_of_ble_eq_true rfl⟩ hK0 hV0 hA hS hm.cmo rfl rfl rfl hl.1 rfl (Nat.le_of_ble_eq_true rfl) ⟨by show _ ≤ (mgC (vw S 0) (blN (x >>> (nI 1 &&& 31)) 4) + stC (mgB (vw S 0) (blN (x >>> (nI 1 &&& 31)) 4)) 4); omega, by show _ ≤ (65 * (mgC (vw S 0) (blN (x >>> (nI 1 &&& 31)) 4) + stC (mgB (vw S 0) (blN (x >>> (nI 1 &&& 31)) 4)) 4)); omega⟩ dL_act_142 (fun ro hp2 H locs hP1 hV0 hA0 hS => ?_)
    obtain ⟨rfl, ⟨lvl2, row2, hm2⟩, hE3⟩ := hP1
    replace hCn := hCn.mvX hE3
    refine lv_icmp_ne (tgt := 152) hx hb dL_act_145 (by decide) (fun c_145 => absurd (q_merge hnk hI hl9) c_145) (fun c_145 => ?_)
    refine lv_iconst (v := nI 1) hx hb dL_act_148 (by decide) ?_
    refine lv_goto (tgt := 153) hx hb dL_act_149 (by decide) ?_
    refine W.widen (k := (mgC (vw S 0) (blN (x >>> (nI 1 &&& 31)) 4) + stC (mgB (vw S 0) (blN (x >>> (nI 1 &&& 31)) 4)) 4)) (n := (65 * (mgC (vw S 0) (blN (x >>> (nI 1 &&& 31)) 4) + stC (mgB (vw S 0) (blN (x >>> (nI 1 &&& 31)) 4)) 4))) (by omega) (by omega) ?_
    exact W.zret hx hb hr (by first | exact narrow_bI _ | rfl) (h_qW ⟨rfl, _, G_mono (G_merge hg hnk hvk hl9 hCn hm2) (by omega) (by omega) (by omega), by have := gS_mg hnk hI hvk hl9 h2; omega⟩ hV0 hA0 hS) hS.2.2 dL_act_153 hlocks

set_option maxHeartbeats 1000000 in
set_option maxRecDepth 100000 in
theorem c_act_2e (l : Launch) (G : hG) (A : Nat → Prop) (hp : HP) (ad : Nat → Nat) (S : CS) (hC : cW ad S hp) (mo dk lv : Nat) (lvl : Nat → Nat) (row : Nat → Nat → Nat) (tm : Nat) (δ : TG) (ω : TS) (hm : sA mo dk lv lvl row (sR S) tm (sD S) (sF S 0) δ (vw S 0) ω hp) (tb mb gb : Nat) (hg : gI tb mb gb S tm δ ω) (htb : tb < 1000) (x : Int32) (hsw : blN (x >>> (nI 9 &&& 31)) 18 = 2) (h2 : blN x 2 = 0) (hA0 : hIn A hp) : hWr l yL_act wsL_act 7 157 (0) (65 * (0)) G A hp [.ref (aX ad), .ref mo, .int x] (fun ro hp' => ro = some (.int (bI true)) ∧ ∃ S2, gX ad mo lv (tb + 1) (mb + 320) (gb + 5) S2 hp' ∧ 0 + gS S2 ≤ gS S + 600) := by
  refine Met.ofW (cc := cL_act) (maxL := 7) (ret := (some .boolean)) (by decide) rfl ?_
  intro p e s m args below meth c s₁ B hml hv
  obtain ⟨rfl, hV0, hK0, hA⟩ := hv
  have hx := B.exec
  have hb := B.bytes
  have hr := B.returns
  have hts := atoms_spec (ws := wsL_act) B.pre
  have hown : s.vm.findClass RL = some m.cls := findClass_of_methodNamed B.named
  have hlocks := B.notSynchronized
  have hF : CallFix p m c cL_act 7 s [.ref (aX ad), .ref mo, .int x].toArray wsL_act RL := ⟨hx, hb, hml, hown, hts⟩
  have hS : va_S A s.heap s.heap [] := va_S.rf
  have hl := lv_entry ([.ref (aX ad), .ref mo, .int x]) (n := 7) (Nat.le_of_ble_eq_true rfl)
  rw [lg_entry_eq]
  generalize (lg_sl ([.ref (aX ad), .ref mo, .int x]) ++ List.replicate (7 - (lg_sl ([.ref (aX ad), .ref mo, .int x])).length) Slot.unset).toArray = ls at hl ⊢
  replace hl : lv_has ls 7 [(0, .ref (aX ad)), (1, .ref mo), (2, .int x)] := hl
  have hn := hm.le
  have hn9l := numN_lt x
  obtain ⟨hI, hoT, hoD, htd, htg, ⟨r9, hr1, hr2, hr3⟩, hmv, hmg, htm9⟩ := id hg
  have hnk := hC.ok.n
  have hvk := hm.v
  have hokd : okR (sF S 0) := hC.ok.1 0
  have hI2 : ∀ l, l < 4 → bN (vw S 0) l ≤ 2 := fun l hl => hI l hl
  have hE : exH hp hp := exH.rf
  have hzd := szR_le (sF S 0)
  refine lv_iload_n hx hb dL_act_0 rfl (lv_at hl 2 rfl) ?_
  refine lv_iconst (v := nI 1) hx hb dL_act_1 (by decide) ?_
  refine lv_ishr hx hb dL_act_2 ?_
  refine lv_iload_n hx hb dL_act_3 rfl (lv_at hl 2 rfl) ?_
  refine lv_iconst (v := nI 5) hx hb dL_act_4 (by decide) ?_
  refine lv_ishr hx hb dL_act_5 ?_
  refine lv_iconst (v := nI 3) hx hb dL_act_6 (by decide) ?_
  have hbl7 : blN ((x >>> (nI 5 &&& 31))) 3 < 3 := bl_lt _ (by omega)
  refine h_rdS (As := [.int (x >>> (nI 5 &&& 31)), .int (nI 3)]) (rest := [.int (x >>> (nI 1 &&& 31))]) hF (c_L_below l G hp ((x >>> (nI 5 &&& 31))) 3 (by omega) (by omega)) 2 gL_act_L_below rfl (by decide +kernel) ⟨Nat.le_of_ble_eq_true rfl, Nat.le_of_ble_eq_true rfl⟩ hK0 hV0 rfl hl.1 rfl (Nat.le_of_ble_eq_true rfl) (by show _ ≤ (0); omega) (by show _ ≤ (65 * (0)); omega) dL_act_7 ?_
  refine h_if_ne (a := blN ((x >>> (nI 5 &&& 31))) 3) (tgt := 18) hx hb dL_act_10 (by decide) (by omega) (fun c_10 => ?_) (fun c_10 => ?_)
  · refine lv_bipush (v := nI 13) hx hb dL_act_18 (by decide) ?_
    have hbl20 : blN ((x >>> (nI 1 &&& 31))) 13 < 13 := bl_lt _ (by omega)
    refine h_rdS (As := [.int (x >>> (nI 1 &&& 31)), .int (nI 13)]) (rest := []) hF (c_L_below l G hp ((x >>> (nI 1 &&& 31))) 13 (by omega) (by omega)) 2 gL_act_L_below rfl (by decide +kernel) ⟨Nat.le_of_ble_eq_true rfl, Nat.le_of_ble_eq_true rfl⟩ hK0 hV0 rfl hl.1 rfl (Nat.le_of_ble_eq_true rfl) (by show _ ≤ (0); omega) (by show _ ≤ (65 * (0)); omega) dL_act_20 ?_
    have hnum : blN ((x >>> (nI 1 &&& 31))) 13 = numN x := (if_neg c_10).symm
    rw [hnum]
    refine lv_istore_n (lv' := [(3, .int (nI (numN x))), (0, .ref (aX ad)), (1, .ref mo), (2, .int x)]) hx hb dL_act_23 rfl hl (by decide) rfl (fun ls hl => ?_)
    refine lv_iload_n hx hb dL_act_24 rfl (lv_at hl 3 rfl) ?_
    refine lv_bipush (v := nI 9) hx hb dL_act_25 (by decide) ?_
    refine lv_ishr hx hb dL_act_27 ?_
    refine lv_bipush (v := nI 18) hx hb dL_act_28 (by decide) ?_
    have hbl30 : blN ((x >>> (nI 9 &&& 31))) 18 < 18 := bl_lt _ (by omega)
    refine h_rdS (As := [.int (x >>> (nI 9 &&& 31)), .int (nI 18)]) (rest := []) hF (c_L_below l G hp ((x >>> (nI 9 &&& 31))) 18 (by omega) (by omega)) 2 gL_act_L_below rfl (by decide +kernel) ⟨Nat.le_of_ble_eq_true rfl, Nat.le_of_ble_eq_true rfl⟩ hK0 hV0 rfl hl.1 rfl (Nat.le_of_ble_eq_true rfl) (by show _ ≤ (0); omega) (by show _ ≤ (65 * (0)); omega) dL_act_30 ?_
    rw [hsw]
    refine lv_tableIn (off := 121) (tgt := 154) hx hb dL_act_33 (by decide) (by decide) (by decide) (by decide) ?_
    refine lv_iload_n hx hb dL_act_154 rfl (lv_at hl 3 rfl) ?_
    refine lv_iconst (v := nI 2) hx hb dL_act_155 (by decide) ?_
    have hbl156 : blN (x) 2 < 2 := bl_lt _ (by omega)
    refine h_rdS (As := [.int x, .int (nI 2)]) (rest := []) hF (c_L_below l G hp (x) 2 (by omega) (by omega)) 2 gL_act_L_below rfl (by decide +kernel) ⟨Nat.le_of_ble_eq_true rfl, Nat.le_of_ble_eq_true rfl⟩ hK0 hV0 rfl hl.1 rfl (Nat.le_of_ble_eq_true rfl) (by show _ ≤ (0); omega) (by show _ ≤ (65 * (0)); omega) dL_act_156 ?_
    refine h_if_ne (a := blN (x) 2) (tgt := 164) hx hb dL_act_159 (by decide) (by omega) (fun c_159 => absurd h2 c_159) (fun c_159 => ?_)
    refine lv_iconst (v := nI 1) hx hb dL_act_162 (by decide) ?_
    refine W.widen (k := (0)) (n := (65 * (0))) (by omega) (by omega) ?_
    exact W.zret hx hb hr (by first | exact narrow_bI _ | rfl) (h_qW ⟨rfl, S, G_mono (G_same hg hC hm) (by omega) (by omega) (by omega), by omega⟩ hV0 hA0 hS) hS.2.2 dL_act_163 hlocks
  · refine lv_bipush (v := nI 64) hx hb dL_act_13 (by decide) ?_
    refine lv_goto (tgt := 20) hx hb dL_act_15 (by decide) ?_
    have hbl20 : blN ((x >>> (nI 1 &&& 31))) 64 < 64 := bl_lt _ (by omega)
    refine h_rdS (As := [.int (x >>> (nI 1 &&& 31)), .int (nI 64)]) (rest := []) hF (c_L_below l G hp ((x >>> (nI 1 &&& 31))) 64 (by omega) (by omega)) 2 gL_act_L_below rfl (by decide +kernel) ⟨Nat.le_of_ble_eq_true rfl, Nat.le_of_ble_eq_true rfl⟩ hK0 hV0 rfl hl.1 rfl (Nat.le_of_ble_eq_true rfl) (by show _ ≤ (0); omega) (by show _ ≤ (65 * (0)); omega) dL_act_20 ?_
    have hnum : blN ((x >>> (nI 1 &&& 31))) 64 = numN x := (if_pos c_10).symm
    rw [hnum]
    refine lv_istore_n (lv' := [(3, .int (nI (numN x))), (0, .ref (aX ad)), (1, .ref mo), (2, .int x)]) hx hb dL_act_23 rfl hl (by decide) rfl (fun ls hl => ?_)
    refine lv_iload_n hx hb dL_act_24 rfl (lv_at hl 3 rfl) ?_
    refine lv_bipush (v := nI 9) hx hb dL_act_25 (by decide) ?_
    refine lv_ishr hx hb dL_act_27 ?_
    refine lv_bipush (v := nI 18) hx hb dL_act_28 (by decide) ?_
    have hbl30 : blN ((x >>> (nI 9 &&& 31))) 18 < 18 := bl_lt _ (by omega)
    refine h_rdS (As := [.int (x >>> (nI 9 &&& 31)), .int (nI 18)]) (rest := []) hF (c_L_below l G hp ((x >>> (nI 9 &&& 31))) 18 (by omega) (by omega)) 2 gL_act_L_below rfl (by decide +kernel) ⟨Nat.le_of_ble_eq_true rfl, Nat.le_of_ble_eq_true rfl⟩ hK0 hV0 rfl hl.1 rfl (Nat.le_of_ble_eq_true rfl) (by show _ ≤ (0); omega) (by show _ ≤ (65 * (0)); omega) dL_act_30 ?_
    rw [hsw]
    refine lv_tableIn (off := 121) (tgt := 154) hx hb dL_act_33 (by decide) (by decide) (by decide) (by decide) ?_
    refine lv_iload_n hx hb dL_act_154 rfl (lv_at hl 3 rfl) ?_
    refine lv_iconst (v := nI 2) hx hb dL_act_155 (by decide) ?_
    have hbl156 : blN (x) 2 < 2 := bl_lt _ (by omega)
    refine h_rdS (As := [.int x, .int (nI 2)]) (rest := []) hF (c_L_below l G hp (x) 2 (by omega) (by omega)) 2 gL_act_L_below rfl (by decide +kernel) ⟨Nat.le_of_ble_eq_true rfl, Nat.le_of_ble_eq_true rfl⟩ hK0 hV0 rfl hl.1 rfl (Nat.le_of_ble_eq_true rfl) (by show _ ≤ (0); omega) (by show _ ≤ (65 * (0)); omega) dL_act_156 ?_
    refine h_if_ne (a := blN (x) 2) (tgt := 164) hx hb dL_act_159 (by decide) (by omega) (fun c_159 => absurd h2 c_159) (fun c_159 => ?_)
    refine lv_iconst (v := nI 1) hx hb dL_act_162 (by decide) ?_
    refine W.widen (k := (0)) (n := (65 * (0))) (by omega) (by omega) ?_
    exact W.zret hx hb hr (by first | exact narrow_bI _ | rfl) (h_qW ⟨rfl, S, G_mono (G_same hg hC hm) (by omega) (by omega) (by omega), by omega⟩ hV0 hA0 hS) hS.2.2 dL_act_163 hlocks

set_option maxHeartbeats 1000000 in
set_option maxRecDepth 100000 in
theorem c_act_2N (l : Launch) (G : hG) (A : Nat → Prop) (hp : HP) (ad : Nat → Nat) (S : CS) (hC : cW ad S hp) (mo dk lv : Nat) (lvl : Nat → Nat) (row : Nat → Nat → Nat) (tm : Nat) (δ : TG) (ω : TS) (hm : sA mo dk lv lvl row (sR S) tm (sD S) (sF S 0) δ (vw S 0) ω hp) (tb mb gb : Nat) (hg : gI tb mb gb S tm δ ω) (htb : tb < 1000) (x : Int32) (hsw : blN (x >>> (nI 9 &&& 31)) 18 = 2) (h2 : ¬ blN x 2 = 0) (hlt : nI (szR (sF S 0)) < nI (1 + blN (x >>> (nI 2 &&& 31)) 8)) (hA0 : hIn A hp) : hWr l yL_act wsL_act 7 157 (0) (65 * (0)) G A hp [.ref (aX ad), .ref mo, .int x] (fun ro hp' => ro = some (.int (bI true)) ∧ ∃ S2, gX ad mo lv (tb + 1) (mb + 320) (gb + 5) S2 hp' ∧ 0 + gS S2 ≤ gS S + 600) := by
  refine Met.ofW (cc := cL_act) (maxL := 7) (ret := (some .boolean)) (by decide) rfl ?_
  intro p e s m args below meth c s₁ B hml hv
  obtain ⟨rfl, hV0, hK0, hA⟩ := hv
  have hx := B.exec
  have hb := B.bytes
  have hr := B.returns
  have hts := atoms_spec (ws := wsL_act) B.pre
  have hown : s.vm.findClass RL = some m.cls := findClass_of_methodNamed B.named
  have hlocks := B.notSynchronized
  have hF : CallFix p m c cL_act 7 s [.ref (aX ad), .ref mo, .int x].toArray wsL_act RL := ⟨hx, hb, hml, hown, hts⟩
  have hw0 := hts (.fieldLink RL 35 "SlipLevelsLaw$Sim" "room" "I") (by decide +kernel)
  have hw1 := hts (.fieldLink RL 39 "SlipLevelsLaw$Sim" "desk" "[[I") (by decide +kernel)
  have hi3 : ∀ w ∈ u_ws RX3 TX3 7, w ∈ wsL_act := by
    intro w h
    unfold wsL_act
    simp only [List.mem_cons, List.mem_append, h, true_or, or_true]
  have hS : va_S A s.heap s.heap [] := va_S.rf
  have hl := lv_entry ([.ref (aX ad), .ref mo, .int x]) (n := 7) (Nat.le_of_ble_eq_true rfl)
  rw [lg_entry_eq]
  generalize (lg_sl ([.ref (aX ad), .ref mo, .int x]) ++ List.replicate (7 - (lg_sl ([.ref (aX ad), .ref mo, .int x])).length) Slot.unset).toArray = ls at hl ⊢
  replace hl : lv_has ls 7 [(0, .ref (aX ad)), (1, .ref mo), (2, .int x)] := hl
  have hn := hm.le
  have hn9l := numN_lt x
  obtain ⟨hI, hoT, hoD, htd, htg, ⟨r9, hr1, hr2, hr3⟩, hmv, hmg, htm9⟩ := id hg
  have hnk := hC.ok.n
  have hvk := hm.v
  have hokd : okR (sF S 0) := hC.ok.1 0
  have hI2 : ∀ l, l < 4 → bN (vw S 0) l ≤ 2 := fun l hl => hI l hl
  have hE : exH hp hp := exH.rf
  have hzd := szR_le (sF S 0)
  refine lv_iload_n hx hb dL_act_0 rfl (lv_at hl 2 rfl) ?_
  refine lv_iconst (v := nI 1) hx hb dL_act_1 (by decide) ?_
  refine lv_ishr hx hb dL_act_2 ?_
  refine lv_iload_n hx hb dL_act_3 rfl (lv_at hl 2 rfl) ?_
  refine lv_iconst (v := nI 5) hx hb dL_act_4 (by decide) ?_
  refine lv_ishr hx hb dL_act_5 ?_
  refine lv_iconst (v := nI 3) hx hb dL_act_6 (by decide) ?_
  have hbl7 : blN ((x >>> (nI 5 &&& 31))) 3 < 3 := bl_lt _ (by omega)
  refine h_rdS (As := [.int (x >>> (nI 5 &&& 31)), .int (nI 3)]) (rest := [.int (x >>> (nI 1 &&& 31))]) hF (c_L_below l G hp ((x >>> (nI 5 &&& 31))) 3 (by omega) (by omega)) 2 gL_act_L_below rfl (by decide +kernel) ⟨Nat.le_of_ble_eq_true rfl, Nat.le_of_ble_eq_true rfl⟩ hK0 hV0 rfl hl.1 rfl (Nat.le_of_ble_eq_true rfl) (by show _ ≤ (0); omega) (by show _ ≤ (65 * (0)); omega) dL_act_7 ?_
  refine h_if_ne (a := blN ((x >>> (nI 5 &&& 31))) 3) (tgt := 18) hx hb dL_act_10 (by decide) (by omega) (fun c_10 => ?_) (fun c_10 => ?_)
  · refine lv_bipush (v := nI 13) hx hb dL_act_18 (by decide) ?_
    have hbl20 : blN ((x >>> (nI 1 &&& 31))) 13 < 13 := bl_lt _ (by omega)
    refine h_rdS (As := [.int (x >>> (nI 1 &&& 31)), .int (nI 13)]) (rest := []) hF (c_L_below l G hp ((x >>> (nI 1 &&& 31))) 13 (by omega) (by omega)) 2 gL_act_L_below rfl (by decide +kernel) ⟨Nat.le_of_ble_eq_true rfl, Nat.le_of_ble_eq_true rfl⟩ hK0 hV0 rfl hl.1 rfl (Nat.le_of_ble_eq_true rfl) (by show _ ≤ (0); omega) (by show _ ≤ (65 * (0)); omega) dL_act_20 ?_
    have hnum : blN ((x >>> (nI 1 &&& 31))) 13 = numN x := (if_neg c_10).symm
    rw [hnum]
    refine lv_istore_n (lv' := [(3, .int (nI (numN x))), (0, .ref (aX ad)), (1, .ref mo), (2, .int x)]) hx hb dL_act_23 rfl hl (by decide) rfl (fun ls hl => ?_)
    refine lv_iload_n hx hb dL_act_24 rfl (lv_at hl 3 rfl) ?_
    refine lv_bipush (v := nI 9) hx hb dL_act_25 (by decide) ?_
    refine lv_ishr hx hb dL_act_27 ?_
    refine lv_bipush (v := nI 18) hx hb dL_act_28 (by decide) ?_
    have hbl30 : blN ((x >>> (nI 9 &&& 31))) 18 < 18 := bl_lt _ (by omega)
    refine h_rdS (As := [.int (x >>> (nI 9 &&& 31)), .int (nI 18)]) (rest := []) hF (c_L_below l G hp ((x >>> (nI 9 &&& 31))) 18 (by omega) (by omega)) 2 gL_act_L_below rfl (by decide +kernel) ⟨Nat.le_of_ble_eq_true rfl, Nat.le_of_ble_eq_true rfl⟩ hK0 hV0 rfl hl.1 rfl (Nat.le_of_ble_eq_true rfl) (by show _ ≤ (0); omega) (by show _ ≤ (65 * (0)); omega) dL_act_30 ?_
    rw [hsw]
    refine lv_tableIn (off := 121) (tgt := 154) hx hb dL_act_33 (by decide) (by decide) (by decide) (by decide) ?_
    refine lv_iload_n hx hb dL_act_154 rfl (lv_at hl 3 rfl) ?_
    refine lv_iconst (v := nI 2) hx hb dL_act_155 (by decide) ?_
    have hbl156 : blN (x) 2 < 2 := bl_lt _ (by omega)
    refine h_rdS (As := [.int x, .int (nI 2)]) (rest := []) hF (c_L_below l G hp (x) 2 (by omega) (by omega)) 2 gL_act_L_below rfl (by decide +kernel) ⟨Nat.le_of_ble_eq_true rfl, Nat.le_of_ble_eq_true rfl⟩ hK0 hV0 rfl hl.1 rfl (Nat.le_of_ble_eq_true rfl) (by show _ ≤ (0); omega) (by show _ ≤ (65 * (0)); omega) dL_act_156 ?_
    refine h_if_ne (a := blN (x) 2) (tgt := 164) hx hb dL_act_159 (by decide) (by omega) (fun c_159 => ?_) (fun c_159 => absurd c_159 h2)
    refine lv_aload_n hx hb dL_act_164 rfl (lv_at hl 2 rfl) ?_
    refine h_get (v := .int (sR S)) hx hb hts hi3 hown hK0 hV0 hm.cmo rfl 0 (by decide) hw0 rfl dL_act_165 ?_
    refine lv_istore (lv' := [(5, .int (sR S)), (3, .int (nI (numN x))), (0, .ref (aX ad)), (1, .ref mo), (2, .int x)]) hx hb dL_act_168 hl (by decide) rfl (fun ls hl => ?_)
    refine lv_aload_n hx hb dL_act_170 rfl (lv_at hl 3 rfl) ?_
    refine lv_iconst (v := nI 1) hx hb dL_act_171 (by decide) ?_
    refine lv_iload_n hx hb dL_act_172 rfl (lv_at hl 4 rfl) ?_
    refine lv_iconst (v := nI 2) hx hb dL_act_173 (by decide) ?_
    refine lv_ishr hx hb dL_act_174 ?_
    refine lv_bipush (v := nI 8) hx hb dL_act_175 (by decide) ?_
    have hbl177 : blN ((x >>> (nI 2 &&& 31))) 8 < 8 := bl_lt _ (by omega)
    refine h_rdS (As := [.int (x >>> (nI 2 &&& 31)), .int (nI 8)]) (rest := [.int (nI 1), .ref mo]) hF (c_L_below l G hp ((x >>> (nI 2 &&& 31))) 8 (by omega) (by omega)) 2 gL_act_L_below rfl (by decide +kernel) ⟨Nat.le_of_ble_eq_true rfl, Nat.le_of_ble_eq_true rfl⟩ hK0 hV0 rfl hl.1 rfl (Nat.le_of_ble_eq_true rfl) (by show _ ≤ (0); omega) (by show _ ≤ (65 * (0)); omega) dL_act_177 ?_
    refine h_iaddN hx hb dL_act_180 ?_
    refine h_put (v := .int (nI (1 + blN ((x >>> (nI 2 &&& 31))) 8))) hx hb hts hi3 tyX3 tyX3_ok nmX3 hown hK0 hV0 hA0 hS hm.cmo rfl 0 (by decide) hw0 rfl (by rfl) (by rfl) (Nat.le_of_ble_eq_true rfl) dL_act_181 (fun H locs hV0 hA0 hS => ?_)
    have hE0 := exH.rf.set (hp0 := hp) hm.cmo (e := eO 3 [.int (nI (1 + blN ((x >>> (nI 2 &&& 31))) 8)), .int (nI tm), .int (bM (vw S 0)), .int (sD S), .int (bK (vw S 0)), .ref dk, .ref lv]) rfl
    replace hE := hE.tr hE0
    replace hm : sA mo dk lv lvl row (nI (1 + blN ((x >>> (nI 2 &&& 31))) 8)) tm (sD S) (sF S 0) δ (vw S 0) ω (hput hp mo (eO 3 [.int (nI (1 + blN ((x >>> (nI 2 &&& 31))) 8)), .int (nI tm), .int (bM (vw S 0)), .int (sD S), .int (bK (vw S 0)), .ref dk, .ref lv])) := hm.setO hm.cdk
    have hn := hm.le
    replace hV0 : hV G (hput hp mo (eO 3 [.int (nI (1 + blN ((x >>> (nI 2 &&& 31))) 8)), .int (nI tm), .int (bM (vw S 0)), .int (sD S), .int (bK (vw S 0)), .ref dk, .ref lv])) H := hV0
    replace hA0 : hIn A (hput hp mo (eO 3 [.int (nI (1 + blN ((x >>> (nI 2 &&& 31))) 8)), .int (nI tm), .int (bM (vw S 0)), .int (sD S), .int (bK (vw S 0)), .ref dk, .ref lv])) := hA0
    generalize hput hp mo (eO 3 [.int (nI (1 + blN ((x >>> (nI 2 &&& 31))) 8)), .int (nI tm), .int (bM (vw S 0)), .int (sD S), .int (bK (vw S 0)), .ref dk, .ref lv]) = hp101 at hV0 hA0 hm hE hE0
    replace hC := hC.mvX hE0
    have hCn := hC
    refine lv_aload_n hx hb dL_act_184 rfl (lv_at hl 3 rfl) ?_
    refine h_get (v := .ref dk) hx hb hts hi3 hown hK0 hV0 hm.cmo rfl 5 (by decide) hw1 rfl dL_act_185 ?_
    refine h_alenQ hm.cdk.1 hx hb hK0 hV0 rfl dL_act_188 ?_
    refine lv_aload_n hx hb dL_act_189 rfl (lv_at hl 3 rfl) ?_
    refine h_get (v := .int (nI (1 + blN ((x >>> (nI 2 &&& 31))) 8))) hx hb hts hi3 hown hK0 hV0 hm.cmo rfl 0 (by decide) hw0 rfl dL_act_190 ?_
    refine lv_icmp_lt (tgt := 201) hx hb dL_act_193 (by decide) (fun c_193 => ?_) (fun c_193 => absurd hlt c_193)
    refine lv_aload_n hx hb dL_act_201 rfl (lv_at hl 2 rfl) ?_
    refine lv_aload_n hx hb dL_act_202 rfl (lv_at hl 3 rfl) ?_
    refine h_get (v := .int (nI (1 + blN ((x >>> (nI 2 &&& 31))) 8))) hx hb hts hi3 hown hK0 hV0 hm.cmo rfl 0 (by decide) hw0 rfl dL_act_203 ?_
    refine h_wrV (As := [.int (nI (1 + blN ((x >>> (nI 2 &&& 31))) 8))]) (rest := []) hF (c_X2_setRoom l G A hp101 ad S hC hI (1 + blN (x >>> (nI 2 &&& 31)) 8) (by omega) (by omega) hA0) 1 gL_act_X2_setRoom rfl (by decide +kernel) ⟨Nat.le_of_ble_eq_true rfl, Nat.le_of_ble_eq_true rfl⟩ hK0 hV0 hA hS hC.xo rfl rfl rfl hl.1 rfl (Nat.le_of_ble_eq_true rfl) ⟨by show _ ≤ (0); omega, by show _ ≤ (65 * (0)); omega⟩ dL_act_206 (fun ro hp1 H locs hP1 hV0 hA0 hS => ?_)
    rw [if_pos hlt] at hP1
    obtain ⟨rfl, hT⟩ := hP1
    replace hm := hm.ms (cT.skw hC hT)
    have hCn := hT.1
    have hn := hm.le
    refine lv_iload hx hb dL_act_209 (lv_at hl 0 rfl) ?_
    refine lv_icmp_ne (tgt := 218) hx hb dL_act_211 (by decide) (fun c_211 => absurd rfl c_211) (fun c_211 => ?_)
    refine lv_iconst (v := nI 1) hx hb dL_act_214 (by decide) ?_
    refine lv_goto (tgt := 219) hx hb dL_act_215 (by decide) ?_
    refine W.widen (k := (0)) (n := (65 * (0))) (by omega) (by omega) ?_
    exact W.zret hx hb hr (by first | exact narrow_bI _ | rfl) (h_qW ⟨rfl, _, G_mono (G_room hg (by omega) (by omega) hCn hm) (by omega) (by omega) (by omega), by rw [gS_uR]; omega⟩ hV0 hA0 hS) hS.2.2 dL_act_219 hlocks
  · refine lv_bipush (v := nI 64) hx hb dL_act_13 (by decide) ?_
    refine lv_goto (tgt := 20) hx hb dL_act_15 (by decide) ?_
    have hbl20 : blN ((x >>> (nI 1 &&& 31))) 64 < 64 := bl_lt _ (by omega)
    refine h_rdS (As := [.int (x >>> (nI 1 &&& 31)), .int (nI 64)]) (rest := []) hF (c_L_below l G hp ((x >>> (nI 1 &&& 31))) 64 (by omega) (by omega)) 2 gL_act_L_below rfl (by decide +kernel) ⟨Nat.le_of_ble_eq_true rfl, Nat.le_of_ble_eq_true rfl⟩ hK0 hV0 rfl hl.1 rfl (Nat.le_of_ble_eq_true rfl) (by show _ ≤ (0); omega) (by show _ ≤ (65 * (0)); omega) dL_act_20 ?_
    have hnum : blN ((x >>> (nI 1 &&& 31))) 64 = numN x := (if_pos c_10).symm
    rw [hnum]
    refine lv_istore_n (lv' := [(3, .int (nI (numN x))), (0, .ref (aX ad)), (1, .ref mo), (2, .int x)]) hx hb dL_act_23 rfl hl (by decide) rfl (fun ls hl => ?_)
    refine lv_iload_n hx hb dL_act_24 rfl (lv_at hl 3 rfl) ?_
    refine lv_bipush (v := nI 9) hx hb dL_act_25 (by decide) ?_
    refine lv_ishr hx hb dL_act_27 ?_
    refine lv_bipush (v := nI 18) hx hb dL_act_28 (by decide) ?_
    have hbl30 : blN ((x >>> (nI 9 &&& 31))) 18 < 18 := bl_lt _ (by omega)
    refine h_rdS (As := [.int (x >>> (nI 9 &&& 31)), .int (nI 18)]) (rest := []) hF (c_L_below l G hp ((x >>> (nI 9 &&& 31))) 18 (by omega) (by omega)) 2 gL_act_L_below rfl (by decide +kernel) ⟨Nat.le_of_ble_eq_true rfl, Nat.le_of_ble_eq_true rfl⟩ hK0 hV0 rfl hl.1 rfl (Nat.le_of_ble_eq_true rfl) (by show _ ≤ (0); omega) (by show _ ≤ (65 * (0)); omega) dL_act_30 ?_
    rw [hsw]
    refine lv_tableIn (off := 121) (tgt := 154) hx hb dL_act_33 (by decide) (by decide) (by decide) (by decide) ?_
    refine lv_iload_n hx hb dL_act_154 rfl (lv_at hl 3 rfl) ?_
    refine lv_iconst (v := nI 2) hx hb dL_act_155 (by decide) ?_
    have hbl156 : blN (x) 2 < 2 := bl_lt _ (by omega)
    refine h_rdS (As := [.int x, .int (nI 2)]) (rest := []) hF (c_L_below l G hp (x) 2 (by omega) (by omega)) 2 gL_act_L_below rfl (by decide +kernel) ⟨Nat.le_of_ble_eq_true rfl, Nat.le_of_ble_eq_true rfl⟩ hK0 hV0 rfl hl.1 rfl (Nat.le_of_ble_eq_true rfl) (by show _ ≤ (0); omega) (by show _ ≤ (65 * (0)); omega) dL_act_156 ?_
    refine h_if_ne (a := blN (x) 2) (tgt := 164) hx hb dL_act_159 (by decide) (by omega) (fun c_159 => ?_) (fun c_159 => absurd c_159 h2)
    refine lv_aload_n hx hb dL_act_164 rfl (lv_at hl 2 rfl) ?_
    refine h_get (v := .int (sR S)) hx hb hts hi3 hown hK0 hV0 hm.cmo rfl 0 (by decide) hw0 rfl dL_act_165 ?_
    refine lv_istore (lv' := [(5, .int (sR S)), (3, .int (nI (numN x))), (0, .ref (aX ad)), (1, .ref mo), (2, .int x)]) hx hb dL_act_168 hl (by decide) rfl (fun ls hl => ?_)
    refine lv_aload_n hx hb dL_act_170 rfl (lv_at hl 3 rfl) ?_
    refine lv_iconst (v := nI 1) hx hb dL_act_171 (by decide) ?_
    refine lv_iload_n hx hb dL_act_172 rfl (lv_at hl 4 rfl) ?_
    refine lv_iconst (v := nI 2) hx hb dL_act_173 (by decide) ?_
    refine lv_ishr hx hb dL_act_174 ?_
    refine lv_bipush (v := nI 8) hx hb dL_act_175 (by decide) ?_
    have hbl177 : blN ((x >>> (nI 2 &&& 31))) 8 < 8 := bl_lt _ (by omega)
    refine h_rdS (As := [.int (x >>> (nI 2 &&& 31)), .int (nI 8)]) (rest := [.int (nI 1), .ref mo]) hF (c_L_below l G hp ((x >>> (nI 2 &&& 31))) 8 (by omega) (by omega)) 2 gL_act_L_below rfl (by decide +kernel) ⟨Nat.le_of_ble_eq_true rfl, Nat.le_of_ble_eq_true rfl⟩ hK0 hV0 rfl hl.1 rfl (Nat.le_of_ble_eq_true rfl) (by show _ ≤ (0); omega) (by show _ ≤ (65 * (0)); omega) dL_act_177 ?_
    refine h_iaddN hx hb dL_act_180 ?_
    refine h_put (v := .int (nI (1 + blN ((x >>> (nI 2 &&& 31))) 8))) hx hb hts hi3 tyX3 tyX3_ok nmX3 hown hK0 hV0 hA0 hS hm.cmo rfl 0 (by decide) hw0 rfl (by rfl) (by rfl) (Nat.le_of_ble_eq_true rfl) dL_act_181 (fun H locs hV0 hA0 hS => ?_)
    have hE0 := exH.rf.set (hp0 := hp) hm.cmo (e := eO 3 [.int (nI (1 + blN ((x >>> (nI 2 &&& 31))) 8)), .int (nI tm), .int (bM (vw S 0)), .int (sD S), .int (bK (vw S 0)), .ref dk, .ref lv]) rfl
    replace hE := hE.tr hE0
    replace hm : sA mo dk lv lvl row (nI (1 + blN ((x >>> (nI 2 &&& 31))) 8)) tm (sD S) (sF S 0) δ (vw S 0) ω (hput hp mo (eO 3 [.int (nI (1 + blN ((x >>> (nI 2 &&& 31))) 8)), .int (nI tm), .int (bM (vw S 0)), .int (sD S), .int (bK (vw S 0)), .ref dk, .ref lv])) := hm.setO hm.cdk
    have hn := hm.le
    replace hV0 : hV G (hput hp mo (eO 3 [.int (nI (1 + blN ((x >>> (nI 2 &&& 31))) 8)), .int (nI tm), .int (bM (vw S 0)), .int (sD S), .int (bK (vw S 0)), .ref dk, .ref lv])) H := hV0
    replace hA0 : hIn A (hput hp mo (eO 3 [.int (nI (1 + blN ((x >>> (nI 2 &&& 31))) 8)), .int (nI tm), .int (bM (vw S 0)), .int (sD S), .int (bK (vw S 0)), .ref dk, .ref lv])) := hA0
    generalize hput hp mo (eO 3 [.int (nI (1 + blN ((x >>> (nI 2 &&& 31))) 8)), .int (nI tm), .int (bM (vw S 0)), .int (sD S), .int (bK (vw S 0)), .ref dk, .ref lv]) = hp102 at hV0 hA0 hm hE hE0
    replace hC := hC.mvX hE0
    have hCn := hC
    refine lv_aload_n hx hb dL_act_184 rfl (lv_at hl 3 rfl) ?_
    refine h_get (v := .ref dk) hx hb hts hi3 hown hK0 hV0 hm.cmo rfl 5 (by decide) hw1 rfl dL_act_185 ?_
    refine h_alenQ hm.cdk.1 hx hb hK0 hV0 rfl dL_act_188 ?_
    refine lv_aload_n hx hb dL_act_189 rfl (lv_at hl 3 rfl) ?_
    refine h_get (v := .int (nI (1 + blN ((x >>> (nI 2 &&& 31))) 8))) hx hb hts hi3 hown hK0 hV0 hm.cmo rfl 0 (by decide) hw0 rfl dL_act_190 ?_
    refine lv_icmp_lt (tgt := 201) hx hb dL_act_193 (by decide) (fun c_193 => ?_) (fun c_193 => absurd hlt c_193)
    refine lv_aload_n hx hb dL_act_201 rfl (lv_at hl 2 rfl) ?_
    refine lv_aload_n hx hb dL_act_202 rfl (lv_at hl 3 rfl) ?_
    refine h_get (v := .int (nI (1 + blN ((x >>> (nI 2 &&& 31))) 8))) hx hb hts hi3 hown hK0 hV0 hm.cmo rfl 0 (by decide) hw0 rfl dL_act_203 ?_
    refine h_wrV (As := [.int (nI (1 + blN ((x >>> (nI 2 &&& 31))) 8))]) (rest := []) hF (c_X2_setRoom l G A hp102 ad S hC hI (1 + blN (x >>> (nI 2 &&& 31)) 8) (by omega) (by omega) hA0) 1 gL_act_X2_setRoom rfl (by decide +kernel) ⟨Nat.le_of_ble_eq_true rfl, Nat.le_of_ble_eq_true rfl⟩ hK0 hV0 hA hS hC.xo rfl rfl rfl hl.1 rfl (Nat.le_of_ble_eq_true rfl) ⟨by show _ ≤ (0); omega, by show _ ≤ (65 * (0)); omega⟩ dL_act_206 (fun ro hp1 H locs hP1 hV0 hA0 hS => ?_)
    rw [if_pos hlt] at hP1
    obtain ⟨rfl, hT⟩ := hP1
    replace hm := hm.ms (cT.skw hC hT)
    have hCn := hT.1
    have hn := hm.le
    refine lv_iload hx hb dL_act_209 (lv_at hl 0 rfl) ?_
    refine lv_icmp_ne (tgt := 218) hx hb dL_act_211 (by decide) (fun c_211 => absurd rfl c_211) (fun c_211 => ?_)
    refine lv_iconst (v := nI 1) hx hb dL_act_214 (by decide) ?_
    refine lv_goto (tgt := 219) hx hb dL_act_215 (by decide) ?_
    refine W.widen (k := (0)) (n := (65 * (0))) (by omega) (by omega) ?_
    exact W.zret hx hb hr (by first | exact narrow_bI _ | rfl) (h_qW ⟨rfl, _, G_mono (G_room hg (by omega) (by omega) hCn hm) (by omega) (by omega) (by omega), by rw [gS_uR]; omega⟩ hV0 hA0 hS) hS.2.2 dL_act_219 hlocks

set_option maxHeartbeats 1000000 in
set_option maxRecDepth 100000 in
theorem c_act_2B (l : Launch) (G : hG) (A : Nat → Prop) (hp : HP) (ad : Nat → Nat) (S : CS) (hC : cW ad S hp) (mo dk lv : Nat) (lvl : Nat → Nat) (row : Nat → Nat → Nat) (tm : Nat) (δ : TG) (ω : TS) (hm : sA mo dk lv lvl row (sR S) tm (sD S) (sF S 0) δ (vw S 0) ω hp) (tb mb gb : Nat) (hg : gI tb mb gb S tm δ ω) (htb : tb < 1000) (x : Int32) (hsw : blN (x >>> (nI 9 &&& 31)) 18 = 2) (h2 : ¬ blN x 2 = 0) (hlt : ¬ nI (szR (sF S 0)) < nI (1 + blN (x >>> (nI 2 &&& 31)) 8)) (hA0 : hIn A hp) : hWr l yL_act wsL_act 7 157 (2 + stC (cmB (vw S 0) 0 (sF S 0)) 4) (65 * (2 + stC (cmB (vw S 0) 0 (sF S 0)) 4)) G A hp [.ref (aX ad), .ref mo, .int x] (fun ro hp' => ro = some (.int (bI true)) ∧ ∃ S2, gX ad mo lv (tb + 1) (mb + 320) (gb + 5) S2 hp' ∧ 2 + stC (cmB (vw S 0) 0 (sF S 0)) 4 + gS S2 ≤ gS S + 600) := by
  refine Met.ofW (cc := cL_act) (maxL := 7) (ret := (some .boolean)) (by decide) rfl ?_
  intro p e s m args below meth c s₁ B hml hv
  obtain ⟨rfl, hV0, hK0, hA⟩ := hv
  have hx := B.exec
  have hb := B.bytes
  have hr := B.returns
  have hts := atoms_spec (ws := wsL_act) B.pre
  have hown : s.vm.findClass RL = some m.cls := findClass_of_methodNamed B.named
  have hlocks := B.notSynchronized
  have hF : CallFix p m c cL_act 7 s [.ref (aX ad), .ref mo, .int x].toArray wsL_act RL := ⟨hx, hb, hml, hown, hts⟩
  have hw0 := hts (.fieldLink RL 35 "SlipLevelsLaw$Sim" "room" "I") (by decide +kernel)
  have hw1 := hts (.fieldLink RL 39 "SlipLevelsLaw$Sim" "desk" "[[I") (by decide +kernel)
  have hi3 : ∀ w ∈ u_ws RX3 TX3 7, w ∈ wsL_act := by
    intro w h
    unfold wsL_act
    simp only [List.mem_cons, List.mem_append, h, true_or, or_true]
  have hS : va_S A s.heap s.heap [] := va_S.rf
  have hl := lv_entry ([.ref (aX ad), .ref mo, .int x]) (n := 7) (Nat.le_of_ble_eq_true rfl)
  rw [lg_entry_eq]
  generalize (lg_sl ([.ref (aX ad), .ref mo, .int x]) ++ List.replicate (7 - (lg_sl ([.ref (aX ad), .ref mo, .int x])).length) Slot.unset).toArray = ls at hl ⊢
  replace hl : lv_has ls 7 [(0, .ref (aX ad)), (1, .ref mo), (2, .int x)] := hl
  have hn := hm.le
  have hn9l := numN_lt x
  obtain ⟨hI, hoT, hoD, htd, htg, ⟨r9, hr1, hr2, hr3⟩, hmv, hmg, htm9⟩ := id hg
  have hnk := hC.ok.n
  have hvk := hm.v
  have hokd : okR (sF S 0) := hC.ok.1 0
  have hI2 : ∀ l, l < 4 → bN (vw S 0) l ≤ 2 := fun l hl => hI l hl
  have hE : exH hp hp := exH.rf
  have hzd := szR_le (sF S 0)
  refine lv_iload_n hx hb dL_act_0 rfl (lv_at hl 2 rfl) ?_
  refine lv_iconst (v := nI 1) hx hb dL_act_1 (by decide) ?_
  refine lv_ishr hx hb dL_act_2 ?_
  refine lv_iload_n hx hb dL_act_3 rfl (lv_at hl 2 rfl) ?_
  refine lv_iconst (v := nI 5) hx hb dL_act_4 (by decide) ?_
  refine lv_ishr hx hb dL_act_5 ?_
  refine lv_iconst (v := nI 3) hx hb dL_act_6 (by decide) ?_
  have hbl7 : blN ((x >>> (nI 5 &&& 31))) 3 < 3 := bl_lt _ (by omega)
  refine h_rdS (As := [.int (x >>> (nI 5 &&& 31)), .int (nI 3)]) (rest := [.int (x >>> (nI 1 &&& 31))]) hF (c_L_below l G hp ((x >>> (nI 5 &&& 31))) 3 (by omega) (by omega)) 2 gL_act_L_below rfl (by decide +kernel) ⟨Nat.le_of_ble_eq_true rfl, Nat.le_of_ble_eq_true rfl⟩ hK0 hV0 rfl hl.1 rfl (Nat.le_of_ble_eq_true rfl) (by show _ ≤ (2 + stC (cmB (vw S 0) 0 (sF S 0)) 4); omega) (by show _ ≤ (65 * (2 + stC (cmB (vw S 0) 0 (sF S 0)) 4)); omega) dL_act_7 ?_
  refine h_if_ne (a := blN ((x >>> (nI 5 &&& 31))) 3) (tgt := 18) hx hb dL_act_10 (by decide) (by omega) (fun c_10 => ?_) (fun c_10 => ?_)
  · refine lv_bipush (v := nI 13) hx hb dL_act_18 (by decide) ?_
    have hbl20 : blN ((x >>> (nI 1 &&& 31))) 13 < 13 := bl_lt _ (by omega)
    refine h_rdS (As := [.int (x >>> (nI 1 &&& 31)), .int (nI 13)]) (rest := []) hF (c_L_below l G hp ((x >>> (nI 1 &&& 31))) 13 (by omega) (by omega)) 2 gL_act_L_below rfl (by decide +kernel) ⟨Nat.le_of_ble_eq_true rfl, Nat.le_of_ble_eq_true rfl⟩ hK0 hV0 rfl hl.1 rfl (Nat.le_of_ble_eq_true rfl) (by show _ ≤ (2 + stC (cmB (vw S 0) 0 (sF S 0)) 4); omega) (by show _ ≤ (65 * (2 + stC (cmB (vw S 0) 0 (sF S 0)) 4)); omega) dL_act_20 ?_
    have hnum : blN ((x >>> (nI 1 &&& 31))) 13 = numN x := (if_neg c_10).symm
    rw [hnum]
    refine lv_istore_n (lv' := [(3, .int (nI (numN x))), (0, .ref (aX ad)), (1, .ref mo), (2, .int x)]) hx hb dL_act_23 rfl hl (by decide) rfl (fun ls hl => ?_)
    refine lv_iload_n hx hb dL_act_24 rfl (lv_at hl 3 rfl) ?_
    refine lv_bipush (v := nI 9) hx hb dL_act_25 (by decide) ?_
    refine lv_ishr hx hb dL_act_27 ?_
    refine lv_bipush (v := nI 18) hx hb dL_act_28 (by decide) ?_
    have hbl30 : blN ((x >>> (nI 9 &&& 31))) 18 < 18 := bl_lt _ (by omega)
    refine h_rdS (As := [.int (x >>> (nI 9 &&& 31)), .int (nI 18)]) (rest := []) hF (c_L_below l G hp ((x >>> (nI 9 &&& 31))) 18 (by omega) (by omega)) 2 gL_act_L_below rfl (by decide +kernel) ⟨Nat.le_of_ble_eq_true rfl, Nat.le_of_ble_eq_true rfl⟩ hK0 hV0 rfl hl.1 rfl (Nat.le_of_ble_eq_true rfl) (by show _ ≤ (2 + stC (cmB (vw S 0) 0 (sF S 0)) 4); omega) (by show _ ≤ (65 * (2 + stC (cmB (vw S 0) 0 (sF S 0)) 4)); omega) dL_act_30 ?_
    rw [hsw]
    refine lv_tableIn (off := 121) (tgt := 154) hx hb dL_act_33 (by decide) (by decide) (by decide) (by decide) ?_
    refine lv_iload_n hx hb dL_act_154 rfl (lv_at hl 3 rfl) ?_
    refine lv_iconst (v := nI 2) hx hb dL_act_155 (by decide) ?_
    have hbl156 : blN (x) 2 < 2 := bl_lt _ (by omega)
    refine h_rdS (As := [.int x, .int (nI 2)]) (rest := []) hF (c_L_below l G hp (x) 2 (by omega) (by omega)) 2 gL_act_L_below rfl (by decide +kernel) ⟨Nat.le_of_ble_eq_true rfl, Nat.le_of_ble_eq_true rfl⟩ hK0 hV0 rfl hl.1 rfl (Nat.le_of_ble_eq_true rfl) (by show _ ≤ (2 + stC (cmB (vw S 0) 0 (sF S 0)) 4); omega) (by show _ ≤ (65 * (2 + stC (cmB (vw S 0) 0 (sF S 0)) 4)); omega) dL_act_156 ?_
    refine h_if_ne (a := blN (x) 2) (tgt := 164) hx hb dL_act_159 (by decide) (by omega) (fun c_159 => ?_) (fun c_159 => absurd c_159 h2)
    refine lv_aload_n hx hb dL_act_164 rfl (lv_at hl 2 rfl) ?_
    refine h_get (v := .int (sR S)) hx hb hts hi3 hown hK0 hV0 hm.cmo rfl 0 (by decide) hw0 rfl dL_act_165 ?_
    refine lv_istore (lv' := [(5, .int (sR S)), (3, .int (nI (numN x))), (0, .ref (aX ad)), (1, .ref mo), (2, .int x)]) hx hb dL_act_168 hl (by decide) rfl (fun ls hl => ?_)
    refine lv_aload_n hx hb dL_act_170 rfl (lv_at hl 3 rfl) ?_
    refine lv_iconst (v := nI 1) hx hb dL_act_171 (by decide) ?_
    refine lv_iload_n hx hb dL_act_172 rfl (lv_at hl 4 rfl) ?_
    refine lv_iconst (v := nI 2) hx hb dL_act_173 (by decide) ?_
    refine lv_ishr hx hb dL_act_174 ?_
    refine lv_bipush (v := nI 8) hx hb dL_act_175 (by decide) ?_
    have hbl177 : blN ((x >>> (nI 2 &&& 31))) 8 < 8 := bl_lt _ (by omega)
    refine h_rdS (As := [.int (x >>> (nI 2 &&& 31)), .int (nI 8)]) (rest := [.int (nI 1), .ref mo]) hF (c_L_below l G hp ((x >>> (nI 2 &&& 31))) 8 (by omega) (by omega)) 2 gL_act_L_below rfl (by decide +kernel) ⟨Nat.le_of_ble_eq_true rfl, Nat.le_of_ble_eq_true rfl⟩ hK0 hV0 rfl hl.1 rfl (Nat.le_of_ble_eq_true rfl) (by show _ ≤ (2 + stC (cmB (vw S 0) 0 (sF S 0)) 4); omega) (by show _ ≤ (65 * (2 + stC (cmB (vw S 0) 0 (sF S 0)) 4)); omega) dL_act_177 ?_
    refine h_iaddN hx hb dL_act_180 ?_
    refine h_put (v := .int (nI (1 + blN ((x >>> (nI 2 &&& 31))) 8))) hx hb hts hi3 tyX3 tyX3_ok nmX3 hown hK0 hV0 hA0 hS hm.cmo rfl 0 (by decide) hw0 rfl (by rfl) (by rfl) (Nat.le_of_ble_eq_true rfl) dL_act_181 (fun H locs hV0 hA0 hS => ?_)
    have hE0 := exH.rf.set (hp0 := hp) hm.cmo (e := eO 3 [.int (nI (1 + blN ((x >>> (nI 2 &&& 31))) 8)), .int (nI tm), .int (bM (vw S 0)), .int (sD S), .int (bK (vw S 0)), .ref dk, .ref lv]) rfl
    replace hE := hE.tr hE0
    replace hm : sA mo dk lv lvl row (nI (1 + blN ((x >>> (nI 2 &&& 31))) 8)) tm (sD S) (sF S 0) δ (vw S 0) ω (hput hp mo (eO 3 [.int (nI (1 + blN ((x >>> (nI 2 &&& 31))) 8)), .int (nI tm), .int (bM (vw S 0)), .int (sD S), .int (bK (vw S 0)), .ref dk, .ref lv])) := hm.setO hm.cdk
    have hn := hm.le
    replace hV0 : hV G (hput hp mo (eO 3 [.int (nI (1 + blN ((x >>> (nI 2 &&& 31))) 8)), .int (nI tm), .int (bM (vw S 0)), .int (sD S), .int (bK (vw S 0)), .ref dk, .ref lv])) H := hV0
    replace hA0 : hIn A (hput hp mo (eO 3 [.int (nI (1 + blN ((x >>> (nI 2 &&& 31))) 8)), .int (nI tm), .int (bM (vw S 0)), .int (sD S), .int (bK (vw S 0)), .ref dk, .ref lv])) := hA0
    generalize hput hp mo (eO 3 [.int (nI (1 + blN ((x >>> (nI 2 &&& 31))) 8)), .int (nI tm), .int (bM (vw S 0)), .int (sD S), .int (bK (vw S 0)), .ref dk, .ref lv]) = hp101 at hV0 hA0 hm hE hE0
    replace hC := hC.mvX hE0
    refine lv_aload_n hx hb dL_act_184 rfl (lv_at hl 3 rfl) ?_
    refine h_get (v := .ref dk) hx hb hts hi3 hown hK0 hV0 hm.cmo rfl 5 (by decide) hw1 rfl dL_act_185 ?_
    refine h_alenQ hm.cdk.1 hx hb hK0 hV0 rfl dL_act_188 ?_
    refine lv_aload_n hx hb dL_act_189 rfl (lv_at hl 3 rfl) ?_
    refine h_get (v := .int (nI (1 + blN ((x >>> (nI 2 &&& 31))) 8))) hx hb hts hi3 hown hK0 hV0 hm.cmo rfl 0 (by decide) hw0 rfl dL_act_190 ?_
    refine lv_icmp_lt (tgt := 201) hx hb dL_act_193 (by decide) (fun c_193 => absurd c_193 hlt) (fun c_193 => ?_)
    have hzz : 0 < szR (sF S 0) := ge_pos (r := (1 + blN (x >>> (nI 2 &&& 31)) 8)) (by omega) (by omega) hzd hlt
    refine lv_aload_n hx hb dL_act_196 rfl (lv_at hl 3 rfl) ?_
    refine h_wrV (As := []) (rest := []) hF (c_X3_bind l G A hp101 mo dk lv lvl row (nI (1 + blN ((x >>> (nI 2 &&& 31))) 8)) tm (sD S) (sF S 0) δ (vw S 0) ω hm hI2 hoT hoD hokd hzz hA0) 0 gL_act_X3_bind rfl (by decide +kernel) ⟨Nat.le_of_ble_eq_true rfl, Nat.le_of_ble_eq_true rfl⟩ hK0 hV0 hA hS hm.cmo rfl rfl rfl hl.1 rfl (Nat.le_of_ble_eq_true rfl) ⟨by show _ ≤ (2 + stC (cmB (vw S 0) 0 (sF S 0)) 4); omega, by show _ ≤ (65 * (2 + stC (cmB (vw S 0) 0 (sF S 0)) 4)); omega⟩ dL_act_197 (fun ro hp2 H locs hP1 hV0 hA0 hS => ?_)
    obtain ⟨rfl, ⟨dk2, lvl2, row2, hm⟩, hE3⟩ := hP1
    replace hC := hC.mvX hE3
    have hn := hm.le
    refine lv_pop hx hb dL_act_200 rfl ?_
    refine lv_aload_n hx hb dL_act_201 rfl (lv_at hl 2 rfl) ?_
    refine lv_aload_n hx hb dL_act_202 rfl (lv_at hl 3 rfl) ?_
    refine h_get (v := .int (nI (1 + blN ((x >>> (nI 2 &&& 31))) 8))) hx hb hts hi3 hown hK0 hV0 hm.cmo rfl 0 (by decide) hw0 rfl dL_act_203 ?_
    refine h_wrV (As := [.int (nI (1 + blN ((x >>> (nI 2 &&& 31))) 8))]) (rest := []) hF (c_X2_setRoom l G A hp2 ad S hC hI (1 + blN (x >>> (nI 2 &&& 31)) 8) (by omega) (by omega) hA0) 1 gL_act_X2_setRoom rfl (by decide +kernel) ⟨Nat.le_of_ble_eq_true rfl, Nat.le_of_ble_eq_true rfl⟩ hK0 hV0 hA hS hC.xo rfl rfl rfl hl.1 rfl (Nat.le_of_ble_eq_true rfl) ⟨by show _ ≤ (2 + stC (cmB (vw S 0) 0 (sF S 0)) 4); omega, by show _ ≤ (65 * (2 + stC (cmB (vw S 0) 0 (sF S 0)) 4)); omega⟩ dL_act_206 (fun ro hp1 H locs hP1 hV0 hA0 hS => ?_)
    rw [if_neg hlt] at hP1
    obtain ⟨rfl, hT⟩ := hP1
    replace hm := hm.ms (cT.skw hC hT)
    have hCn := hT.1
    have hn := hm.le
    refine lv_iload hx hb dL_act_209 (lv_at hl 0 rfl) ?_
    refine lv_icmp_ne (tgt := 218) hx hb dL_act_211 (by decide) (fun c_211 => absurd rfl c_211) (fun c_211 => ?_)
    refine lv_iconst (v := nI 1) hx hb dL_act_214 (by decide) ?_
    refine lv_goto (tgt := 219) hx hb dL_act_215 (by decide) ?_
    refine W.widen (k := (2 + stC (cmB (vw S 0) 0 (sF S 0)) 4)) (n := (65 * (2 + stC (cmB (vw S 0) 0 (sF S 0)) 4))) (by omega) (by omega) ?_
    exact W.zret hx hb hr (by first | exact narrow_bI _ | rfl) (h_qW ⟨rfl, _, G_mono (G_roomB hg hnk hvk hokd (by omega) (by omega) hzz hCn hm) (by omega) (by omega) (by omega), by have := K_roomB (v := nI (1 + blN (x >>> (nI 2 &&& 31)) 8)) hnk hI hvk hokd hzz; omega⟩ hV0 hA0 hS) hS.2.2 dL_act_219 hlocks
  · refine lv_bipush (v := nI 64) hx hb dL_act_13 (by decide) ?_
    refine lv_goto (tgt := 20) hx hb dL_act_15 (by decide) ?_
    have hbl20 : blN ((x >>> (nI 1 &&& 31))) 64 < 64 := bl_lt _ (by omega)
    refine h_rdS (As := [.int (x >>> (nI 1 &&& 31)), .int (nI 64)]) (rest := []) hF (c_L_below l G hp ((x >>> (nI 1 &&& 31))) 64 (by omega) (by omega)) 2 gL_act_L_below rfl (by decide +kernel) ⟨Nat.le_of_ble_eq_true rfl, Nat.le_of_ble_eq_true rfl⟩ hK0 hV0 rfl hl.1 rfl (Nat.le_of_ble_eq_true rfl) (by show _ ≤ (2 + stC (cmB (vw S 0) 0 (sF S 0)) 4); omega) (by show _ ≤ (65 * (2 + stC (cmB (vw S 0) 0 (sF S 0)) 4)); omega) dL_act_20 ?_
    have hnum : blN ((x >>> (nI 1 &&& 31))) 64 = numN x := (if_pos c_10).symm
    rw [hnum]
    refine lv_istore_n (lv' := [(3, .int (nI (numN x))), (0, .ref (aX ad)), (1, .ref mo), (2, .int x)]) hx hb dL_act_23 rfl hl (by decide) rfl (fun ls hl => ?_)
    refine lv_iload_n hx hb dL_act_24 rfl (lv_at hl 3 rfl) ?_
    refine lv_bipush (v := nI 9) hx hb dL_act_25 (by decide) ?_
    refine lv_ishr hx hb dL_act_27 ?_
    refine lv_bipush (v := nI 18) hx hb dL_act_28 (by decide) ?_
    have hbl30 : blN ((x >>> (nI 9 &&& 31))) 18 < 18 := bl_lt _ (by omega)
    refine h_rdS (As := [.int (x >>> (nI 9 &&& 31)), .int (nI 18)]) (rest := []) hF (c_L_below l G hp ((x >>> (nI 9 &&& 31))) 18 (by omega) (by omega)) 2 gL_act_L_below rfl (by decide +kernel) ⟨Nat.le_of_ble_eq_true rfl, Nat.le_of_ble_eq_true rfl⟩ hK0 hV0 rfl hl.1 rfl (Nat.le_of_ble_eq_true rfl) (by show _ ≤ (2 + stC (cmB (vw S 0) 0 (sF S 0)) 4); omega) (by show _ ≤ (65 * (2 + stC (cmB (vw S 0) 0 (sF S 0)) 4)); omega) dL_act_30 ?_
    rw [hsw]
    refine lv_tableIn (off := 121) (tgt := 154) hx hb dL_act_33 (by decide) (by decide) (by decide) (by decide) ?_
    refine lv_iload_n hx hb dL_act_154 rfl (lv_at hl 3 rfl) ?_
    refine lv_iconst (v := nI 2) hx hb dL_act_155 (by decide) ?_
    have hbl156 : blN (x) 2 < 2 := bl_lt _ (by omega)
    refine h_rdS (As := [.int x, .int (nI 2)]) (rest := []) hF (c_L_below l G hp (x) 2 (by omega) (by omega)) 2 gL_act_L_below rfl (by decide +kernel) ⟨Nat.le_of_ble_eq_true rfl, Nat.le_of_ble_eq_true rfl⟩ hK0 hV0 rfl hl.1 rfl (Nat.le_of_ble_eq_true rfl) (by show _ ≤ (2 + stC (cmB (vw S 0) 0 (sF S 0)) 4); omega) (by show _ ≤ (65 * (2 + stC (cmB (vw S 0) 0 (sF S 0)) 4)); omega) dL_act_156 ?_
    refine h_if_ne (a := blN (x) 2) (tgt := 164) hx hb dL_act_159 (by decide) (by omega) (fun c_159 => ?_) (fun c_159 => absurd c_159 h2)
    refine lv_aload_n hx hb dL_act_164 rfl (lv_at hl 2 rfl) ?_
    refine h_get (v := .int (sR S)) hx hb hts hi3 hown hK0 hV0 hm.cmo rfl 0 (by decide) hw0 rfl dL_act_165 ?_
    refine lv_istore (lv' := [(5, .int (sR S)), (3, .int (nI (numN x))), (0, .ref (aX ad)), (1, .ref mo), (2, .int x)]) hx hb dL_act_168 hl (by decide) rfl (fun ls hl => ?_)
    refine lv_aload_n hx hb dL_act_170 rfl (lv_at hl 3 rfl) ?_
    refine lv_iconst (v := nI 1) hx hb dL_act_171 (by decide) ?_
    refine lv_iload_n hx hb dL_act_172 rfl (lv_at hl 4 rfl) ?_
    refine lv_iconst (v := nI 2) hx hb dL_act_173 (by decide) ?_
    refine lv_ishr hx hb dL_act_174 ?_
    refine lv_bipush (v := nI 8) hx hb dL_act_175 (by decide) ?_
    have hbl177 : blN ((x >>> (nI 2 &&& 31))) 8 < 8 := bl_lt _ (by omega)
    refine h_rdS (As := [.int (x >>> (nI 2 &&& 31)), .int (nI 8)]) (rest := [.int (nI 1), .ref mo]) hF (c_L_below l G hp ((x >>> (nI 2 &&& 31))) 8 (by omega) (by omega)) 2 gL_act_L_below rfl (by decide +kernel) ⟨Nat.le_of_ble_eq_true rfl, Nat.le_of_ble_eq_true rfl⟩ hK0 hV0 rfl hl.1 rfl (Nat.le_of_ble_eq_true rfl) (by show _ ≤ (2 + stC (cmB (vw S 0) 0 (sF S 0)) 4); omega) (by show _ ≤ (65 * (2 + stC (cmB (vw S 0) 0 (sF S 0)) 4)); omega) dL_act_177 ?_
    refine h_iaddN hx hb dL_act_180 ?_
    refine h_put (v := .int (nI (1 + blN ((x >>> (nI 2 &&& 31))) 8))) hx hb hts hi3 tyX3 tyX3_ok nmX3 hown hK0 hV0 hA0 hS hm.cmo rfl 0 (by decide) hw0 rfl (by rfl) (by rfl) (Nat.le_of_ble_eq_true rfl) dL_act_181 (fun H locs hV0 hA0 hS => ?_)
    have hE0 := exH.rf.set (hp0 := hp) hm.cmo (e := eO 3 [.int (nI (1 + blN ((x >>> (nI 2 &&& 31))) 8)), .int (nI tm), .int (bM (vw S 0)), .int (sD S), .int (bK (vw S 0)), .ref dk, .ref lv]) rfl
    replace hE := hE.tr hE0
    replace hm : sA mo dk lv lvl row (nI (1 + blN ((x >>> (nI 2 &&& 31))) 8)) tm (sD S) (sF S 0) δ (vw S 0) ω (hput hp mo (eO 3 [.int (nI (1 + blN ((x >>> (nI 2 &&& 31))) 8)), .int (nI tm), .int (bM (vw S 0)), .int (sD S), .int (bK (vw S 0)), .ref dk, .ref lv])) := hm.setO hm.cdk
    have hn := hm.le
    replace hV0 : hV G (hput hp mo (eO 3 [.int (nI (1 + blN ((x >>> (nI 2 &&& 31))) 8)), .int (nI tm), .int (bM (vw S 0)), .int (sD S), .int (bK (vw S 0)), .ref dk, .ref lv])) H := hV0
    replace hA0 : hIn A (hput hp mo (eO 3 [.int (nI (1 + blN ((x >>> (nI 2 &&& 31))) 8)), .int (nI tm), .int (bM (vw S 0)), .int (sD S), .int (bK (vw S 0)), .ref dk, .ref lv])) := hA0
    generalize hput hp mo (eO 3 [.int (nI (1 + blN ((x >>> (nI 2 &&& 31))) 8)), .int (nI tm), .int (bM (vw S 0)), .int (sD S), .int (bK (vw S 0)), .ref dk, .ref lv]) = hp102 at hV0 hA0 hm hE hE0
    replace hC := hC.mvX hE0
    refine lv_aload_n hx hb dL_act_184 rfl (lv_at hl 3 rfl) ?_
    refine h_get (v := .ref dk) hx hb hts hi3 hown hK0 hV0 hm.cmo rfl 5 (by decide) hw1 rfl dL_act_185 ?_
    refine h_alenQ hm.cdk.1 hx hb hK0 hV0 rfl dL_act_188 ?_
    refine lv_aload_n hx hb dL_act_189 rfl (lv_at hl 3 rfl) ?_
    refine h_get (v := .int (nI (1 + blN ((x >>> (nI 2 &&& 31))) 8))) hx hb hts hi3 hown hK0 hV0 hm.cmo rfl 0 (by decide) hw0 rfl dL_act_190 ?_
    refine lv_icmp_lt (tgt := 201) hx hb dL_act_193 (by decide) (fun c_193 => absurd c_193 hlt) (fun c_193 => ?_)
    have hzz : 0 < szR (sF S 0) := ge_pos (r := (1 + blN (x >>> (nI 2 &&& 31)) 8)) (by omega) (by omega) hzd hlt
    refine lv_aload_n hx hb dL_act_196 rfl (lv_at hl 3 rfl) ?_
    refine h_wrV (As := []) (rest := []) hF (c_X3_bind l G A hp102 mo dk lv lvl row (nI (1 + blN ((x >>> (nI 2 &&& 31))) 8)) tm (sD S) (sF S 0) δ (vw S 0) ω hm hI2 hoT hoD hokd hzz hA0) 0 gL_act_X3_bind rfl (by decide +kernel) ⟨Nat.le_of_ble_eq_true rfl, Nat.le_of_ble_eq_true rfl⟩ hK0 hV0 hA hS hm.cmo rfl rfl rfl hl.1 rfl (Nat.le_of_ble_eq_true rfl) ⟨by show _ ≤ (2 + stC (cmB (vw S 0) 0 (sF S 0)) 4); omega, by show _ ≤ (65 * (2 + stC (cmB (vw S 0) 0 (sF S 0)) 4)); omega⟩ dL_act_197 (fun ro hp2 H locs hP1 hV0 hA0 hS => ?_)
    obtain ⟨rfl, ⟨dk2, lvl2, row2, hm⟩, hE3⟩ := hP1
    replace hC := hC.mvX hE3
    have hn := hm.le
    refine lv_pop hx hb dL_act_200 rfl ?_
    refine lv_aload_n hx hb dL_act_201 rfl (lv_at hl 2 rfl) ?_
    refine lv_aload_n hx hb dL_act_202 rfl (lv_at hl 3 rfl) ?_
    refine h_get (v := .int (nI (1 + blN ((x >>> (nI 2 &&& 31))) 8))) hx hb hts hi3 hown hK0 hV0 hm.cmo rfl 0 (by decide) hw0 rfl dL_act_203 ?_
    refine h_wrV (As := [.int (nI (1 + blN ((x >>> (nI 2 &&& 31))) 8))]) (rest := []) hF (c_X2_setRoom l G A hp2 ad S hC hI (1 + blN (x >>> (nI 2 &&& 31)) 8) (by omega) (by omega) hA0) 1 gL_act_X2_setRoom rfl (by decide +kernel) ⟨Nat.le_of_ble_eq_true rfl, Nat.le_of_ble_eq_true rfl⟩ hK0 hV0 hA hS hC.xo rfl rfl rfl hl.1 rfl (Nat.le_of_ble_eq_true rfl) ⟨by show _ ≤ (2 + stC (cmB (vw S 0) 0 (sF S 0)) 4); omega, by show _ ≤ (65 * (2 + stC (cmB (vw S 0) 0 (sF S 0)) 4)); omega⟩ dL_act_206 (fun ro hp1 H locs hP1 hV0 hA0 hS => ?_)
    rw [if_neg hlt] at hP1
    obtain ⟨rfl, hT⟩ := hP1
    replace hm := hm.ms (cT.skw hC hT)
    have hCn := hT.1
    have hn := hm.le
    refine lv_iload hx hb dL_act_209 (lv_at hl 0 rfl) ?_
    refine lv_icmp_ne (tgt := 218) hx hb dL_act_211 (by decide) (fun c_211 => absurd rfl c_211) (fun c_211 => ?_)
    refine lv_iconst (v := nI 1) hx hb dL_act_214 (by decide) ?_
    refine lv_goto (tgt := 219) hx hb dL_act_215 (by decide) ?_
    refine W.widen (k := (2 + stC (cmB (vw S 0) 0 (sF S 0)) 4)) (n := (65 * (2 + stC (cmB (vw S 0) 0 (sF S 0)) 4))) (by omega) (by omega) ?_
    exact W.zret hx hb hr (by first | exact narrow_bI _ | rfl) (h_qW ⟨rfl, _, G_mono (G_roomB hg hnk hvk hokd (by omega) (by omega) hzz hCn hm) (by omega) (by omega) (by omega), by have := K_roomB (v := nI (1 + blN (x >>> (nI 2 &&& 31)) 8)) hnk hI hvk hokd hzz; omega⟩ hV0 hA0 hS) hS.2.2 dL_act_219 hlocks

set_option maxHeartbeats 1000000 in
set_option maxRecDepth 100000 in
theorem c_act_3 (l : Launch) (G : hG) (A : Nat → Prop) (hp : HP) (ad : Nat → Nat) (S : CS) (hC : cW ad S hp) (mo dk lv : Nat) (lvl : Nat → Nat) (row : Nat → Nat → Nat) (tm : Nat) (δ : TG) (ω : TS) (hm : sA mo dk lv lvl row (sR S) tm (sD S) (sF S 0) δ (vw S 0) ω hp) (tb mb gb : Nat) (hg : gI tb mb gb S tm δ ω) (htb : tb < 1000) (x : Int32) (hsw : blN (x >>> (nI 9 &&& 31)) 18 = 3 ∨ blN (x >>> (nI 9 &&& 31)) 18 = 4) (hA0 : hIn A hp) : hWr l yL_act wsL_act 7 157 (0) (65 * (0)) G A hp [.ref (aX ad), .ref mo, .int x] (fun ro hp' => ro = some (.int (bI true)) ∧ ∃ S2, gX ad mo lv (tb + 1) (mb + 320) (gb + 5) S2 hp' ∧ 0 + gS S2 ≤ gS S + 600) := by
  refine Met.ofW (cc := cL_act) (maxL := 7) (ret := (some .boolean)) (by decide) rfl ?_
  intro p e s m args below meth c s₁ B hml hv
  obtain ⟨rfl, hV0, hK0, hA⟩ := hv
  have hx := B.exec
  have hb := B.bytes
  have hr := B.returns
  have hts := atoms_spec (ws := wsL_act) B.pre
  have hown : s.vm.findClass RL = some m.cls := findClass_of_methodNamed B.named
  have hlocks := B.notSynchronized
  have hF : CallFix p m c cL_act 7 s [.ref (aX ad), .ref mo, .int x].toArray wsL_act RL := ⟨hx, hb, hml, hown, hts⟩
  have hw0 := hts (.fieldLink RL 46 "SlipLevelsLaw$Sim" "detours" "I") (by decide +kernel)
  have hi3 : ∀ w ∈ u_ws RX3 TX3 7, w ∈ wsL_act := by
    intro w h
    unfold wsL_act
    simp only [List.mem_cons, List.mem_append, h, true_or, or_true]
  have hS : va_S A s.heap s.heap [] := va_S.rf
  have hl := lv_entry ([.ref (aX ad), .ref mo, .int x]) (n := 7) (Nat.le_of_ble_eq_true rfl)
  rw [lg_entry_eq]
  generalize (lg_sl ([.ref (aX ad), .ref mo, .int x]) ++ List.replicate (7 - (lg_sl ([.ref (aX ad), .ref mo, .int x])).length) Slot.unset).toArray = ls at hl ⊢
  replace hl : lv_has ls 7 [(0, .ref (aX ad)), (1, .ref mo), (2, .int x)] := hl
  have hn := hm.le
  have hn9l := numN_lt x
  obtain ⟨hI, hoT, hoD, htd, htg, ⟨r9, hr1, hr2, hr3⟩, hmv, hmg, htm9⟩ := id hg
  have hnk := hC.ok.n
  have hvk := hm.v
  have hokd : okR (sF S 0) := hC.ok.1 0
  have hI2 : ∀ l, l < 4 → bN (vw S 0) l ≤ 2 := fun l hl => hI l hl
  have hE : exH hp hp := exH.rf
  have hzd := szR_le (sF S 0)
  refine lv_iload_n hx hb dL_act_0 rfl (lv_at hl 2 rfl) ?_
  refine lv_iconst (v := nI 1) hx hb dL_act_1 (by decide) ?_
  refine lv_ishr hx hb dL_act_2 ?_
  refine lv_iload_n hx hb dL_act_3 rfl (lv_at hl 2 rfl) ?_
  refine lv_iconst (v := nI 5) hx hb dL_act_4 (by decide) ?_
  refine lv_ishr hx hb dL_act_5 ?_
  refine lv_iconst (v := nI 3) hx hb dL_act_6 (by decide) ?_
  have hbl7 : blN ((x >>> (nI 5 &&& 31))) 3 < 3 := bl_lt _ (by omega)
  refine h_rdS (As := [.int (x >>> (nI 5 &&& 31)), .int (nI 3)]) (rest := [.int (x >>> (nI 1 &&& 31))]) hF (c_L_below l G hp ((x >>> (nI 5 &&& 31))) 3 (by omega) (by omega)) 2 gL_act_L_below rfl (by decide +kernel) ⟨Nat.le_of_ble_eq_true rfl, Nat.le_of_ble_eq_true rfl⟩ hK0 hV0 rfl hl.1 rfl (Nat.le_of_ble_eq_true rfl) (by show _ ≤ (0); omega) (by show _ ≤ (65 * (0)); omega) dL_act_7 ?_
  refine h_if_ne (a := blN ((x >>> (nI 5 &&& 31))) 3) (tgt := 18) hx hb dL_act_10 (by decide) (by omega) (fun c_10 => ?_) (fun c_10 => ?_)
  · refine lv_bipush (v := nI 13) hx hb dL_act_18 (by decide) ?_
    have hbl20 : blN ((x >>> (nI 1 &&& 31))) 13 < 13 := bl_lt _ (by omega)
    refine h_rdS (As := [.int (x >>> (nI 1 &&& 31)), .int (nI 13)]) (rest := []) hF (c_L_below l G hp ((x >>> (nI 1 &&& 31))) 13 (by omega) (by omega)) 2 gL_act_L_below rfl (by decide +kernel) ⟨Nat.le_of_ble_eq_true rfl, Nat.le_of_ble_eq_true rfl⟩ hK0 hV0 rfl hl.1 rfl (Nat.le_of_ble_eq_true rfl) (by show _ ≤ (0); omega) (by show _ ≤ (65 * (0)); omega) dL_act_20 ?_
    have hnum : blN ((x >>> (nI 1 &&& 31))) 13 = numN x := (if_neg c_10).symm
    rw [hnum]
    refine lv_istore_n (lv' := [(3, .int (nI (numN x))), (0, .ref (aX ad)), (1, .ref mo), (2, .int x)]) hx hb dL_act_23 rfl hl (by decide) rfl (fun ls hl => ?_)
    refine lv_iload_n hx hb dL_act_24 rfl (lv_at hl 3 rfl) ?_
    refine lv_bipush (v := nI 9) hx hb dL_act_25 (by decide) ?_
    refine lv_ishr hx hb dL_act_27 ?_
    refine lv_bipush (v := nI 18) hx hb dL_act_28 (by decide) ?_
    have hbl30 : blN ((x >>> (nI 9 &&& 31))) 18 < 18 := bl_lt _ (by omega)
    refine h_rdS (As := [.int (x >>> (nI 9 &&& 31)), .int (nI 18)]) (rest := []) hF (c_L_below l G hp ((x >>> (nI 9 &&& 31))) 18 (by omega) (by omega)) 2 gL_act_L_below rfl (by decide +kernel) ⟨Nat.le_of_ble_eq_true rfl, Nat.le_of_ble_eq_true rfl⟩ hK0 hV0 rfl hl.1 rfl (Nat.le_of_ble_eq_true rfl) (by show _ ≤ (0); omega) (by show _ ≤ (65 * (0)); omega) dL_act_30 ?_
    rcases hsw with hsw | hsw
    · rw [hsw]
      refine lv_tableIn (off := 187) (tgt := 220) hx hb dL_act_33 (by decide) (by decide) (by decide) (by decide) ?_
      refine lv_aload_n hx hb dL_act_220 rfl (lv_at hl 2 rfl) ?_
      refine lv_dup hx hb dL_act_221 rfl ?_
      refine h_get (v := .int (sD S)) hx hb hts hi3 hown hK0 hV0 hm.cmo rfl 3 (by decide) hw0 rfl dL_act_222 ?_
      refine lv_aload_n hx hb dL_act_225 rfl (lv_at hl 2 rfl) ?_
      refine lv_iload_n hx hb dL_act_226 rfl (lv_at hl 0 rfl) ?_
      refine h_rdV (As := [.int (nI (numN x))]) (rest := [.int (sD S), .ref mo]) hF (c_X3_opened l G hp mo dk lv lvl row (sR S) tm (sD S) (sF S 0) δ (vw S 0) ω hm (numN x) (by omega)) 1 gL_act_X3_opened rfl (by decide +kernel) ⟨Nat.le_of_ble_eq_true rfl, Nat.le_of_ble_eq_true rfl⟩ hK0 hV0 hm.cmo rfl rfl rfl hl.1 rfl (Nat.le_of_ble_eq_true rfl) (by show _ ≤ (0); omega) (by show _ ≤ (65 * (0)); omega) dL_act_227 ?_
      refine lv_iadd hx hb dL_act_230 ?_
      refine h_put (v := .int ((sD S) + nI (dtS (sF S 0) (bN (vw S 0)) (bG (vw S 0)) (numN x)))) hx hb hts hi3 tyX3 tyX3_ok nmX3 hown hK0 hV0 hA0 hS hm.cmo rfl 3 (by decide) hw0 rfl (by rfl) (by rfl) (Nat.le_of_ble_eq_true rfl) dL_act_231 (fun H locs hV0 hA0 hS => ?_)
      have hE0 := exH.rf.set (hp0 := hp) hm.cmo (e := eO 3 [.int (sR S), .int (nI tm), .int (bM (vw S 0)), .int (((sD S) + nI (dtS (sF S 0) (bN (vw S 0)) (bG (vw S 0)) (numN x)))), .int (bK (vw S 0)), .ref dk, .ref lv]) rfl
      replace hE := hE.tr hE0
      replace hm : sA mo dk lv lvl row (sR S) tm (((sD S) + nI (dtS (sF S 0) (bN (vw S 0)) (bG (vw S 0)) (numN x)))) (sF S 0) δ (vw S 0) ω (hput hp mo (eO 3 [.int (sR S), .int (nI tm), .int (bM (vw S 0)), .int (((sD S) + nI (dtS (sF S 0) (bN (vw S 0)) (bG (vw S 0)) (numN x)))), .int (bK (vw S 0)), .ref dk, .ref lv])) := hm.setO hm.cdk
      have hn := hm.le
      replace hV0 : hV G (hput hp mo (eO 3 [.int (sR S), .int (nI tm), .int (bM (vw S 0)), .int (((sD S) + nI (dtS (sF S 0) (bN (vw S 0)) (bG (vw S 0)) (numN x)))), .int (bK (vw S 0)), .ref dk, .ref lv])) H := hV0
      replace hA0 : hIn A (hput hp mo (eO 3 [.int (sR S), .int (nI tm), .int (bM (vw S 0)), .int (((sD S) + nI (dtS (sF S 0) (bN (vw S 0)) (bG (vw S 0)) (numN x)))), .int (bK (vw S 0)), .ref dk, .ref lv])) := hA0
      generalize hput hp mo (eO 3 [.int (sR S), .int (nI tm), .int (bM (vw S 0)), .int (((sD S) + nI (dtS (sF S 0) (bN (vw S 0)) (bG (vw S 0)) (numN x)))), .int (bK (vw S 0)), .ref dk, .ref lv]) = hp101 at hV0 hA0 hm hE hE0
      replace hC := hC.mvX hE0
      refine lv_aload_n hx hb dL_act_234 rfl (lv_at hl 1 rfl) ?_
      refine lv_iload_n hx hb dL_act_235 rfl (lv_at hl 0 rfl) ?_
      refine h_wrV (As := [.int (nI (numN x))]) (rest := []) hF (c_X2_read l G A hp101 ad S hC hI (numN x) (by omega) hA0) 1 gL_act_X2_read rfl (by decide +kernel) ⟨Nat.le_of_ble_eq_true rfl, Nat.le_of_ble_eq_true rfl⟩ hK0 hV0 hA hS hC.xo rfl rfl rfl hl.1 rfl (Nat.le_of_ble_eq_true rfl) ⟨by show _ ≤ (0); omega, by show _ ≤ (65 * (0)); omega⟩ dL_act_236 (fun ro hp1 H locs hP1 hV0 hA0 hS => ?_)
      obtain ⟨rfl, hT⟩ := hP1
      replace hm := hm.ms (cT.skw hC hT)
      have hCn := hT.1
      have hn := hm.le
      refine lv_aload_n hx hb dL_act_239 rfl (lv_at hl 2 rfl) ?_
      refine lv_iload_n hx hb dL_act_240 rfl (lv_at hl 0 rfl) ?_
      refine h_rdV (As := [.int (nI (numN x))]) (rest := [.int (wdS (sF S 0) (sN S 0) (gC S 0) (numN x))]) hF (c_X3_word l G hp1 mo dk lv lvl row (sR S) tm (((sD S) + nI (dtS (sF S 0) (bN (vw S 0)) (bG (vw S 0)) (numN x)))) (sF S 0) δ (vw S 0) ω hm hoT hoD hokd (numN x) (by omega)) 1 gL_act_X3_word rfl (by decide +kernel) ⟨Nat.le_of_ble_eq_true rfl, Nat.le_of_ble_eq_true rfl⟩ hK0 hV0 hm.cmo rfl rfl rfl hl.1 rfl (Nat.le_of_ble_eq_true rfl) (by show _ ≤ (0); omega) (by show _ ≤ (65 * (0)); omega) dL_act_241 ?_
      refine lv_icmp_ne (tgt := 251) hx hb dL_act_244 (by decide) (fun c_244 => absurd rfl c_244) (fun c_244 => ?_)
      refine lv_iconst (v := nI 1) hx hb dL_act_247 (by decide) ?_
      refine lv_goto (tgt := 252) hx hb dL_act_248 (by decide) ?_
      refine W.widen (k := (0)) (n := (65 * (0))) (by omega) (by omega) ?_
      exact W.zret hx hb hr (by first | exact narrow_bI _ | rfl) (h_qW ⟨rfl, uD S (sD S + nI (dtS (sF S 0) (bN (vw S 0)) (bG (vw S 0)) (numN x))), G_mono (G_read hg hCn hm) (by omega) (by omega) (by omega), by rw [gS_uD]; omega⟩ hV0 hA0 hS) hS.2.2 dL_act_252 hlocks
    · rw [hsw]
      refine lv_tableIn (off := 187) (tgt := 220) hx hb dL_act_33 (by decide) (by decide) (by decide) (by decide) ?_
      refine lv_aload_n hx hb dL_act_220 rfl (lv_at hl 2 rfl) ?_
      refine lv_dup hx hb dL_act_221 rfl ?_
      refine h_get (v := .int (sD S)) hx hb hts hi3 hown hK0 hV0 hm.cmo rfl 3 (by decide) hw0 rfl dL_act_222 ?_
      refine lv_aload_n hx hb dL_act_225 rfl (lv_at hl 2 rfl) ?_
      refine lv_iload_n hx hb dL_act_226 rfl (lv_at hl 0 rfl) ?_
      refine h_rdV (As := [.int (nI (numN x))]) (rest := [.int (sD S), .ref mo]) hF (c_X3_opened l G hp mo dk lv lvl row (sR S) tm (sD S) (sF S 0) δ (vw S 0) ω hm (numN x) (by omega)) 1 gL_act_X3_opened rfl (by decide +kernel) ⟨Nat.le_of_ble_eq_true rfl, Nat.le_of_ble_eq_true rfl⟩ hK0 hV0 hm.cmo rfl rfl rfl hl.1 rfl (Nat.le_of_ble_eq_true rfl) (by show _ ≤ (0); omega) (by show _ ≤ (65 * (0)); omega) dL_act_227 ?_
      refine lv_iadd hx hb dL_act_230 ?_
      refine h_put (v := .int ((sD S) + nI (dtS (sF S 0) (bN (vw S 0)) (bG (vw S 0)) (numN x)))) hx hb hts hi3 tyX3 tyX3_ok nmX3 hown hK0 hV0 hA0 hS hm.cmo rfl 3 (by decide) hw0 rfl (by rfl) (by rfl) (Nat.le_of_ble_eq_true rfl) dL_act_231 (fun H locs hV0 hA0 hS => ?_)
      have hE0 := exH.rf.set (hp0 := hp) hm.cmo (e := eO 3 [.int (sR S), .int (nI tm), .int (bM (vw S 0)), .int (((sD S) + nI (dtS (sF S 0) (bN (vw S 0)) (bG (vw S 0)) (numN x)))), .int (bK (vw S 0)), .ref dk, .ref lv]) rfl
      replace hE := hE.tr hE0
      replace hm : sA mo dk lv lvl row (sR S) tm (((sD S) + nI (dtS (sF S 0) (bN (vw S 0)) (bG (vw S 0)) (numN x)))) (sF S 0) δ (vw S 0) ω (hput hp mo (eO 3 [.int (sR S), .int (nI tm), .int (bM (vw S 0)), .int (((sD S) + nI (dtS (sF S 0) (bN (vw S 0)) (bG (vw S 0)) (numN x)))), .int (bK (vw S 0)), .ref dk, .ref lv])) := hm.setO hm.cdk
      have hn := hm.le
      replace hV0 : hV G (hput hp mo (eO 3 [.int (sR S), .int (nI tm), .int (bM (vw S 0)), .int (((sD S) + nI (dtS (sF S 0) (bN (vw S 0)) (bG (vw S 0)) (numN x)))), .int (bK (vw S 0)), .ref dk, .ref lv])) H := hV0
      replace hA0 : hIn A (hput hp mo (eO 3 [.int (sR S), .int (nI tm), .int (bM (vw S 0)), .int (((sD S) + nI (dtS (sF S 0) (bN (vw S 0)) (bG (vw S 0)) (numN x)))), .int (bK (vw S 0)), .ref dk, .ref lv])) := hA0
      generalize hput hp mo (eO 3 [.int (sR S), .int (nI tm), .int (bM (vw S 0)), .int (((sD S) + nI (dtS (sF S 0) (bN (vw S 0)) (bG (vw S 0)) (numN x)))), .int (bK (vw S 0)), .ref dk, .ref lv]) = hp102 at hV0 hA0 hm hE hE0
      replace hC := hC.mvX hE0
      refine lv_aload_n hx hb dL_act_234 rfl (lv_at hl 1 rfl) ?_
      refine lv_iload_n hx hb dL_act_235 rfl (lv_at hl 0 rfl) ?_
      refine h_wrV (As := [.int (nI (numN x))]) (rest := []) hF (c_X2_read l G A hp102 ad S hC hI (numN x) (by omega) hA0) 1 gL_act_X2_read rfl (by decide +kernel) ⟨Nat.le_of_ble_eq_true rfl, Nat.le_of_ble_eq_true rfl⟩ hK0 hV0 hA hS hC.xo rfl rfl rfl hl.1 rfl (Nat.le_of_ble_eq_true rfl) ⟨by show _ ≤ (0); omega, by show _ ≤ (65 * (0)); omega⟩ dL_act_236 (fun ro hp1 H locs hP1 hV0 hA0 hS => ?_)
      obtain ⟨rfl, hT⟩ := hP1
      replace hm := hm.ms (cT.skw hC hT)
      have hCn := hT.1
      have hn := hm.le
      refine lv_aload_n hx hb dL_act_239 rfl (lv_at hl 2 rfl) ?_
      refine lv_iload_n hx hb dL_act_240 rfl (lv_at hl 0 rfl) ?_
      refine h_rdV (As := [.int (nI (numN x))]) (rest := [.int (wdS (sF S 0) (sN S 0) (gC S 0) (numN x))]) hF (c_X3_word l G hp1 mo dk lv lvl row (sR S) tm (((sD S) + nI (dtS (sF S 0) (bN (vw S 0)) (bG (vw S 0)) (numN x)))) (sF S 0) δ (vw S 0) ω hm hoT hoD hokd (numN x) (by omega)) 1 gL_act_X3_word rfl (by decide +kernel) ⟨Nat.le_of_ble_eq_true rfl, Nat.le_of_ble_eq_true rfl⟩ hK0 hV0 hm.cmo rfl rfl rfl hl.1 rfl (Nat.le_of_ble_eq_true rfl) (by show _ ≤ (0); omega) (by show _ ≤ (65 * (0)); omega) dL_act_241 ?_
      refine lv_icmp_ne (tgt := 251) hx hb dL_act_244 (by decide) (fun c_244 => absurd rfl c_244) (fun c_244 => ?_)
      refine lv_iconst (v := nI 1) hx hb dL_act_247 (by decide) ?_
      refine lv_goto (tgt := 252) hx hb dL_act_248 (by decide) ?_
      refine W.widen (k := (0)) (n := (65 * (0))) (by omega) (by omega) ?_
      exact W.zret hx hb hr (by first | exact narrow_bI _ | rfl) (h_qW ⟨rfl, uD S (sD S + nI (dtS (sF S 0) (bN (vw S 0)) (bG (vw S 0)) (numN x))), G_mono (G_read hg hCn hm) (by omega) (by omega) (by omega), by rw [gS_uD]; omega⟩ hV0 hA0 hS) hS.2.2 dL_act_252 hlocks
  · refine lv_bipush (v := nI 64) hx hb dL_act_13 (by decide) ?_
    refine lv_goto (tgt := 20) hx hb dL_act_15 (by decide) ?_
    have hbl20 : blN ((x >>> (nI 1 &&& 31))) 64 < 64 := bl_lt _ (by omega)
    refine h_rdS (As := [.int (x >>> (nI 1 &&& 31)), .int (nI 64)]) (rest := []) hF (c_L_below l G hp ((x >>> (nI 1 &&& 31))) 64 (by omega) (by omega)) 2 gL_act_L_below rfl (by decide +kernel) ⟨Nat.le_of_ble_eq_true rfl, Nat.le_of_ble_eq_true rfl⟩ hK0 hV0 rfl hl.1 rfl (Nat.le_of_ble_eq_true rfl) (by show _ ≤ (0); omega) (by show _ ≤ (65 * (0)); omega) dL_act_20 ?_
    have hnum : blN ((x >>> (nI 1 &&& 31))) 64 = numN x := (if_pos c_10).symm
    rw [hnum]
    refine lv_istore_n (lv' := [(3, .int (nI (numN x))), (0, .ref (aX ad)), (1, .ref mo), (2, .int x)]) hx hb dL_act_23 rfl hl (by decide) rfl (fun ls hl => ?_)
    refine lv_iload_n hx hb dL_act_24 rfl (lv_at hl 3 rfl) ?_
    refine lv_bipush (v := nI 9) hx hb dL_act_25 (by decide) ?_
    refine lv_ishr hx hb dL_act_27 ?_
    refine lv_bipush (v := nI 18) hx hb dL_act_28 (by decide) ?_
    have hbl30 : blN ((x >>> (nI 9 &&& 31))) 18 < 18 := bl_lt _ (by omega)
    refine h_rdS (As := [.int (x >>> (nI 9 &&& 31)), .int (nI 18)]) (rest := []) hF (c_L_below l G hp ((x >>> (nI 9 &&& 31))) 18 (by omega) (by omega)) 2 gL_act_L_below rfl (by decide +kernel) ⟨Nat.le_of_ble_eq_true rfl, Nat.le_of_ble_eq_true rfl⟩ hK0 hV0 rfl hl.1 rfl (Nat.le_of_ble_eq_true rfl) (by show _ ≤ (0); omega) (by show _ ≤ (65 * (0)); omega) dL_act_30 ?_
    rcases hsw with hsw | hsw
    · rw [hsw]
      refine lv_tableIn (off := 187) (tgt := 220) hx hb dL_act_33 (by decide) (by decide) (by decide) (by decide) ?_
      refine lv_aload_n hx hb dL_act_220 rfl (lv_at hl 2 rfl) ?_
      refine lv_dup hx hb dL_act_221 rfl ?_
      refine h_get (v := .int (sD S)) hx hb hts hi3 hown hK0 hV0 hm.cmo rfl 3 (by decide) hw0 rfl dL_act_222 ?_
      refine lv_aload_n hx hb dL_act_225 rfl (lv_at hl 2 rfl) ?_
      refine lv_iload_n hx hb dL_act_226 rfl (lv_at hl 0 rfl) ?_
      refine h_rdV (As := [.int (nI (numN x))]) (rest := [.int (sD S), .ref mo]) hF (c_X3_opened l G hp mo dk lv lvl row (sR S) tm (sD S) (sF S 0) δ (vw S 0) ω hm (numN x) (by omega)) 1 gL_act_X3_opened rfl (by decide +kernel) ⟨Nat.le_of_ble_eq_true rfl, Nat.le_of_ble_eq_true rfl⟩ hK0 hV0 hm.cmo rfl rfl rfl hl.1 rfl (Nat.le_of_ble_eq_true rfl) (by show _ ≤ (0); omega) (by show _ ≤ (65 * (0)); omega) dL_act_227 ?_
      refine lv_iadd hx hb dL_act_230 ?_
      refine h_put (v := .int ((sD S) + nI (dtS (sF S 0) (bN (vw S 0)) (bG (vw S 0)) (numN x)))) hx hb hts hi3 tyX3 tyX3_ok nmX3 hown hK0 hV0 hA0 hS hm.cmo rfl 3 (by decide) hw0 rfl (by rfl) (by rfl) (Nat.le_of_ble_eq_true rfl) dL_act_231 (fun H locs hV0 hA0 hS => ?_)
      have hE0 := exH.rf.set (hp0 := hp) hm.cmo (e := eO 3 [.int (sR S), .int (nI tm), .int (bM (vw S 0)), .int (((sD S) + nI (dtS (sF S 0) (bN (vw S 0)) (bG (vw S 0)) (numN x)))), .int (bK (vw S 0)), .ref dk, .ref lv]) rfl
      replace hE := hE.tr hE0
      replace hm : sA mo dk lv lvl row (sR S) tm (((sD S) + nI (dtS (sF S 0) (bN (vw S 0)) (bG (vw S 0)) (numN x)))) (sF S 0) δ (vw S 0) ω (hput hp mo (eO 3 [.int (sR S), .int (nI tm), .int (bM (vw S 0)), .int (((sD S) + nI (dtS (sF S 0) (bN (vw S 0)) (bG (vw S 0)) (numN x)))), .int (bK (vw S 0)), .ref dk, .ref lv])) := hm.setO hm.cdk
      have hn := hm.le
      replace hV0 : hV G (hput hp mo (eO 3 [.int (sR S), .int (nI tm), .int (bM (vw S 0)), .int (((sD S) + nI (dtS (sF S 0) (bN (vw S 0)) (bG (vw S 0)) (numN x)))), .int (bK (vw S 0)), .ref dk, .ref lv])) H := hV0
      replace hA0 : hIn A (hput hp mo (eO 3 [.int (sR S), .int (nI tm), .int (bM (vw S 0)), .int (((sD S) + nI (dtS (sF S 0) (bN (vw S 0)) (bG (vw S 0)) (numN x)))), .int (bK (vw S 0)), .ref dk, .ref lv])) := hA0
      generalize hput hp mo (eO 3 [.int (sR S), .int (nI tm), .int (bM (vw S 0)), .int (((sD S) + nI (dtS (sF S 0) (bN (vw S 0)) (bG (vw S 0)) (numN x)))), .int (bK (vw S 0)), .ref dk, .ref lv]) = hp103 at hV0 hA0 hm hE hE0
      replace hC := hC.mvX hE0
      refine lv_aload_n hx hb dL_act_234 rfl (lv_at hl 1 rfl) ?_
      refine lv_iload_n hx hb dL_act_235 rfl (lv_at hl 0 rfl) ?_
      refine h_wrV (As := [.int (nI (numN x))]) (rest := []) hF (c_X2_read l G A hp103 ad S hC hI (numN x) (by omega) hA0) 1 gL_act_X2_read rfl (by decide +kernel) ⟨Nat.le_of_ble_eq_true rfl, Nat.le_of_ble_eq_true rfl⟩ hK0 hV0 hA hS hC.xo rfl rfl rfl hl.1 rfl (Nat.le_of_ble_eq_true rfl) ⟨by show _ ≤ (0); omega, by show _ ≤ (65 * (0)); omega⟩ dL_act_236 (fun ro hp1 H locs hP1 hV0 hA0 hS => ?_)
      obtain ⟨rfl, hT⟩ := hP1
      replace hm := hm.ms (cT.skw hC hT)
      have hCn := hT.1
      have hn := hm.le
      refine lv_aload_n hx hb dL_act_239 rfl (lv_at hl 2 rfl) ?_
      refine lv_iload_n hx hb dL_act_240 rfl (lv_at hl 0 rfl) ?_
      refine h_rdV (As := [.int (nI (numN x))]) (rest := [.int (wdS (sF S 0) (sN S 0) (gC S 0) (numN x))]) hF (c_X3_word l G hp1 mo dk lv lvl row (sR S) tm (((sD S) + nI (dtS (sF S 0) (bN (vw S 0)) (bG (vw S 0)) (numN x)))) (sF S 0) δ (vw S 0) ω hm hoT hoD hokd (numN x) (by omega)) 1 gL_act_X3_word rfl (by decide +kernel) ⟨Nat.le_of_ble_eq_true rfl, Nat.le_of_ble_eq_true rfl⟩ hK0 hV0 hm.cmo rfl rfl rfl hl.1 rfl (Nat.le_of_ble_eq_true rfl) (by show _ ≤ (0); omega) (by show _ ≤ (65 * (0)); omega) dL_act_241 ?_
      refine lv_icmp_ne (tgt := 251) hx hb dL_act_244 (by decide) (fun c_244 => absurd rfl c_244) (fun c_244 => ?_)
      refine lv_iconst (v := nI 1) hx hb dL_act_247 (by decide) ?_
      refine lv_goto (tgt := 252) hx hb dL_act_248 (by decide) ?_
      refine W.widen (k := (0)) (n := (65 * (0))) (by omega) (by omega) ?_
      exact W.zret hx hb hr (by first | exact narrow_bI _ | rfl) (h_qW ⟨rfl, uD S (sD S + nI (dtS (sF S 0) (bN (vw S 0)) (bG (vw S 0)) (numN x))), G_mono (G_read hg hCn hm) (by omega) (by omega) (by omega), by rw [gS_uD]; omega⟩ hV0 hA0 hS) hS.2.2 dL_act_252 hlocks
    · rw [hsw]
      refine lv_tableIn (off := 187) (tgt := 220) hx hb dL_act_33 (by decide) (by decide) (by decide) (by decide) ?_
      refine lv_aload_n hx hb dL_act_220 rfl (lv_at hl 2 rfl) ?_
      refine lv_dup hx hb dL_act_221 rfl ?_
      refine h_get (v := .int (sD S)) hx hb hts hi3 hown hK0 hV0 hm.cmo rfl 3 (by decide) hw0 rfl dL_act_222 ?_
      refine lv_aload_n hx hb dL_act_225 rfl (lv_at hl 2 rfl) ?_
      refine lv_iload_n hx hb dL_act_226 rfl (lv_at hl 0 rfl) ?_
      refine h_rdV (As := [.int (nI (numN x))]) (rest := [.int (sD S), .ref mo]) hF (c_X3_opened l G hp mo dk lv lvl row (sR S) tm (sD S) (sF S 0) δ (vw S 0) ω hm (numN x) (by omega)) 1 gL_act_X3_opened rfl (by decide +kernel) ⟨Nat.le_of_ble_eq_true rfl, Nat.le_of_ble_eq_true rfl⟩ hK0 hV0 hm.cmo rfl rfl rfl hl.1 rfl (Nat.le_of_ble_eq_true rfl) (by show _ ≤ (0); omega) (by show _ ≤ (65 * (0)); omega) dL_act_227 ?_
      refine lv_iadd hx hb dL_act_230 ?_
      refine h_put (v := .int ((sD S) + nI (dtS (sF S 0) (bN (vw S 0)) (bG (vw S 0)) (numN x)))) hx hb hts hi3 tyX3 tyX3_ok nmX3 hown hK0 hV0 hA0 hS hm.cmo rfl 3 (by decide) hw0 rfl (by rfl) (by rfl) (Nat.le_of_ble_eq_true rfl) dL_act_231 (fun H locs hV0 hA0 hS => ?_)
      have hE0 := exH.rf.set (hp0 := hp) hm.cmo (e := eO 3 [.int (sR S), .int (nI tm), .int (bM (vw S 0)), .int (((sD S) + nI (dtS (sF S 0) (bN (vw S 0)) (bG (vw S 0)) (numN x)))), .int (bK (vw S 0)), .ref dk, .ref lv]) rfl
      replace hE := hE.tr hE0
      replace hm : sA mo dk lv lvl row (sR S) tm (((sD S) + nI (dtS (sF S 0) (bN (vw S 0)) (bG (vw S 0)) (numN x)))) (sF S 0) δ (vw S 0) ω (hput hp mo (eO 3 [.int (sR S), .int (nI tm), .int (bM (vw S 0)), .int (((sD S) + nI (dtS (sF S 0) (bN (vw S 0)) (bG (vw S 0)) (numN x)))), .int (bK (vw S 0)), .ref dk, .ref lv])) := hm.setO hm.cdk
      have hn := hm.le
      replace hV0 : hV G (hput hp mo (eO 3 [.int (sR S), .int (nI tm), .int (bM (vw S 0)), .int (((sD S) + nI (dtS (sF S 0) (bN (vw S 0)) (bG (vw S 0)) (numN x)))), .int (bK (vw S 0)), .ref dk, .ref lv])) H := hV0
      replace hA0 : hIn A (hput hp mo (eO 3 [.int (sR S), .int (nI tm), .int (bM (vw S 0)), .int (((sD S) + nI (dtS (sF S 0) (bN (vw S 0)) (bG (vw S 0)) (numN x)))), .int (bK (vw S 0)), .ref dk, .ref lv])) := hA0
      generalize hput hp mo (eO 3 [.int (sR S), .int (nI tm), .int (bM (vw S 0)), .int (((sD S) + nI (dtS (sF S 0) (bN (vw S 0)) (bG (vw S 0)) (numN x)))), .int (bK (vw S 0)), .ref dk, .ref lv]) = hp104 at hV0 hA0 hm hE hE0
      replace hC := hC.mvX hE0
      refine lv_aload_n hx hb dL_act_234 rfl (lv_at hl 1 rfl) ?_
      refine lv_iload_n hx hb dL_act_235 rfl (lv_at hl 0 rfl) ?_
      refine h_wrV (As := [.int (nI (numN x))]) (rest := []) hF (c_X2_read l G A hp104 ad S hC hI (numN x) (by omega) hA0) 1 gL_act_X2_read rfl (by decide +kernel) ⟨Nat.le_of_ble_eq_true rfl, Nat.le_of_ble_eq_true rfl⟩ hK0 hV0 hA hS hC.xo rfl rfl rfl hl.1 rfl (Nat.le_of_ble_eq_true rfl) ⟨by show _ ≤ (0); omega, by show _ ≤ (65 * (0)); omega⟩ dL_act_236 (fun ro hp1 H locs hP1 hV0 hA0 hS => ?_)
      obtain ⟨rfl, hT⟩ := hP1
      replace hm := hm.ms (cT.skw hC hT)
      have hCn := hT.1
      have hn := hm.le
      refine lv_aload_n hx hb dL_act_239 rfl (lv_at hl 2 rfl) ?_
      refine lv_iload_n hx hb dL_act_240 rfl (lv_at hl 0 rfl) ?_
      refine h_rdV (As := [.int (nI (numN x))]) (rest := [.int (wdS (sF S 0) (sN S 0) (gC S 0) (numN x))]) hF (c_X3_word l G hp1 mo dk lv lvl row (sR S) tm (((sD S) + nI (dtS (sF S 0) (bN (vw S 0)) (bG (vw S 0)) (numN x)))) (sF S 0) δ (vw S 0) ω hm hoT hoD hokd (numN x) (by omega)) 1 gL_act_X3_word rfl (by decide +kernel) ⟨Nat.le_of_ble_eq_true rfl, Nat.le_of_ble_eq_true rfl⟩ hK0 hV0 hm.cmo rfl rfl rfl hl.1 rfl (Nat.le_of_ble_eq_true rfl) (by show _ ≤ (0); omega) (by show _ ≤ (65 * (0)); omega) dL_act_241 ?_
      refine lv_icmp_ne (tgt := 251) hx hb dL_act_244 (by decide) (fun c_244 => absurd rfl c_244) (fun c_244 => ?_)
      refine lv_iconst (v := nI 1) hx hb dL_act_247 (by decide) ?_
      refine lv_goto (tgt := 252) hx hb dL_act_248 (by decide) ?_
      refine W.widen (k := (0)) (n := (65 * (0))) (by omega) (by omega) ?_
      exact W.zret hx hb hr (by first | exact narrow_bI _ | rfl) (h_qW ⟨rfl, uD S (sD S + nI (dtS (sF S 0) (bN (vw S 0)) (bG (vw S 0)) (numN x))), G_mono (G_read hg hCn hm) (by omega) (by omega) (by omega), by rw [gS_uD]; omega⟩ hV0 hA0 hS) hS.2.2 dL_act_252 hlocks

set_option maxHeartbeats 1000000 in
set_option maxRecDepth 100000 in
theorem c_act_5N (l : Launch) (G : hG) (A : Nat → Prop) (hp : HP) (ad : Nat → Nat) (S : CS) (hC : cW ad S hp) (mo dk lv : Nat) (lvl : Nat → Nat) (row : Nat → Nat → Nat) (tm : Nat) (δ : TG) (ω : TS) (hm : sA mo dk lv lvl row (sR S) tm (sD S) (sF S 0) δ (vw S 0) ω hp) (tb mb gb : Nat) (hg : gI tb mb gb S tm δ ω) (htb : tb < 1000) (x : Int32) (hsw : blN (x >>> (nI 9 &&& 31)) 18 = 5 ∨ blN (x >>> (nI 9 &&& 31)) 18 = 6 ∨ blN (x >>> (nI 9 &&& 31)) 18 = 7 ∨ blN (x >>> (nI 9 &&& 31)) 18 = 8) (hlt9 : nI (szR (upd (sF S 0) (numN x) (-1))) < sR S) (hA0 : hIn A hp) : hWr l yL_act wsL_act 7 157 (3) (65 * (3)) G A hp [.ref (aX ad), .ref mo, .int x] (fun ro hp' => ro = some (.int (bI true)) ∧ ∃ S2, gX ad mo lv (tb + 1) (mb + 320) (gb + 5) S2 hp' ∧ 3 + gS S2 ≤ gS S + 600) := by
  refine Met.ofW (cc := cL_act) (maxL := 7) (ret := (some .boolean)) (by decide) rfl ?_
  intro p e s m args below meth c s₁ B hml hv
  obtain ⟨rfl, hV0, hK0, hA⟩ := hv
  have hx := B.exec
  have hb := B.bytes
  have hr := B.returns
  have hts := atoms_spec (ws := wsL_act) B.pre
  have hown : s.vm.findClass RL = some m.cls := findClass_of_methodNamed B.named
  have hlocks := B.notSynchronized
  have hF : CallFix p m c cL_act 7 s [.ref (aX ad), .ref mo, .int x].toArray wsL_act RL := ⟨hx, hb, hml, hown, hts⟩
  have hS : va_S A s.heap s.heap [] := va_S.rf
  have hl := lv_entry ([.ref (aX ad), .ref mo, .int x]) (n := 7) (Nat.le_of_ble_eq_true rfl)
  rw [lg_entry_eq]
  generalize (lg_sl ([.ref (aX ad), .ref mo, .int x]) ++ List.replicate (7 - (lg_sl ([.ref (aX ad), .ref mo, .int x])).length) Slot.unset).toArray = ls at hl ⊢
  replace hl : lv_has ls 7 [(0, .ref (aX ad)), (1, .ref mo), (2, .int x)] := hl
  have hn := hm.le
  have hn9l := numN_lt x
  obtain ⟨hI, hoT, hoD, htd, htg, ⟨r9, hr1, hr2, hr3⟩, hmv, hmg, htm9⟩ := id hg
  have hnk := hC.ok.n
  have hvk := hm.v
  have hokd : okR (sF S 0) := hC.ok.1 0
  have hI2 : ∀ l, l < 4 → bN (vw S 0) l ≤ 2 := fun l hl => hI l hl
  have hE : exH hp hp := exH.rf
  have hzd := szR_le (sF S 0)
  refine lv_iload_n hx hb dL_act_0 rfl (lv_at hl 2 rfl) ?_
  refine lv_iconst (v := nI 1) hx hb dL_act_1 (by decide) ?_
  refine lv_ishr hx hb dL_act_2 ?_
  refine lv_iload_n hx hb dL_act_3 rfl (lv_at hl 2 rfl) ?_
  refine lv_iconst (v := nI 5) hx hb dL_act_4 (by decide) ?_
  refine lv_ishr hx hb dL_act_5 ?_
  refine lv_iconst (v := nI 3) hx hb dL_act_6 (by decide) ?_
  have hbl7 : blN ((x >>> (nI 5 &&& 31))) 3 < 3 := bl_lt _ (by omega)
  refine h_rdS (As := [.int (x >>> (nI 5 &&& 31)), .int (nI 3)]) (rest := [.int (x >>> (nI 1 &&& 31))]) hF (c_L_below l G hp ((x >>> (nI 5 &&& 31))) 3 (by omega) (by omega)) 2 gL_act_L_below rfl (by decide +kernel) ⟨Nat.le_of_ble_eq_true rfl, Nat.le_of_ble_eq_true rfl⟩ hK0 hV0 rfl hl.1 rfl (Nat.le_of_ble_eq_true rfl) (by show _ ≤ (3); omega) (by show _ ≤ (65 * (3)); omega) dL_act_7 ?_
  refine h_if_ne (a := blN ((x >>> (nI 5 &&& 31))) 3) (tgt := 18) hx hb dL_act_10 (by decide) (by omega) (fun c_10 => ?_) (fun c_10 => ?_)
  · refine lv_bipush (v := nI 13) hx hb dL_act_18 (by decide) ?_
    have hbl20 : blN ((x >>> (nI 1 &&& 31))) 13 < 13 := bl_lt _ (by omega)
    refine h_rdS (As := [.int (x >>> (nI 1 &&& 31)), .int (nI 13)]) (rest := []) hF (c_L_below l G hp ((x >>> (nI 1 &&& 31))) 13 (by omega) (by omega)) 2 gL_act_L_below rfl (by decide +kernel) ⟨Nat.le_of_ble_eq_true rfl, Nat.le_of_ble_eq_true rfl⟩ hK0 hV0 rfl hl.1 rfl (Nat.le_of_ble_eq_true rfl) (by show _ ≤ (3); omega) (by show _ ≤ (65 * (3)); omega) dL_act_20 ?_
    have hnum : blN ((x >>> (nI 1 &&& 31))) 13 = numN x := (if_neg c_10).symm
    rw [hnum]
    refine lv_istore_n (lv' := [(3, .int (nI (numN x))), (0, .ref (aX ad)), (1, .ref mo), (2, .int x)]) hx hb dL_act_23 rfl hl (by decide) rfl (fun ls hl => ?_)
    refine lv_iload_n hx hb dL_act_24 rfl (lv_at hl 3 rfl) ?_
    refine lv_bipush (v := nI 9) hx hb dL_act_25 (by decide) ?_
    refine lv_ishr hx hb dL_act_27 ?_
    refine lv_bipush (v := nI 18) hx hb dL_act_28 (by decide) ?_
    have hbl30 : blN ((x >>> (nI 9 &&& 31))) 18 < 18 := bl_lt _ (by omega)
    refine h_rdS (As := [.int (x >>> (nI 9 &&& 31)), .int (nI 18)]) (rest := []) hF (c_L_below l G hp ((x >>> (nI 9 &&& 31))) 18 (by omega) (by omega)) 2 gL_act_L_below rfl (by decide +kernel) ⟨Nat.le_of_ble_eq_true rfl, Nat.le_of_ble_eq_true rfl⟩ hK0 hV0 rfl hl.1 rfl (Nat.le_of_ble_eq_true rfl) (by show _ ≤ (3); omega) (by show _ ≤ (65 * (3)); omega) dL_act_30 ?_
    rcases hsw with hsw | hsw | hsw | hsw
    · rw [hsw]
      refine lv_tableIn (off := 220) (tgt := 253) hx hb dL_act_33 (by decide) (by decide) (by decide) (by decide) ?_
      refine lv_aload_n hx hb dL_act_253 rfl (lv_at hl 1 rfl) ?_
      refine lv_iload_n hx hb dL_act_254 rfl (lv_at hl 0 rfl) ?_
      refine h_wrV (As := [.int (nI (numN x))]) (rest := []) hF (c_X2_strike l G A hp ad S hC hI (numN x) (by omega) hA0) 1 gL_act_X2_strike rfl (by decide +kernel) ⟨Nat.le_of_ble_eq_true rfl, Nat.le_of_ble_eq_true rfl⟩ hK0 hV0 hA hS hC.xo rfl rfl rfl hl.1 rfl (Nat.le_of_ble_eq_true rfl) ⟨by show _ ≤ (3); omega, by show _ ≤ (65 * (3)); omega⟩ dL_act_255 (fun ro hp1 H locs hP1 hV0 hA0 hS => ?_)
      have hltw : nI (szR (sF (wrS S (numN x) (-1)) 0)) < sR S := by rw [w_sF]; exact hlt9
      rw [if_pos hltw, if_pos hltw] at hP1
      obtain ⟨rfl, hT⟩ := hP1
      replace hm := hm.ms (cT.skw hC hT)
      have hCn := hT.1
      have hn := hm.le
      refine lv_aload_n hx hb dL_act_258 rfl (lv_at hl 2 rfl) ?_
      refine lv_iload_n hx hb dL_act_259 rfl (lv_at hl 0 rfl) ?_
      refine lv_iconst (v := (-1)) hx hb dL_act_260 (by decide) ?_
      refine h_wrV (As := [.int (nI (numN x)), .int (-1)]) (rest := [.int (bI (false))]) hF (c_X3_putN l G A hp1 mo dk lv lvl row (sR S) tm (sD S) (sF S 0) δ (vw S 0) ω hm hI2 hoT hoD hokd htd htg (by omega) (numN x) (by omega) ((-1)) (Or.inl rfl) hlt9 hA0) 2 gL_act_X3_put rfl (by decide +kernel) ⟨Nat.le_of_ble_eq_true rfl, Nat.le_of_ble_eq_true rfl⟩ hK0 hV0 hA hS hm.cmo rfl rfl rfl hl.1 rfl (Nat.le_of_ble_eq_true rfl) ⟨by show _ ≤ (3); omega, by show _ ≤ (65 * (3)); omega⟩ dL_act_261 (fun ro hp2 H locs hP1 hV0 hA0 hS => ?_)
      obtain ⟨rfl, ⟨q1, dk2, lvl2, row2, hm2⟩, hE3⟩ := hP1
      replace hCn := hCn.mvX hE3
      refine lv_icmp_ne (tgt := 271) hx hb dL_act_264 (by decide) (fun c_264 => absurd rfl c_264) (fun c_264 => ?_)
      refine lv_iconst (v := nI 1) hx hb dL_act_267 (by decide) ?_
      refine lv_goto (tgt := 272) hx hb dL_act_268 (by decide) ?_
      refine W.widen (k := (3)) (n := (65 * (3))) (by omega) (by omega) ?_
      exact W.zret hx hb hr (by first | exact narrow_bI _ | rfl) (h_qW ⟨rfl, wrS S (numN x) (-1), G_mono (G_putN hg (by decide) hCn hm2) (by omega) (by omega) (by omega), by have := K_putN (S := S) (x := (numN x)) (v := -1) (by omega) (by decide); omega⟩ hV0 hA0 hS) hS.2.2 dL_act_272 hlocks
    · rw [hsw]
      refine lv_tableIn (off := 220) (tgt := 253) hx hb dL_act_33 (by decide) (by decide) (by decide) (by decide) ?_
      refine lv_aload_n hx hb dL_act_253 rfl (lv_at hl 1 rfl) ?_
      refine lv_iload_n hx hb dL_act_254 rfl (lv_at hl 0 rfl) ?_
      refine h_wrV (As := [.int (nI (numN x))]) (rest := []) hF (c_X2_strike l G A hp ad S hC hI (numN x) (by omega) hA0) 1 gL_act_X2_strike rfl (by decide +kernel) ⟨Nat.le_of_ble_eq_true rfl, Nat.le_of_ble_eq_true rfl⟩ hK0 hV0 hA hS hC.xo rfl rfl rfl hl.1 rfl (Nat.le_of_ble_eq_true rfl) ⟨by show _ ≤ (3); omega, by show _ ≤ (65 * (3)); omega⟩ dL_act_255 (fun ro hp1 H locs hP1 hV0 hA0 hS => ?_)
      have hltw : nI (szR (sF (wrS S (numN x) (-1)) 0)) < sR S := by rw [w_sF]; exact hlt9
      rw [if_pos hltw, if_pos hltw] at hP1
      obtain ⟨rfl, hT⟩ := hP1
      replace hm := hm.ms (cT.skw hC hT)
      have hCn := hT.1
      have hn := hm.le
      refine lv_aload_n hx hb dL_act_258 rfl (lv_at hl 2 rfl) ?_
      refine lv_iload_n hx hb dL_act_259 rfl (lv_at hl 0 rfl) ?_
      refine lv_iconst (v := (-1)) hx hb dL_act_260 (by decide) ?_
      refine h_wrV (As := [.int (nI (numN x)), .int (-1)]) (rest := [.int (bI (false))]) hF (c_X3_putN l G A hp1 mo dk lv lvl row (sR S) tm (sD S) (sF S 0) δ (vw S 0) ω hm hI2 hoT hoD hokd htd htg (by omega) (numN x) (by omega) ((-1)) (Or.inl rfl) hlt9 hA0) 2 gL_act_X3_put rfl (by decide +kernel) ⟨Nat.le_of_ble_eq_true rfl, Nat.le_of_ble_eq_true rfl⟩ hK0 hV0 hA hS hm.cmo rfl rfl rfl hl.1 rfl (Nat.le_of_ble_eq_true rfl) ⟨by show _ ≤ (3); omega, by show _ ≤ (65 * (3)); omega⟩ dL_act_261 (fun ro hp2 H locs hP1 hV0 hA0 hS => ?_)
      obtain ⟨rfl, ⟨q1, dk2, lvl2, row2, hm2⟩, hE3⟩ := hP1
      replace hCn := hCn.mvX hE3
      refine lv_icmp_ne (tgt := 271) hx hb dL_act_264 (by decide) (fun c_264 => absurd rfl c_264) (fun c_264 => ?_)
      refine lv_iconst (v := nI 1) hx hb dL_act_267 (by decide) ?_
      refine lv_goto (tgt := 272) hx hb dL_act_268 (by decide) ?_
      refine W.widen (k := (3)) (n := (65 * (3))) (by omega) (by omega) ?_
      exact W.zret hx hb hr (by first | exact narrow_bI _ | rfl) (h_qW ⟨rfl, wrS S (numN x) (-1), G_mono (G_putN hg (by decide) hCn hm2) (by omega) (by omega) (by omega), by have := K_putN (S := S) (x := (numN x)) (v := -1) (by omega) (by decide); omega⟩ hV0 hA0 hS) hS.2.2 dL_act_272 hlocks
    · rw [hsw]
      refine lv_tableIn (off := 220) (tgt := 253) hx hb dL_act_33 (by decide) (by decide) (by decide) (by decide) ?_
      refine lv_aload_n hx hb dL_act_253 rfl (lv_at hl 1 rfl) ?_
      refine lv_iload_n hx hb dL_act_254 rfl (lv_at hl 0 rfl) ?_
      refine h_wrV (As := [.int (nI (numN x))]) (rest := []) hF (c_X2_strike l G A hp ad S hC hI (numN x) (by omega) hA0) 1 gL_act_X2_strike rfl (by decide +kernel) ⟨Nat.le_of_ble_eq_true rfl, Nat.le_of_ble_eq_true rfl⟩ hK0 hV0 hA hS hC.xo rfl rfl rfl hl.1 rfl (Nat.le_of_ble_eq_true rfl) ⟨by show _ ≤ (3); omega, by show _ ≤ (65 * (3)); omega⟩ dL_act_255 (fun ro hp1 H locs hP1 hV0 hA0 hS => ?_)
      have hltw : nI (szR (sF (wrS S (numN x) (-1)) 0)) < sR S := by rw [w_sF]; exact hlt9
      rw [if_pos hltw, if_pos hltw] at hP1
      obtain ⟨rfl, hT⟩ := hP1
      replace hm := hm.ms (cT.skw hC hT)
      have hCn := hT.1
      have hn := hm.le
      refine lv_aload_n hx hb dL_act_258 rfl (lv_at hl 2 rfl) ?_
      refine lv_iload_n hx hb dL_act_259 rfl (lv_at hl 0 rfl) ?_
      refine lv_iconst (v := (-1)) hx hb dL_act_260 (by decide) ?_
      refine h_wrV (As := [.int (nI (numN x)), .int (-1)]) (rest := [.int (bI (false))]) hF (c_X3_putN l G A hp1 mo dk lv lvl row (sR S) tm (sD S) (sF S 0) δ (vw S 0) ω hm hI2 hoT hoD hokd htd htg (by omega) (numN x) (by omega) ((-1)) (Or.inl rfl) hlt9 hA0) 2 gL_act_X3_put rfl (by decide +kernel) ⟨Nat.le_of_ble_eq_true rfl, Nat.le_of_ble_eq_true rfl⟩ hK0 hV0 hA hS hm.cmo rfl rfl rfl hl.1 rfl (Nat.le_of_ble_eq_true rfl) ⟨by show _ ≤ (3); omega, by show _ ≤ (65 * (3)); omega⟩ dL_act_261 (fun ro hp2 H locs hP1 hV0 hA0 hS => ?_)
      obtain ⟨rfl, ⟨q1, dk2, lvl2, row2, hm2⟩, hE3⟩ := hP1
      replace hCn := hCn.mvX hE3
      refine lv_icmp_ne (tgt := 271) hx hb dL_act_264 (by decide) (fun c_264 => absurd rfl c_264) (fun c_264 => ?_)
      refine lv_iconst (v := nI 1) hx hb dL_act_267 (by decide) ?_
      refine lv_goto (tgt := 272) hx hb dL_act_268 (by decide) ?_
      refine W.widen (k := (3)) (n := (65 * (3))) (by omega) (by omega) ?_
      exact W.zret hx hb hr (by first | exact narrow_bI _ | rfl) (h_qW ⟨rfl, wrS S (numN x) (-1), G_mono (G_putN hg (by decide) hCn hm2) (by omega) (by omega) (by omega), by have := K_putN (S := S) (x := (numN x)) (v := -1) (by omega) (by decide); omega⟩ hV0 hA0 hS) hS.2.2 dL_act_272 hlocks
    · rw [hsw]
      refine lv_tableIn (off := 220) (tgt := 253) hx hb dL_act_33 (by decide) (by decide) (by decide) (by decide) ?_
      refine lv_aload_n hx hb dL_act_253 rfl (lv_at hl 1 rfl) ?_
      refine lv_iload_n hx hb dL_act_254 rfl (lv_at hl 0 rfl) ?_
      refine h_wrV (As := [.int (nI (numN x))]) (rest := []) hF (c_X2_strike l G A hp ad S hC hI (numN x) (by omega) hA0) 1 gL_act_X2_strike rfl (by decide +kernel) ⟨Nat.le_of_ble_eq_true rfl, Nat.le_of_ble_eq_true rfl⟩ hK0 hV0 hA hS hC.xo rfl rfl rfl hl.1 rfl (Nat.le_of_ble_eq_true rfl) ⟨by show _ ≤ (3); omega, by show _ ≤ (65 * (3)); omega⟩ dL_act_255 (fun ro hp1 H locs hP1 hV0 hA0 hS => ?_)
      have hltw : nI (szR (sF (wrS S (numN x) (-1)) 0)) < sR S := by rw [w_sF]; exact hlt9
      rw [if_pos hltw, if_pos hltw] at hP1
      obtain ⟨rfl, hT⟩ := hP1
      replace hm := hm.ms (cT.skw hC hT)
      have hCn := hT.1
      have hn := hm.le
      refine lv_aload_n hx hb dL_act_258 rfl (lv_at hl 2 rfl) ?_
      refine lv_iload_n hx hb dL_act_259 rfl (lv_at hl 0 rfl) ?_
      refine lv_iconst (v := (-1)) hx hb dL_act_260 (by decide) ?_
      refine h_wrV (As := [.int (nI (numN x)), .int (-1)]) (rest := [.int (bI (false))]) hF (c_X3_putN l G A hp1 mo dk lv lvl row (sR S) tm (sD S) (sF S 0) δ (vw S 0) ω hm hI2 hoT hoD hokd htd htg (by omega) (numN x) (by omega) ((-1)) (Or.inl rfl) hlt9 hA0) 2 gL_act_X3_put rfl (by decide +kernel) ⟨Nat.le_of_ble_eq_true rfl, Nat.le_of_ble_eq_true rfl⟩ hK0 hV0 hA hS hm.cmo rfl rfl rfl hl.1 rfl (Nat.le_of_ble_eq_true rfl) ⟨by show _ ≤ (3); omega, by show _ ≤ (65 * (3)); omega⟩ dL_act_261 (fun ro hp2 H locs hP1 hV0 hA0 hS => ?_)
      obtain ⟨rfl, ⟨q1, dk2, lvl2, row2, hm2⟩, hE3⟩ := hP1
      replace hCn := hCn.mvX hE3
      refine lv_icmp_ne (tgt := 271) hx hb dL_act_264 (by decide) (fun c_264 => absurd rfl c_264) (fun c_264 => ?_)
      refine lv_iconst (v := nI 1) hx hb dL_act_267 (by decide) ?_
      refine lv_goto (tgt := 272) hx hb dL_act_268 (by decide) ?_
      refine W.widen (k := (3)) (n := (65 * (3))) (by omega) (by omega) ?_
      exact W.zret hx hb hr (by first | exact narrow_bI _ | rfl) (h_qW ⟨rfl, wrS S (numN x) (-1), G_mono (G_putN hg (by decide) hCn hm2) (by omega) (by omega) (by omega), by have := K_putN (S := S) (x := (numN x)) (v := -1) (by omega) (by decide); omega⟩ hV0 hA0 hS) hS.2.2 dL_act_272 hlocks
  · refine lv_bipush (v := nI 64) hx hb dL_act_13 (by decide) ?_
    refine lv_goto (tgt := 20) hx hb dL_act_15 (by decide) ?_
    have hbl20 : blN ((x >>> (nI 1 &&& 31))) 64 < 64 := bl_lt _ (by omega)
    refine h_rdS (As := [.int (x >>> (nI 1 &&& 31)), .int (nI 64)]) (rest := []) hF (c_L_below l G hp ((x >>> (nI 1 &&& 31))) 64 (by omega) (by omega)) 2 gL_act_L_below rfl (by decide +kernel) ⟨Nat.le_of_ble_eq_true rfl, Nat.le_of_ble_eq_true rfl⟩ hK0 hV0 rfl hl.1 rfl (Nat.le_of_ble_eq_true rfl) (by show _ ≤ (3); omega) (by show _ ≤ (65 * (3)); omega) dL_act_20 ?_
    have hnum : blN ((x >>> (nI 1 &&& 31))) 64 = numN x := (if_pos c_10).symm
    rw [hnum]
    refine lv_istore_n (lv' := [(3, .int (nI (numN x))), (0, .ref (aX ad)), (1, .ref mo), (2, .int x)]) hx hb dL_act_23 rfl hl (by decide) rfl (fun ls hl => ?_)
    refine lv_iload_n hx hb dL_act_24 rfl (lv_at hl 3 rfl) ?_
    refine lv_bipush (v := nI 9) hx hb dL_act_25 (by decide) ?_
    refine lv_ishr hx hb dL_act_27 ?_
    refine lv_bipush (v := nI 18) hx hb dL_act_28 (by decide) ?_
    have hbl30 : blN ((x >>> (nI 9 &&& 31))) 18 < 18 := bl_lt _ (by omega)
    refine h_rdS (As := [.int (x >>> (nI 9 &&& 31)), .int (nI 18)]) (rest := []) hF (c_L_below l G hp ((x >>> (nI 9 &&& 31))) 18 (by omega) (by omega)) 2 gL_act_L_below rfl (by decide +kernel) ⟨Nat.le_of_ble_eq_true rfl, Nat.le_of_ble_eq_true rfl⟩ hK0 hV0 rfl hl.1 rfl (Nat.le_of_ble_eq_true rfl) (by show _ ≤ (3); omega) (by show _ ≤ (65 * (3)); omega) dL_act_30 ?_
    rcases hsw with hsw | hsw | hsw | hsw
    · rw [hsw]
      refine lv_tableIn (off := 220) (tgt := 253) hx hb dL_act_33 (by decide) (by decide) (by decide) (by decide) ?_
      refine lv_aload_n hx hb dL_act_253 rfl (lv_at hl 1 rfl) ?_
      refine lv_iload_n hx hb dL_act_254 rfl (lv_at hl 0 rfl) ?_
      refine h_wrV (As := [.int (nI (numN x))]) (rest := []) hF (c_X2_strike l G A hp ad S hC hI (numN x) (by omega) hA0) 1 gL_act_X2_strike rfl (by decide +kernel) ⟨Nat.le_of_ble_eq_true rfl, Nat.le_of_ble_eq_true rfl⟩ hK0 hV0 hA hS hC.xo rfl rfl rfl hl.1 rfl (Nat.le_of_ble_eq_true rfl) ⟨by show _ ≤ (3); omega, by show _ ≤ (65 * (3)); omega⟩ dL_act_255 (fun ro hp1 H locs hP1 hV0 hA0 hS => ?_)
      have hltw : nI (szR (sF (wrS S (numN x) (-1)) 0)) < sR S := by rw [w_sF]; exact hlt9
      rw [if_pos hltw, if_pos hltw] at hP1
      obtain ⟨rfl, hT⟩ := hP1
      replace hm := hm.ms (cT.skw hC hT)
      have hCn := hT.1
      have hn := hm.le
      refine lv_aload_n hx hb dL_act_258 rfl (lv_at hl 2 rfl) ?_
      refine lv_iload_n hx hb dL_act_259 rfl (lv_at hl 0 rfl) ?_
      refine lv_iconst (v := (-1)) hx hb dL_act_260 (by decide) ?_
      refine h_wrV (As := [.int (nI (numN x)), .int (-1)]) (rest := [.int (bI (false))]) hF (c_X3_putN l G A hp1 mo dk lv lvl row (sR S) tm (sD S) (sF S 0) δ (vw S 0) ω hm hI2 hoT hoD hokd htd htg (by omega) (numN x) (by omega) ((-1)) (Or.inl rfl) hlt9 hA0) 2 gL_act_X3_put rfl (by decide +kernel) ⟨Nat.le_of_ble_eq_true rfl, Nat.le_of_ble_eq_true rfl⟩ hK0 hV0 hA hS hm.cmo rfl rfl rfl hl.1 rfl (Nat.le_of_ble_eq_true rfl) ⟨by show _ ≤ (3); omega, by show _ ≤ (65 * (3)); omega⟩ dL_act_261 (fun ro hp2 H locs hP1 hV0 hA0 hS => ?_)
      obtain ⟨rfl, ⟨q1, dk2, lvl2, row2, hm2⟩, hE3⟩ := hP1
      replace hCn := hCn.mvX hE3
      refine lv_icmp_ne (tgt := 271) hx hb dL_act_264 (by decide) (fun c_264 => absurd rfl c_264) (fun c_264 => ?_)
      refine lv_iconst (v := nI 1) hx hb dL_act_267 (by decide) ?_
      refine lv_goto (tgt := 272) hx hb dL_act_268 (by decide) ?_
      refine W.widen (k := (3)) (n := (65 * (3))) (by omega) (by omega) ?_
      exact W.zret hx hb hr (by first | exact narrow_bI _ | rfl) (h_qW ⟨rfl, wrS S (numN x) (-1), G_mono (G_putN hg (by decide) hCn hm2) (by omega) (by omega) (by omega), by have := K_putN (S := S) (x := (numN x)) (v := -1) (by omega) (by decide); omega⟩ hV0 hA0 hS) hS.2.2 dL_act_272 hlocks
    · rw [hsw]
      refine lv_tableIn (off := 220) (tgt := 253) hx hb dL_act_33 (by decide) (by decide) (by decide) (by decide) ?_
      refine lv_aload_n hx hb dL_act_253 rfl (lv_at hl 1 rfl) ?_
      refine lv_iload_n hx hb dL_act_254 rfl (lv_at hl 0 rfl) ?_
      refine h_wrV (As := [.int (nI (numN x))]) (rest := []) hF (c_X2_strike l G A hp ad S hC hI (numN x) (by omega) hA0) 1 gL_act_X2_strike rfl (by decide +kernel) ⟨Nat.le_of_ble_eq_true rfl, Nat.le_of_ble_eq_true rfl⟩ hK0 hV0 hA hS hC.xo rfl rfl rfl hl.1 rfl (Nat.le_of_ble_eq_true rfl) ⟨by show _ ≤ (3); omega, by show _ ≤ (65 * (3)); omega⟩ dL_act_255 (fun ro hp1 H locs hP1 hV0 hA0 hS => ?_)
      have hltw : nI (szR (sF (wrS S (numN x) (-1)) 0)) < sR S := by rw [w_sF]; exact hlt9
      rw [if_pos hltw, if_pos hltw] at hP1
      obtain ⟨rfl, hT⟩ := hP1
      replace hm := hm.ms (cT.skw hC hT)
      have hCn := hT.1
      have hn := hm.le
      refine lv_aload_n hx hb dL_act_258 rfl (lv_at hl 2 rfl) ?_
      refine lv_iload_n hx hb dL_act_259 rfl (lv_at hl 0 rfl) ?_
      refine lv_iconst (v := (-1)) hx hb dL_act_260 (by decide) ?_
      refine h_wrV (As := [.int (nI (numN x)), .int (-1)]) (rest := [.int (bI (false))]) hF (c_X3_putN l G A hp1 mo dk lv lvl row (sR S) tm (sD S) (sF S 0) δ (vw S 0) ω hm hI2 hoT hoD hokd htd htg (by omega) (numN x) (by omega) ((-1)) (Or.inl rfl) hlt9 hA0) 2 gL_act_X3_put rfl (by decide +kernel) ⟨Nat.le_of_ble_eq_true rfl, Nat.le_of_ble_eq_true rfl⟩ hK0 hV0 hA hS hm.cmo rfl rfl rfl hl.1 rfl (Nat.le_of_ble_eq_true rfl) ⟨by show _ ≤ (3); omega, by show _ ≤ (65 * (3)); omega⟩ dL_act_261 (fun ro hp2 H locs hP1 hV0 hA0 hS => ?_)
      obtain ⟨rfl, ⟨q1, dk2, lvl2, row2, hm2⟩, hE3⟩ := hP1
      replace hCn := hCn.mvX hE3
      refine lv_icmp_ne (tgt := 271) hx hb dL_act_264 (by decide) (fun c_264 => absurd rfl c_264) (fun c_264 => ?_)
      refine lv_iconst (v := nI 1) hx hb dL_act_267 (by decide) ?_
      refine lv_goto (tgt := 272) hx hb dL_act_268 (by decide) ?_
      refine W.widen (k := (3)) (n := (65 * (3))) (by omega) (by omega) ?_
      exact W.zret hx hb hr (by first | exact narrow_bI _ | rfl) (h_qW ⟨rfl, wrS S (numN x) (-1), G_mono (G_putN hg (by decide) hCn hm2) (by omega) (by omega) (by omega), by have := K_putN (S := S) (x := (numN x)) (v := -1) (by omega) (by decide); omega⟩ hV0 hA0 hS) hS.2.2 dL_act_272 hlocks
    · rw [hsw]
      refine lv_tableIn (off := 220) (tgt := 253) hx hb dL_act_33 (by decide) (by decide) (by decide) (by decide) ?_
      refine lv_aload_n hx hb dL_act_253 rfl (lv_at hl 1 rfl) ?_
      refine lv_iload_n hx hb dL_act_254 rfl (lv_at hl 0 rfl) ?_
      refine h_wrV (As := [.int (nI (numN x))]) (rest := []) hF (c_X2_strike l G A hp ad S hC hI (numN x) (by omega) hA0) 1 gL_act_X2_strike rfl (by decide +kernel) ⟨Nat.le_of_ble_eq_true rfl, Nat.le_of_ble_eq_true rfl⟩ hK0 hV0 hA hS hC.xo rfl rfl rfl hl.1 rfl (Nat.le_of_ble_eq_true rfl) ⟨by show _ ≤ (3); omega, by show _ ≤ (65 * (3)); omega⟩ dL_act_255 (fun ro hp1 H locs hP1 hV0 hA0 hS => ?_)
      have hltw : nI (szR (sF (wrS S (numN x) (-1)) 0)) < sR S := by rw [w_sF]; exact hlt9
      rw [if_pos hltw, if_pos hltw] at hP1
      obtain ⟨rfl, hT⟩ := hP1
      replace hm := hm.ms (cT.skw hC hT)
      have hCn := hT.1
      have hn := hm.le
      refine lv_aload_n hx hb dL_act_258 rfl (lv_at hl 2 rfl) ?_
      refine lv_iload_n hx hb dL_act_259 rfl (lv_at hl 0 rfl) ?_
      refine lv_iconst (v := (-1)) hx hb dL_act_260 (by decide) ?_
      refine h_wrV (As := [.int (nI (numN x)), .int (-1)]) (rest := [.int (bI (false))]) hF (c_X3_putN l G A hp1 mo dk lv lvl row (sR S) tm (sD S) (sF S 0) δ (vw S 0) ω hm hI2 hoT hoD hokd htd htg (by omega) (numN x) (by omega) ((-1)) (Or.inl rfl) hlt9 hA0) 2 gL_act_X3_put rfl (by decide +kernel) ⟨Nat.le_of_ble_eq_true rfl, Nat.le_of_ble_eq_true rfl⟩ hK0 hV0 hA hS hm.cmo rfl rfl rfl hl.1 rfl (Nat.le_of_ble_eq_true rfl) ⟨by show _ ≤ (3); omega, by show _ ≤ (65 * (3)); omega⟩ dL_act_261 (fun ro hp2 H locs hP1 hV0 hA0 hS => ?_)
      obtain ⟨rfl, ⟨q1, dk2, lvl2, row2, hm2⟩, hE3⟩ := hP1
      replace hCn := hCn.mvX hE3
      refine lv_icmp_ne (tgt := 271) hx hb dL_act_264 (by decide) (fun c_264 => absurd rfl c_264) (fun c_264 => ?_)
      refine lv_iconst (v := nI 1) hx hb dL_act_267 (by decide) ?_
      refine lv_goto (tgt := 272) hx hb dL_act_268 (by decide) ?_
      refine W.widen (k := (3)) (n := (65 * (3))) (by omega) (by omega) ?_
      exact W.zret hx hb hr (by first | exact narrow_bI _ | rfl) (h_qW ⟨rfl, wrS S (numN x) (-1), G_mono (G_putN hg (by decide) hCn hm2) (by omega) (by omega) (by omega), by have := K_putN (S := S) (x := (numN x)) (v := -1) (by omega) (by decide); omega⟩ hV0 hA0 hS) hS.2.2 dL_act_272 hlocks
    · rw [hsw]
      refine lv_tableIn (off := 220) (tgt := 253) hx hb dL_act_33 (by decide) (by decide) (by decide) (by decide) ?_
      refine lv_aload_n hx hb dL_act_253 rfl (lv_at hl 1 rfl) ?_
      refine lv_iload_n hx hb dL_act_254 rfl (lv_at hl 0 rfl) ?_
      refine h_wrV (As := [.int (nI (numN x))]) (rest := []) hF (c_X2_strike l G A hp ad S hC hI (numN x) (by omega) hA0) 1 gL_act_X2_strike rfl (by decide +kernel) ⟨Nat.le_of_ble_eq_true rfl, Nat.le_of_ble_eq_true rfl⟩ hK0 hV0 hA hS hC.xo rfl rfl rfl hl.1 rfl (Nat.le_of_ble_eq_true rfl) ⟨by show _ ≤ (3); omega, by show _ ≤ (65 * (3)); omega⟩ dL_act_255 (fun ro hp1 H locs hP1 hV0 hA0 hS => ?_)
      have hltw : nI (szR (sF (wrS S (numN x) (-1)) 0)) < sR S := by rw [w_sF]; exact hlt9
      rw [if_pos hltw, if_pos hltw] at hP1
      obtain ⟨rfl, hT⟩ := hP1
      replace hm := hm.ms (cT.skw hC hT)
      have hCn := hT.1
      have hn := hm.le
      refine lv_aload_n hx hb dL_act_258 rfl (lv_at hl 2 rfl) ?_
      refine lv_iload_n hx hb dL_act_259 rfl (lv_at hl 0 rfl) ?_
      refine lv_iconst (v := (-1)) hx hb dL_act_260 (by decide) ?_
      refine h_wrV (As := [.int (nI (numN x)), .int (-1)]) (rest := [.int (bI (false))]) hF (c_X3_putN l G A hp1 mo dk lv lvl row (sR S) tm (sD S) (sF S 0) δ (vw S 0) ω hm hI2 hoT hoD hokd htd htg (by omega) (numN x) (by omega) ((-1)) (Or.inl rfl) hlt9 hA0) 2 gL_act_X3_put rfl (by decide +kernel) ⟨Nat.le_of_ble_eq_true rfl, Nat.le_of_ble_eq_true rfl⟩ hK0 hV0 hA hS hm.cmo rfl rfl rfl hl.1 rfl (Nat.le_of_ble_eq_true rfl) ⟨by show _ ≤ (3); omega, by show _ ≤ (65 * (3)); omega⟩ dL_act_261 (fun ro hp2 H locs hP1 hV0 hA0 hS => ?_)
      obtain ⟨rfl, ⟨q1, dk2, lvl2, row2, hm2⟩, hE3⟩ := hP1
      replace hCn := hCn.mvX hE3
      refine lv_icmp_ne (tgt := 271) hx hb dL_act_264 (by decide) (fun c_264 => absurd rfl c_264) (fun c_264 => ?_)
      refine lv_iconst (v := nI 1) hx hb dL_act_267 (by decide) ?_
      refine lv_goto (tgt := 272) hx hb dL_act_268 (by decide) ?_
      refine W.widen (k := (3)) (n := (65 * (3))) (by omega) (by omega) ?_
      exact W.zret hx hb hr (by first | exact narrow_bI _ | rfl) (h_qW ⟨rfl, wrS S (numN x) (-1), G_mono (G_putN hg (by decide) hCn hm2) (by omega) (by omega) (by omega), by have := K_putN (S := S) (x := (numN x)) (v := -1) (by omega) (by decide); omega⟩ hV0 hA0 hS) hS.2.2 dL_act_272 hlocks

set_option maxHeartbeats 1000000 in
set_option maxRecDepth 100000 in
theorem c_act_9N (l : Launch) (G : hG) (A : Nat → Prop) (hp : HP) (ad : Nat → Nat) (S : CS) (hC : cW ad S hp) (mo dk lv : Nat) (lvl : Nat → Nat) (row : Nat → Nat → Nat) (tm : Nat) (δ : TG) (ω : TS) (hm : sA mo dk lv lvl row (sR S) tm (sD S) (sF S 0) δ (vw S 0) ω hp) (tb mb gb : Nat) (hg : gI tb mb gb S tm δ ω) (htb : tb < 1000) (x : Int32) (hsw : 9 ≤ blN (x >>> (nI 9 &&& 31)) 18) (hlt9 : nI (szR (upd (sF S 0) (numN x) (nI (blN (x >>> (nI 3 &&& 31)) 100)))) < sR S) (hA0 : hIn A hp) : hWr l yL_act wsL_act 7 157 (3) (65 * (3)) G A hp [.ref (aX ad), .ref mo, .int x] (fun ro hp' => ro = some (.int (bI true)) ∧ ∃ S2, gX ad mo lv (tb + 1) (mb + 320) (gb + 5) S2 hp' ∧ 3 + gS S2 ≤ gS S + 600) := by
  refine Met.ofW (cc := cL_act) (maxL := 7) (ret := (some .boolean)) (by decide) rfl ?_
  intro p e s m args below meth c s₁ B hml hv
  obtain ⟨rfl, hV0, hK0, hA⟩ := hv
  have hx := B.exec
  have hb := B.bytes
  have hr := B.returns
  have hts := atoms_spec (ws := wsL_act) B.pre
  have hown : s.vm.findClass RL = some m.cls := findClass_of_methodNamed B.named
  have hlocks := B.notSynchronized
  have hF : CallFix p m c cL_act 7 s [.ref (aX ad), .ref mo, .int x].toArray wsL_act RL := ⟨hx, hb, hml, hown, hts⟩
  have hS : va_S A s.heap s.heap [] := va_S.rf
  have hl := lv_entry ([.ref (aX ad), .ref mo, .int x]) (n := 7) (Nat.le_of_ble_eq_true rfl)
  rw [lg_entry_eq]
  generalize (lg_sl ([.ref (aX ad), .ref mo, .int x]) ++ List.replicate (7 - (lg_sl ([.ref (aX ad), .ref mo, .int x])).length) Slot.unset).toArray = ls at hl ⊢
  replace hl : lv_has ls 7 [(0, .ref (aX ad)), (1, .ref mo), (2, .int x)] := hl
  have hn := hm.le
  have hn9l := numN_lt x
  obtain ⟨hI, hoT, hoD, htd, htg, ⟨r9, hr1, hr2, hr3⟩, hmv, hmg, htm9⟩ := id hg
  have hnk := hC.ok.n
  have hvk := hm.v
  have hokd : okR (sF S 0) := hC.ok.1 0
  have hI2 : ∀ l, l < 4 → bN (vw S 0) l ≤ 2 := fun l hl => hI l hl
  have hE : exH hp hp := exH.rf
  have hzd := szR_le (sF S 0)
  refine lv_iload_n hx hb dL_act_0 rfl (lv_at hl 2 rfl) ?_
  refine lv_iconst (v := nI 1) hx hb dL_act_1 (by decide) ?_
  refine lv_ishr hx hb dL_act_2 ?_
  refine lv_iload_n hx hb dL_act_3 rfl (lv_at hl 2 rfl) ?_
  refine lv_iconst (v := nI 5) hx hb dL_act_4 (by decide) ?_
  refine lv_ishr hx hb dL_act_5 ?_
  refine lv_iconst (v := nI 3) hx hb dL_act_6 (by decide) ?_
  have hbl7 : blN ((x >>> (nI 5 &&& 31))) 3 < 3 := bl_lt _ (by omega)
  refine h_rdS (As := [.int (x >>> (nI 5 &&& 31)), .int (nI 3)]) (rest := [.int (x >>> (nI 1 &&& 31))]) hF (c_L_below l G hp ((x >>> (nI 5 &&& 31))) 3 (by omega) (by omega)) 2 gL_act_L_below rfl (by decide +kernel) ⟨Nat.le_of_ble_eq_true rfl, Nat.le_of_ble_eq_true rfl⟩ hK0 hV0 rfl hl.1 rfl (Nat.le_of_ble_eq_true rfl) (by show _ ≤ (3); omega) (by show _ ≤ (65 * (3)); omega) dL_act_7 ?_
  refine h_if_ne (a := blN ((x >>> (nI 5 &&& 31))) 3) (tgt := 18) hx hb dL_act_10 (by decide) (by omega) (fun c_10 => ?_) (fun c_10 => ?_)
  · refine lv_bipush (v := nI 13) hx hb dL_act_18 (by decide) ?_
    have hbl20 : blN ((x >>> (nI 1 &&& 31))) 13 < 13 := bl_lt _ (by omega)
    refine h_rdS (As := [.int (x >>> (nI 1 &&& 31)), .int (nI 13)]) (rest := []) hF (c_L_below l G hp ((x >>> (nI 1 &&& 31))) 13 (by omega) (by omega)) 2 gL_act_L_below rfl (by decide +kernel) ⟨Nat.le_of_ble_eq_true rfl, Nat.le_of_ble_eq_true rfl⟩ hK0 hV0 rfl hl.1 rfl (Nat.le_of_ble_eq_true rfl) (by show _ ≤ (3); omega) (by show _ ≤ (65 * (3)); omega) dL_act_20 ?_
    have hnum : blN ((x >>> (nI 1 &&& 31))) 13 = numN x := (if_neg c_10).symm
    rw [hnum]
    refine lv_istore_n (lv' := [(3, .int (nI (numN x))), (0, .ref (aX ad)), (1, .ref mo), (2, .int x)]) hx hb dL_act_23 rfl hl (by decide) rfl (fun ls hl => ?_)
    refine lv_iload_n hx hb dL_act_24 rfl (lv_at hl 3 rfl) ?_
    refine lv_bipush (v := nI 9) hx hb dL_act_25 (by decide) ?_
    refine lv_ishr hx hb dL_act_27 ?_
    refine lv_bipush (v := nI 18) hx hb dL_act_28 (by decide) ?_
    have hbl30 : blN ((x >>> (nI 9 &&& 31))) 18 < 18 := bl_lt _ (by omega)
    refine h_rdS (As := [.int (x >>> (nI 9 &&& 31)), .int (nI 18)]) (rest := []) hF (c_L_below l G hp ((x >>> (nI 9 &&& 31))) 18 (by omega) (by omega)) 2 gL_act_L_below rfl (by decide +kernel) ⟨Nat.le_of_ble_eq_true rfl, Nat.le_of_ble_eq_true rfl⟩ hK0 hV0 rfl hl.1 rfl (Nat.le_of_ble_eq_true rfl) (by show _ ≤ (3); omega) (by show _ ≤ (65 * (3)); omega) dL_act_30 ?_
    refine lv_tableOut (tgt := 273) hx hb dL_act_33 (Or.inr (by rw [nI_toInt (by omega)]; omega)) (by decide) ?_
    refine lv_iload_n hx hb dL_act_273 rfl (lv_at hl 3 rfl) ?_
    refine lv_iconst (v := nI 3) hx hb dL_act_274 (by decide) ?_
    refine lv_ishr hx hb dL_act_275 ?_
    refine lv_bipush (v := nI 100) hx hb dL_act_276 (by decide) ?_
    have hbl278 : blN ((x >>> (nI 3 &&& 31))) 100 < 100 := bl_lt _ (by omega)
    refine h_rdS (As := [.int (x >>> (nI 3 &&& 31)), .int (nI 100)]) (rest := []) hF (c_L_below l G hp ((x >>> (nI 3 &&& 31))) 100 (by omega) (by omega)) 2 gL_act_L_below rfl (by decide +kernel) ⟨Nat.le_of_ble_eq_true rfl, Nat.le_of_ble_eq_true rfl⟩ hK0 hV0 rfl hl.1 rfl (Nat.le_of_ble_eq_true rfl) (by show _ ≤ (3); omega) (by show _ ≤ (65 * (3)); omega) dL_act_278 ?_
    refine lv_istore (lv' := [(6, .int (nI (blN ((x >>> (nI 3 &&& 31))) 100))), (3, .int (nI (numN x))), (0, .ref (aX ad)), (1, .ref mo), (2, .int x)]) hx hb dL_act_281 hl (by decide) rfl (fun ls hl => ?_)
    refine lv_aload_n hx hb dL_act_283 rfl (lv_at hl 2 rfl) ?_
    refine lv_iload_n hx hb dL_act_284 rfl (lv_at hl 1 rfl) ?_
    refine lv_iload hx hb dL_act_285 (lv_at hl 0 rfl) ?_
    refine h_wrV (As := [.int (nI (numN x)), .int (nI (blN ((x >>> (nI 3 &&& 31))) 100))]) (rest := []) hF (c_X2_write l G A hp ad S hC hI (numN x) (blN ((x >>> (nI 3 &&& 31))) 100) (by omega) (by omega) hA0) 2 gL_act_X2_write rfl (by decide +kernel) ⟨Nat.le_of_ble_eq_true rfl, Nat.le_of_ble_eq_true rfl⟩ hK0 hV0 hA hS hC.xo rfl rfl rfl hl.1 rfl (Nat.le_of_ble_eq_true rfl) ⟨by show _ ≤ (3); omega, by show _ ≤ (65 * (3)); omega⟩ dL_act_287 (fun ro hp1 H locs hP1 hV0 hA0 hS => ?_)
    have hltw : nI (szR (sF (wrS S (numN x) (nI (blN (x >>> (nI 3 &&& 31)) 100))) 0)) < sR S := by rw [w_sF]; exact hlt9
    rw [if_pos hltw, if_pos hltw] at hP1
    obtain ⟨rfl, hT⟩ := hP1
    replace hm := hm.ms (cT.skw hC hT)
    have hCn := hT.1
    have hn := hm.le
    refine lv_aload_n hx hb dL_act_290 rfl (lv_at hl 3 rfl) ?_
    refine lv_iload_n hx hb dL_act_291 rfl (lv_at hl 1 rfl) ?_
    refine lv_iload hx hb dL_act_292 (lv_at hl 0 rfl) ?_
    refine h_wrV (As := [.int (nI (numN x)), .int (nI (blN ((x >>> (nI 3 &&& 31))) 100))]) (rest := [.int (bI (false))]) hF (c_X3_putN l G A hp1 mo dk lv lvl row (sR S) tm (sD S) (sF S 0) δ (vw S 0) ω hm hI2 hoT hoD hokd htd htg (by omega) (numN x) (by omega) (nI (blN ((x >>> (nI 3 &&& 31))) 100)) (Or.inr ⟨_, bl_lt _ (by omega), rfl⟩) hlt9 hA0) 2 gL_act_X3_put rfl (by decide +kernel) ⟨Nat.le_of_ble_eq_true rfl, Nat.le_of_ble_eq_true rfl⟩ hK0 hV0 hA hS hm.cmo rfl rfl rfl hl.1 rfl (Nat.le_of_ble_eq_true rfl) ⟨by show _ ≤ (3); omega, by show _ ≤ (65 * (3)); omega⟩ dL_act_294 (fun ro hp2 H locs hP1 hV0 hA0 hS => ?_)
    obtain ⟨rfl, ⟨q1, dk2, lvl2, row2, hm2⟩, hE3⟩ := hP1
    replace hCn := hCn.mvX hE3
    refine lv_icmp_ne (tgt := 304) hx hb dL_act_297 (by decide) (fun c_297 => absurd rfl c_297) (fun c_297 => ?_)
    refine lv_iconst (v := nI 1) hx hb dL_act_300 (by decide) ?_
    refine lv_goto (tgt := 305) hx hb dL_act_301 (by decide) ?_
    refine W.widen (k := (3)) (n := (65 * (3))) (by omega) (by omega) ?_
    exact W.zret hx hb hr (by first | exact narrow_bI _ | rfl) (h_qW ⟨rfl, wrS S (numN x) (nI (blN (x >>> (nI 3 &&& 31)) 100)), G_mono (G_putN hg (nIne2 (bl_lt _ (by omega))) hCn hm2) (by omega) (by omega) (by omega), by have := K_putN (S := S) (x := (numN x)) (v := nI (blN (x >>> (nI 3 &&& 31)) 100)) (by omega) (nIne2 (bl_lt _ (by omega))); omega⟩ hV0 hA0 hS) hS.2.2 dL_act_305 hlocks
  · refine lv_bipush (v := nI 64) hx hb dL_act_13 (by decide) ?_
    refine lv_goto (tgt := 20) hx hb dL_act_15 (by decide) ?_
    have hbl20 : blN ((x >>> (nI 1 &&& 31))) 64 < 64 := bl_lt _ (by omega)
    refine h_rdS (As := [.int (x >>> (nI 1 &&& 31)), .int (nI 64)]) (rest := []) hF (c_L_below l G hp ((x >>> (nI 1 &&& 31))) 64 (by omega) (by omega)) 2 gL_act_L_below rfl (by decide +kernel) ⟨Nat.le_of_ble_eq_true rfl, Nat.le_of_ble_eq_true rfl⟩ hK0 hV0 rfl hl.1 rfl (Nat.le_of_ble_eq_true rfl) (by show _ ≤ (3); omega) (by show _ ≤ (65 * (3)); omega) dL_act_20 ?_
    have hnum : blN ((x >>> (nI 1 &&& 31))) 64 = numN x := (if_pos c_10).symm
    rw [hnum]
    refine lv_istore_n (lv' := [(3, .int (nI (numN x))), (0, .ref (aX ad)), (1, .ref mo), (2, .int x)]) hx hb dL_act_23 rfl hl (by decide) rfl (fun ls hl => ?_)
    refine lv_iload_n hx hb dL_act_24 rfl (lv_at hl 3 rfl) ?_
    refine lv_bipush (v := nI 9) hx hb dL_act_25 (by decide) ?_
    refine lv_ishr hx hb dL_act_27 ?_
    refine lv_bipush (v := nI 18) hx hb dL_act_28 (by decide) ?_
    have hbl30 : blN ((x >>> (nI 9 &&& 31))) 18 < 18 := bl_lt _ (by omega)
    refine h_rdS (As := [.int (x >>> (nI 9 &&& 31)), .int (nI 18)]) (rest := []) hF (c_L_below l G hp ((x >>> (nI 9 &&& 31))) 18 (by omega) (by omega)) 2 gL_act_L_below rfl (by decide +kernel) ⟨Nat.le_of_ble_eq_true rfl, Nat.le_of_ble_eq_true rfl⟩ hK0 hV0 rfl hl.1 rfl (Nat.le_of_ble_eq_true rfl) (by show _ ≤ (3); omega) (by show _ ≤ (65 * (3)); omega) dL_act_30 ?_
    refine lv_tableOut (tgt := 273) hx hb dL_act_33 (Or.inr (by rw [nI_toInt (by omega)]; omega)) (by decide) ?_
    refine lv_iload_n hx hb dL_act_273 rfl (lv_at hl 3 rfl) ?_
    refine lv_iconst (v := nI 3) hx hb dL_act_274 (by decide) ?_
    refine lv_ishr hx hb dL_act_275 ?_
    refine lv_bipush (v := nI 100) hx hb dL_act_276 (by decide) ?_
    have hbl278 : blN ((x >>> (nI 3 &&& 31))) 100 < 100 := bl_lt _ (by omega)
    refine h_rdS (As := [.int (x >>> (nI 3 &&& 31)), .int (nI 100)]) (rest := []) hF (c_L_below l G hp ((x >>> (nI 3 &&& 31))) 100 (by omega) (by omega)) 2 gL_act_L_below rfl (by decide +kernel) ⟨Nat.le_of_ble_eq_true rfl, Nat.le_of_ble_eq_true rfl⟩ hK0 hV0 rfl hl.1 rfl (Nat.le_of_ble_eq_true rfl) (by show _ ≤ (3); omega) (by show _ ≤ (65 * (3)); omega) dL_act_278 ?_
    refine lv_istore (lv' := [(6, .int (nI (blN ((x >>> (nI 3 &&& 31))) 100))), (3, .int (nI (numN x))), (0, .ref (aX ad)), (1, .ref mo), (2, .int x)]) hx hb dL_act_281 hl (by decide) rfl (fun ls hl => ?_)
    refine lv_aload_n hx hb dL_act_283 rfl (lv_at hl 2 rfl) ?_
    refine lv_iload_n hx hb dL_act_284 rfl (lv_at hl 1 rfl) ?_
    refine lv_iload hx hb dL_act_285 (lv_at hl 0 rfl) ?_
    refine h_wrV (As := [.int (nI (numN x)), .int (nI (blN ((x >>> (nI 3 &&& 31))) 100))]) (rest := []) hF (c_X2_write l G A hp ad S hC hI (numN x) (blN ((x >>> (nI 3 &&& 31))) 100) (by omega) (by omega) hA0) 2 gL_act_X2_write rfl (by decide +kernel) ⟨Nat.le_of_ble_eq_true rfl, Nat.le_of_ble_eq_true rfl⟩ hK0 hV0 hA hS hC.xo rfl rfl rfl hl.1 rfl (Nat.le_of_ble_eq_true rfl) ⟨by show _ ≤ (3); omega, by show _ ≤ (65 * (3)); omega⟩ dL_act_287 (fun ro hp1 H locs hP1 hV0 hA0 hS => ?_)
    have hltw : nI (szR (sF (wrS S (numN x) (nI (blN (x >>> (nI 3 &&& 31)) 100))) 0)) < sR S := by rw [w_sF]; exact hlt9
    rw [if_pos hltw, if_pos hltw] at hP1
    obtain ⟨rfl, hT⟩ := hP1
    replace hm := hm.ms (cT.skw hC hT)
    have hCn := hT.1
    have hn := hm.le
    refine lv_aload_n hx hb dL_act_290 rfl (lv_at hl 3 rfl) ?_
    refine lv_iload_n hx hb dL_act_291 rfl (lv_at hl 1 rfl) ?_
    refine lv_iload hx hb dL_act_292 (lv_at hl 0 rfl) ?_
    refine h_wrV (As := [.int (nI (numN x)), .int (nI (blN ((x >>> (nI 3 &&& 31))) 100))]) (rest := [.int (bI (false))]) hF (c_X3_putN l G A hp1 mo dk lv lvl row (sR S) tm (sD S) (sF S 0) δ (vw S 0) ω hm hI2 hoT hoD hokd htd htg (by omega) (numN x) (by omega) (nI (blN ((x >>> (nI 3 &&& 31))) 100)) (Or.inr ⟨_, bl_lt _ (by omega), rfl⟩) hlt9 hA0) 2 gL_act_X3_put rfl (by decide +kernel) ⟨Nat.le_of_ble_eq_true rfl, Nat.le_of_ble_eq_true rfl⟩ hK0 hV0 hA hS hm.cmo rfl rfl rfl hl.1 rfl (Nat.le_of_ble_eq_true rfl) ⟨by show _ ≤ (3); omega, by show _ ≤ (65 * (3)); omega⟩ dL_act_294 (fun ro hp2 H locs hP1 hV0 hA0 hS => ?_)
    obtain ⟨rfl, ⟨q1, dk2, lvl2, row2, hm2⟩, hE3⟩ := hP1
    replace hCn := hCn.mvX hE3
    refine lv_icmp_ne (tgt := 304) hx hb dL_act_297 (by decide) (fun c_297 => absurd rfl c_297) (fun c_297 => ?_)
    refine lv_iconst (v := nI 1) hx hb dL_act_300 (by decide) ?_
    refine lv_goto (tgt := 305) hx hb dL_act_301 (by decide) ?_
    refine W.widen (k := (3)) (n := (65 * (3))) (by omega) (by omega) ?_
    exact W.zret hx hb hr (by first | exact narrow_bI _ | rfl) (h_qW ⟨rfl, wrS S (numN x) (nI (blN (x >>> (nI 3 &&& 31)) 100)), G_mono (G_putN hg (nIne2 (bl_lt _ (by omega))) hCn hm2) (by omega) (by omega) (by omega), by have := K_putN (S := S) (x := (numN x)) (v := nI (blN (x >>> (nI 3 &&& 31)) 100)) (by omega) (nIne2 (bl_lt _ (by omega))); omega⟩ hV0 hA0 hS) hS.2.2 dL_act_305 hlocks

set_option maxHeartbeats 1000000 in
set_option maxRecDepth 100000 in
theorem c_act_5B (l : Launch) (G : hG) (A : Nat → Prop) (hp : HP) (ad : Nat → Nat) (S : CS) (hC : cW ad S hp) (mo dk lv : Nat) (lvl : Nat → Nat) (row : Nat → Nat → Nat) (tm : Nat) (δ : TG) (ω : TS) (hm : sA mo dk lv lvl row (sR S) tm (sD S) (sF S 0) δ (vw S 0) ω hp) (tb mb gb : Nat) (hg : gI tb mb gb S tm δ ω) (htb : tb < 1000) (x : Int32) (hsw : blN (x >>> (nI 9 &&& 31)) 18 = 5 ∨ blN (x >>> (nI 9 &&& 31)) 18 = 6 ∨ blN (x >>> (nI 9 &&& 31)) 18 = 7 ∨ blN (x >>> (nI 9 &&& 31)) 18 = 8) (hlt9 : ¬ nI (szR (upd (sF S 0) (numN x) (-1))) < sR S) (hA0 : hIn A hp) : hWr l yL_act wsL_act 7 157 (5 + stC (cmB (vw S 0) 0 (upd (sF S 0) (numN x) (-1))) 4) (65 * (5 + stC (cmB (vw S 0) 0 (upd (sF S 0) (numN x) (-1))) 4)) G A hp [.ref (aX ad), .ref mo, .int x] (fun ro hp' => ro = some (.int (bI true)) ∧ ∃ S2, gX ad mo lv (tb + 1) (mb + 320) (gb + 5) S2 hp' ∧ 5 + stC (cmB (vw S 0) 0 (upd (sF S 0) (numN x) (-1))) 4 + gS S2 ≤ gS S + 600) := by
  refine Met.ofW (cc := cL_act) (maxL := 7) (ret := (some .boolean)) (by decide) rfl ?_
  intro p e s m args below meth c s₁ B hml hv
  obtain ⟨rfl, hV0, hK0, hA⟩ := hv
  have hx := B.exec
  have hb := B.bytes
  have hr := B.returns
  have hts := atoms_spec (ws := wsL_act) B.pre
  have hown : s.vm.findClass RL = some m.cls := findClass_of_methodNamed B.named
  have hlocks := B.notSynchronized
  have hF : CallFix p m c cL_act 7 s [.ref (aX ad), .ref mo, .int x].toArray wsL_act RL := ⟨hx, hb, hml, hown, hts⟩
  have hS : va_S A s.heap s.heap [] := va_S.rf
  have hl := lv_entry ([.ref (aX ad), .ref mo, .int x]) (n := 7) (Nat.le_of_ble_eq_true rfl)
  rw [lg_entry_eq]
  generalize (lg_sl ([.ref (aX ad), .ref mo, .int x]) ++ List.replicate (7 - (lg_sl ([.ref (aX ad), .ref mo, .int x])).length) Slot.unset).toArray = ls at hl ⊢
  replace hl : lv_has ls 7 [(0, .ref (aX ad)), (1, .ref mo), (2, .int x)] := hl
  have hn := hm.le
  have hn9l := numN_lt x
  obtain ⟨hI, hoT, hoD, htd, htg, ⟨r9, hr1, hr2, hr3⟩, hmv, hmg, htm9⟩ := id hg
  have hnk := hC.ok.n
  have hvk := hm.v
  have hokd : okR (sF S 0) := hC.ok.1 0
  have hI2 : ∀ l, l < 4 → bN (vw S 0) l ≤ 2 := fun l hl => hI l hl
  have hE : exH hp hp := exH.rf
  have hzd := szR_le (sF S 0)
  refine lv_iload_n hx hb dL_act_0 rfl (lv_at hl 2 rfl) ?_
  refine lv_iconst (v := nI 1) hx hb dL_act_1 (by decide) ?_
  refine lv_ishr hx hb dL_act_2 ?_
  refine lv_iload_n hx hb dL_act_3 rfl (lv_at hl 2 rfl) ?_
  refine lv_iconst (v := nI 5) hx hb dL_act_4 (by decide) ?_
  refine lv_ishr hx hb dL_act_5 ?_
  refine lv_iconst (v := nI 3) hx hb dL_act_6 (by decide) ?_
  have hbl7 : blN ((x >>> (nI 5 &&& 31))) 3 < 3 := bl_lt _ (by omega)
  refine h_rdS (As := [.int (x >>> (nI 5 &&& 31)), .int (nI 3)]) (rest := [.int (x >>> (nI 1 &&& 31))]) hF (c_L_below l G hp ((x >>> (nI 5 &&& 31))) 3 (by omega) (by omega)) 2 gL_act_L_below rfl (by decide +kernel) ⟨Nat.le_of_ble_eq_true rfl, Nat.le_of_ble_eq_true rfl⟩ hK0 hV0 rfl hl.1 rfl (Nat.le_of_ble_eq_true rfl) (by show _ ≤ (5 + stC (cmB (vw S 0) 0 (upd (sF S 0) (numN x) (-1))) 4); omega) (by show _ ≤ (65 * (5 + stC (cmB (vw S 0) 0 (upd (sF S 0) (numN x) (-1))) 4)); omega) dL_act_7 ?_
  refine h_if_ne (a := blN ((x >>> (nI 5 &&& 31))) 3) (tgt := 18) hx hb dL_act_10 (by decide) (by omega) (fun c_10 => ?_) (fun c_10 => ?_)
  · refine lv_bipush (v := nI 13) hx hb dL_act_18 (by decide) ?_
    have hbl20 : blN ((x >>> (nI 1 &&& 31))) 13 < 13 := bl_lt _ (by omega)
    refine h_rdS (As := [.int (x >>> (nI 1 &&& 31)), .int (nI 13)]) (rest := []) hF (c_L_below l G hp ((x >>> (nI 1 &&& 31))) 13 (by omega) (by omega)) 2 gL_act_L_below rfl (by decide +kernel) ⟨Nat.le_of_ble_eq_true rfl, Nat.le_of_ble_eq_true rfl⟩ hK0 hV0 rfl hl.1 rfl (Nat.le_of_ble_eq_true rfl) (by show _ ≤ (5 + stC (cmB (vw S 0) 0 (upd (sF S 0) (numN x) (-1))) 4); omega) (by show _ ≤ (65 * (5 + stC (cmB (vw S 0) 0 (upd (sF S 0) (numN x) (-1))) 4)); omega) dL_act_20 ?_
    have hnum : blN ((x >>> (nI 1 &&& 31))) 13 = numN x := (if_neg c_10).symm
    rw [hnum]
    refine lv_istore_n (lv' := [(3, .int (nI (numN x))), (0, .ref (aX ad)), (1, .ref mo), (2, .int x)]) hx hb dL_act_23 rfl hl (by decide) rfl (fun ls hl => ?_)
    refine lv_iload_n hx hb dL_act_24 rfl (lv_at hl 3 rfl) ?_
    refine lv_bipush (v := nI 9) hx hb dL_act_25 (by decide) ?_
    refine lv_ishr hx hb dL_act_27 ?_
    refine lv_bipush (v := nI 18) hx hb dL_act_28 (by decide) ?_
    have hbl30 : blN ((x >>> (nI 9 &&& 31))) 18 < 18 := bl_lt _ (by omega)
    refine h_rdS (As := [.int (x >>> (nI 9 &&& 31)), .int (nI 18)]) (rest := []) hF (c_L_below l G hp ((x >>> (nI 9 &&& 31))) 18 (by omega) (by omega)) 2 gL_act_L_below rfl (by decide +kernel) ⟨Nat.le_of_ble_eq_true rfl, Nat.le_of_ble_eq_true rfl⟩ hK0 hV0 rfl hl.1 rfl (Nat.le_of_ble_eq_true rfl) (by show _ ≤ (5 + stC (cmB (vw S 0) 0 (upd (sF S 0) (numN x) (-1))) 4); omega) (by show _ ≤ (65 * (5 + stC (cmB (vw S 0) 0 (upd (sF S 0) (numN x) (-1))) 4)); omega) dL_act_30 ?_
    rcases hsw with hsw | hsw | hsw | hsw
    · rw [hsw]
      refine lv_tableIn (off := 220) (tgt := 253) hx hb dL_act_33 (by decide) (by decide) (by decide) (by decide) ?_
      refine lv_aload_n hx hb dL_act_253 rfl (lv_at hl 1 rfl) ?_
      refine lv_iload_n hx hb dL_act_254 rfl (lv_at hl 0 rfl) ?_
      refine h_wrV (As := [.int (nI (numN x))]) (rest := []) hF (c_X2_strike l G A hp ad S hC hI (numN x) (by omega) hA0) 1 gL_act_X2_strike rfl (by decide +kernel) ⟨Nat.le_of_ble_eq_true rfl, Nat.le_of_ble_eq_true rfl⟩ hK0 hV0 hA hS hC.xo rfl rfl rfl hl.1 rfl (Nat.le_of_ble_eq_true rfl) ⟨by show _ ≤ (5 + stC (cmB (vw S 0) 0 (upd (sF S 0) (numN x) (-1))) 4); omega, by show _ ≤ (65 * (5 + stC (cmB (vw S 0) 0 (upd (sF S 0) (numN x) (-1))) 4)); omega⟩ dL_act_255 (fun ro hp1 H locs hP1 hV0 hA0 hS => ?_)
      have hltw : ¬ nI (szR (sF (wrS S (numN x) (-1)) 0)) < sR S := by rw [w_sF]; exact hlt9
      rw [if_neg hltw, if_neg hltw] at hP1
      obtain ⟨rfl, hT⟩ := hP1
      replace hm := hm.ms (cT.skw hC hT)
      have hCn := hT.1
      have hn := hm.le
      refine lv_aload_n hx hb dL_act_258 rfl (lv_at hl 2 rfl) ?_
      refine lv_iload_n hx hb dL_act_259 rfl (lv_at hl 0 rfl) ?_
      refine lv_iconst (v := (-1)) hx hb dL_act_260 (by decide) ?_
      refine h_wrV (As := [.int (nI (numN x)), .int (-1)]) (rest := [.int (bI (true))]) hF (c_X3_putB l G A hp1 mo dk lv lvl row (sR S) tm (sD S) (sF S 0) δ (vw S 0) ω hm hI2 hoT hoD hokd htd htg (by omega) (numN x) (by omega) ((-1)) (Or.inl rfl) hlt9 hA0) 2 gL_act_X3_put rfl (by decide +kernel) ⟨Nat.le_of_ble_eq_true rfl, Nat.le_of_ble_eq_true rfl⟩ hK0 hV0 hA hS hm.cmo rfl rfl rfl hl.1 rfl (Nat.le_of_ble_eq_true rfl) ⟨by show _ ≤ (5 + stC (cmB (vw S 0) 0 (upd (sF S 0) (numN x) (-1))) 4); omega, by show _ ≤ (65 * (5 + stC (cmB (vw S 0) 0 (upd (sF S 0) (numN x) (-1))) 4)); omega⟩ dL_act_261 (fun ro hp2 H locs hP1 hV0 hA0 hS => ?_)
      obtain ⟨rfl, ⟨q1, dk2, lvl2, row2, hm2⟩, hE3⟩ := hP1
      replace hCn := hCn.mvX hE3
      refine lv_icmp_ne (tgt := 271) hx hb dL_act_264 (by decide) (fun c_264 => absurd rfl c_264) (fun c_264 => ?_)
      refine lv_iconst (v := nI 1) hx hb dL_act_267 (by decide) ?_
      refine lv_goto (tgt := 272) hx hb dL_act_268 (by decide) ?_
      refine W.widen (k := (5 + stC (cmB (vw S 0) 0 (upd (sF S 0) (numN x) (-1))) 4)) (n := (65 * (5 + stC (cmB (vw S 0) 0 (upd (sF S 0) (numN x) (-1))) 4))) (by omega) (by omega) ?_
      exact W.zret hx hb hr (by first | exact narrow_bI _ | rfl) (h_qW ⟨rfl, bfS (wrS S (numN x) (-1)), G_mono (G_putB hg hnk hvk (by decide) (by omega) (okR_put hokd (by omega) (Or.inl rfl)) hCn hm2) (by omega) (by omega) (by omega), by have := K_putB (S := S) (x := (numN x)) (v := -1) hnk hI hvk (okR_put hokd (by omega) (Or.inl rfl)) (by omega) (by decide); omega⟩ hV0 hA0 hS) hS.2.2 dL_act_272 hlocks
    · rw [hsw]
      refine lv_tableIn (off := 220) (tgt := 253) hx hb dL_act_33 (by decide) (by decide) (by decide) (by decide) ?_
      refine lv_aload_n hx hb dL_act_253 rfl (lv_at hl 1 rfl) ?_
      refine lv_iload_n hx hb dL_act_254 rfl (lv_at hl 0 rfl) ?_
      refine h_wrV (As := [.int (nI (numN x))]) (rest := []) hF (c_X2_strike l G A hp ad S hC hI (numN x) (by omega) hA0) 1 gL_act_X2_strike rfl (by decide +kernel) ⟨Nat.le_of_ble_eq_true rfl, Nat.le_of_ble_eq_true rfl⟩ hK0 hV0 hA hS hC.xo rfl rfl rfl hl.1 rfl (Nat.le_of_ble_eq_true rfl) ⟨by show _ ≤ (5 + stC (cmB (vw S 0) 0 (upd (sF S 0) (numN x) (-1))) 4); omega, by show _ ≤ (65 * (5 + stC (cmB (vw S 0) 0 (upd (sF S 0) (numN x) (-1))) 4)); omega⟩ dL_act_255 (fun ro hp1 H locs hP1 hV0 hA0 hS => ?_)
      have hltw : ¬ nI (szR (sF (wrS S (numN x) (-1)) 0)) < sR S := by rw [w_sF]; exact hlt9
      rw [if_neg hltw, if_neg hltw] at hP1
      obtain ⟨rfl, hT⟩ := hP1
      replace hm := hm.ms (cT.skw hC hT)
      have hCn := hT.1
      have hn := hm.le
      refine lv_aload_n hx hb dL_act_258 rfl (lv_at hl 2 rfl) ?_
      refine lv_iload_n hx hb dL_act_259 rfl (lv_at hl 0 rfl) ?_
      refine lv_iconst (v := (-1)) hx hb dL_act_260 (by decide) ?_
      refine h_wrV (As := [.int (nI (numN x)), .int (-1)]) (rest := [.int (bI (true))]) hF (c_X3_putB l G A hp1 mo dk lv lvl row (sR S) tm (sD S) (sF S 0) δ (vw S 0) ω hm hI2 hoT hoD hokd htd htg (by omega) (numN x) (by omega) ((-1)) (Or.inl rfl) hlt9 hA0) 2 gL_act_X3_put rfl (by decide +kernel) ⟨Nat.le_of_ble_eq_true rfl, Nat.le_of_ble_eq_true rfl⟩ hK0 hV0 hA hS hm.cmo rfl rfl rfl hl.1 rfl (Nat.le_of_ble_eq_true rfl) ⟨by show _ ≤ (5 + stC (cmB (vw S 0) 0 (upd (sF S 0) (numN x) (-1))) 4); omega, by show _ ≤ (65 * (5 + stC (cmB (vw S 0) 0 (upd (sF S 0) (numN x) (-1))) 4)); omega⟩ dL_act_261 (fun ro hp2 H locs hP1 hV0 hA0 hS => ?_)
      obtain ⟨rfl, ⟨q1, dk2, lvl2, row2, hm2⟩, hE3⟩ := hP1
      replace hCn := hCn.mvX hE3
      refine lv_icmp_ne (tgt := 271) hx hb dL_act_264 (by decide) (fun c_264 => absurd rfl c_264) (fun c_264 => ?_)
      refine lv_iconst (v := nI 1) hx hb dL_act_267 (by decide) ?_
      refine lv_goto (tgt := 272) hx hb dL_act_268 (by decide) ?_
      refine W.widen (k := (5 + stC (cmB (vw S 0) 0 (upd (sF S 0) (numN x) (-1))) 4)) (n := (65 * (5 + stC (cmB (vw S 0) 0 (upd (sF S 0) (numN x) (-1))) 4))) (by omega) (by omega) ?_
      exact W.zret hx hb hr (by first | exact narrow_bI _ | rfl) (h_qW ⟨rfl, bfS (wrS S (numN x) (-1)), G_mono (G_putB hg hnk hvk (by decide) (by omega) (okR_put hokd (by omega) (Or.inl rfl)) hCn hm2) (by omega) (by omega) (by omega), by have := K_putB (S := S) (x := (numN x)) (v := -1) hnk hI hvk (okR_put hokd (by omega) (Or.inl rfl)) (by omega) (by decide); omega⟩ hV0 hA0 hS) hS.2.2 dL_act_272 hlocks
    · rw [hsw]
      refine lv_tableIn (off := 220) (tgt := 253) hx hb dL_act_33 (by decide) (by decide) (by decide) (by decide) ?_
      refine lv_aload_n hx hb dL_act_253 rfl (lv_at hl 1 rfl) ?_
      refine lv_iload_n hx hb dL_act_254 rfl (lv_at hl 0 rfl) ?_
      refine h_wrV (As := [.int (nI (numN x))]) (rest := []) hF (c_X2_strike l G A hp ad S hC hI (numN x) (by omega) hA0) 1 gL_act_X2_strike rfl (by decide +kernel) ⟨Nat.le_of_ble_eq_true rfl, Nat.le_of_ble_eq_true rfl⟩ hK0 hV0 hA hS hC.xo rfl rfl rfl hl.1 rfl (Nat.le_of_ble_eq_true rfl) ⟨by show _ ≤ (5 + stC (cmB (vw S 0) 0 (upd (sF S 0) (numN x) (-1))) 4); omega, by show _ ≤ (65 * (5 + stC (cmB (vw S 0) 0 (upd (sF S 0) (numN x) (-1))) 4)); omega⟩ dL_act_255 (fun ro hp1 H locs hP1 hV0 hA0 hS => ?_)
      have hltw : ¬ nI (szR (sF (wrS S (numN x) (-1)) 0)) < sR S := by rw [w_sF]; exact hlt9
      rw [if_neg hltw, if_neg hltw] at hP1
      obtain ⟨rfl, hT⟩ := hP1
      replace hm := hm.ms (cT.skw hC hT)
      have hCn := hT.1
      have hn := hm.le
      refine lv_aload_n hx hb dL_act_258 rfl (lv_at hl 2 rfl) ?_
      refine lv_iload_n hx hb dL_act_259 rfl (lv_at hl 0 rfl) ?_
      refine lv_iconst (v := (-1)) hx hb dL_act_260 (by decide) ?_
      refine h_wrV (As := [.int (nI (numN x)), .int (-1)]) (rest := [.int (bI (true))]) hF (c_X3_putB l G A hp1 mo dk lv lvl row (sR S) tm (sD S) (sF S 0) δ (vw S 0) ω hm hI2 hoT hoD hokd htd htg (by omega) (numN x) (by omega) ((-1)) (Or.inl rfl) hlt9 hA0) 2 gL_act_X3_put rfl (by decide +kernel) ⟨Nat.le_of_ble_eq_true rfl, Nat.le_of_ble_eq_true rfl⟩ hK0 hV0 hA hS hm.cmo rfl rfl rfl hl.1 rfl (Nat.le_of_ble_eq_true rfl) ⟨by show _ ≤ (5 + stC (cmB (vw S 0) 0 (upd (sF S 0) (numN x) (-1))) 4); omega, by show _ ≤ (65 * (5 + stC (cmB (vw S 0) 0 (upd (sF S 0) (numN x) (-1))) 4)); omega⟩ dL_act_261 (fun ro hp2 H locs hP1 hV0 hA0 hS => ?_)
      obtain ⟨rfl, ⟨q1, dk2, lvl2, row2, hm2⟩, hE3⟩ := hP1
      replace hCn := hCn.mvX hE3
      refine lv_icmp_ne (tgt := 271) hx hb dL_act_264 (by decide) (fun c_264 => absurd rfl c_264) (fun c_264 => ?_)
      refine lv_iconst (v := nI 1) hx hb dL_act_267 (by decide) ?_
      refine lv_goto (tgt := 272) hx hb dL_act_268 (by decide) ?_
      refine W.widen (k := (5 + stC (cmB (vw S 0) 0 (upd (sF S 0) (numN x) (-1))) 4)) (n := (65 * (5 + stC (cmB (vw S 0) 0 (upd (sF S 0) (numN x) (-1))) 4))) (by omega) (by omega) ?_
      exact W.zret hx hb hr (by first | exact narrow_bI _ | rfl) (h_qW ⟨rfl, bfS (wrS S (numN x) (-1)), G_mono (G_putB hg hnk hvk (by decide) (by omega) (okR_put hokd (by omega) (Or.inl rfl)) hCn hm2) (by omega) (by omega) (by omega), by have := K_putB (S := S) (x := (numN x)) (v := -1) hnk hI hvk (okR_put hokd (by omega) (Or.inl rfl)) (by omega) (by decide); omega⟩ hV0 hA0 hS) hS.2.2 dL_act_272 hlocks
    · rw [hsw]
      refine lv_tableIn (off := 220) (tgt := 253) hx hb dL_act_33 (by decide) (by decide) (by decide) (by decide) ?_
      refine lv_aload_n hx hb dL_act_253 rfl (lv_at hl 1 rfl) ?_
      refine lv_iload_n hx hb dL_act_254 rfl (lv_at hl 0 rfl) ?_
      refine h_wrV (As := [.int (nI (numN x))]) (rest := []) hF (c_X2_strike l G A hp ad S hC hI (numN x) (by omega) hA0) 1 gL_act_X2_strike rfl (by decide +kernel) ⟨Nat.le_of_ble_eq_true rfl, Nat.le_of_ble_eq_true rfl⟩ hK0 hV0 hA hS hC.xo rfl rfl rfl hl.1 rfl (Nat.le_of_ble_eq_true rfl) ⟨by show _ ≤ (5 + stC (cmB (vw S 0) 0 (upd (sF S 0) (numN x) (-1))) 4); omega, by show _ ≤ (65 * (5 + stC (cmB (vw S 0) 0 (upd (sF S 0) (numN x) (-1))) 4)); omega⟩ dL_act_255 (fun ro hp1 H locs hP1 hV0 hA0 hS => ?_)
      have hltw : ¬ nI (szR (sF (wrS S (numN x) (-1)) 0)) < sR S := by rw [w_sF]; exact hlt9
      rw [if_neg hltw, if_neg hltw] at hP1
      obtain ⟨rfl, hT⟩ := hP1
      replace hm := hm.ms (cT.skw hC hT)
      have hCn := hT.1
      have hn := hm.le
      refine lv_aload_n hx hb dL_act_258 rfl (lv_at hl 2 rfl) ?_
      refine lv_iload_n hx hb dL_act_259 rfl (lv_at hl 0 rfl) ?_
      refine lv_iconst (v := (-1)) hx hb dL_act_260 (by decide) ?_
      refine h_wrV (As := [.int (nI (numN x)), .int (-1)]) (rest := [.int (bI (true))]) hF (c_X3_putB l G A hp1 mo dk lv lvl row (sR S) tm (sD S) (sF S 0) δ (vw S 0) ω hm hI2 hoT hoD hokd htd htg (by omega) (numN x) (by omega) ((-1)) (Or.inl rfl) hlt9 hA0) 2 gL_act_X3_put rfl (by decide +kernel) ⟨Nat.le_of_ble_eq_true rfl, Nat.le_of_ble_eq_true rfl⟩ hK0 hV0 hA hS hm.cmo rfl rfl rfl hl.1 rfl (Nat.le_of_ble_eq_true rfl) ⟨by show _ ≤ (5 + stC (cmB (vw S 0) 0 (upd (sF S 0) (numN x) (-1))) 4); omega, by show _ ≤ (65 * (5 + stC (cmB (vw S 0) 0 (upd (sF S 0) (numN x) (-1))) 4)); omega⟩ dL_act_261 (fun ro hp2 H locs hP1 hV0 hA0 hS => ?_)
      obtain ⟨rfl, ⟨q1, dk2, lvl2, row2, hm2⟩, hE3⟩ := hP1
      replace hCn := hCn.mvX hE3
      refine lv_icmp_ne (tgt := 271) hx hb dL_act_264 (by decide) (fun c_264 => absurd rfl c_264) (fun c_264 => ?_)
      refine lv_iconst (v := nI 1) hx hb dL_act_267 (by decide) ?_
      refine lv_goto (tgt := 272) hx hb dL_act_268 (by decide) ?_
      refine W.widen (k := (5 + stC (cmB (vw S 0) 0 (upd (sF S 0) (numN x) (-1))) 4)) (n := (65 * (5 + stC (cmB (vw S 0) 0 (upd (sF S 0) (numN x) (-1))) 4))) (by omega) (by omega) ?_
      exact W.zret hx hb hr (by first | exact narrow_bI _ | rfl) (h_qW ⟨rfl, bfS (wrS S (numN x) (-1)), G_mono (G_putB hg hnk hvk (by decide) (by omega) (okR_put hokd (by omega) (Or.inl rfl)) hCn hm2) (by omega) (by omega) (by omega), by have := K_putB (S := S) (x := (numN x)) (v := -1) hnk hI hvk (okR_put hokd (by omega) (Or.inl rfl)) (by omega) (by decide); omega⟩ hV0 hA0 hS) hS.2.2 dL_act_272 hlocks
  · refine lv_bipush (v := nI 64) hx hb dL_act_13 (by decide) ?_
    refine lv_goto (tgt := 20) hx hb dL_act_15 (by decide) ?_
    have hbl20 : blN ((x >>> (nI 1 &&& 31))) 64 < 64 := bl_lt _ (by omega)
    refine h_rdS (As := [.int (x >>> (nI 1 &&& 31)), .int (nI 64)]) (rest := []) hF (c_L_below l G hp ((x >>> (nI 1 &&& 31))) 64 (by omega) (by omega)) 2 gL_act_L_below rfl (by decide +kernel) ⟨Nat.le_of_ble_eq_true rfl, Nat.le_of_ble_eq_true rfl⟩ hK0 hV0 rfl hl.1 rfl (Nat.le_of_ble_eq_true rfl) (by show _ ≤ (5 + stC (cmB (vw S 0) 0 (upd (sF S 0) (numN x) (-1))) 4); omega) (by show _ ≤ (65 * (5 + stC (cmB (vw S 0) 0 (upd (sF S 0) (numN x) (-1))) 4)); omega) dL_act_20 ?_
    have hnum : blN ((x >>> (nI 1 &&& 31))) 64 = numN x := (if_pos c_10).symm
    rw [hnum]
    refine lv_istore_n (lv' := [(3, .int (nI (numN x))), (0, .ref (aX ad)), (1, .ref mo), (2, .int x)]) hx hb dL_act_23 rfl hl (by decide) rfl (fun ls hl => ?_)
    refine lv_iload_n hx hb dL_act_24 rfl (lv_at hl 3 rfl) ?_
    refine lv_bipush (v := nI 9) hx hb dL_act_25 (by decide) ?_
    refine lv_ishr hx hb dL_act_27 ?_
    refine lv_bipush (v := nI 18) hx hb dL_act_28 (by decide) ?_
    have hbl30 : blN ((x >>> (nI 9 &&& 31))) 18 < 18 := bl_lt _ (by omega)
    refine h_rdS (As := [.int (x >>> (nI 9 &&& 31)), .int (nI 18)]) (rest := []) hF (c_L_below l G hp ((x >>> (nI 9 &&& 31))) 18 (by omega) (by omega)) 2 gL_act_L_below rfl (by decide +kernel) ⟨Nat.le_of_ble_eq_true rfl, Nat.le_of_ble_eq_true rfl⟩ hK0 hV0 rfl hl.1 rfl (Nat.le_of_ble_eq_true rfl) (by show _ ≤ (5 + stC (cmB (vw S 0) 0 (upd (sF S 0) (numN x) (-1))) 4); omega) (by show _ ≤ (65 * (5 + stC (cmB (vw S 0) 0 (upd (sF S 0) (numN x) (-1))) 4)); omega) dL_act_30 ?_
    rcases hsw with hsw | hsw | hsw | hsw
    · rw [hsw]
      refine lv_tableIn (off := 220) (tgt := 253) hx hb dL_act_33 (by decide) (by decide) (by decide) (by decide) ?_
      refine lv_aload_n hx hb dL_act_253 rfl (lv_at hl 1 rfl) ?_
      refine lv_iload_n hx hb dL_act_254 rfl (lv_at hl 0 rfl) ?_
      refine h_wrV (As := [.int (nI (numN x))]) (rest := []) hF (c_X2_strike l G A hp ad S hC hI (numN x) (by omega) hA0) 1 gL_act_X2_strike rfl (by decide +kernel) ⟨Nat.le_of_ble_eq_true rfl, Nat.le_of_ble_eq_true rfl⟩ hK0 hV0 hA hS hC.xo rfl rfl rfl hl.1 rfl (Nat.le_of_ble_eq_true rfl) ⟨by show _ ≤ (5 + stC (cmB (vw S 0) 0 (upd (sF S 0) (numN x) (-1))) 4); omega, by show _ ≤ (65 * (5 + stC (cmB (vw S 0) 0 (upd (sF S 0) (numN x) (-1))) 4)); omega⟩ dL_act_255 (fun ro hp1 H locs hP1 hV0 hA0 hS => ?_)
      have hltw : ¬ nI (szR (sF (wrS S (numN x) (-1)) 0)) < sR S := by rw [w_sF]; exact hlt9
      rw [if_neg hltw, if_neg hltw] at hP1
      obtain ⟨rfl, hT⟩ := hP1
      replace hm := hm.ms (cT.skw hC hT)
      have hCn := hT.1
      have hn := hm.le
      refine lv_aload_n hx hb dL_act_258 rfl (lv_at hl 2 rfl) ?_
      refine lv_iload_n hx hb dL_act_259 rfl (lv_at hl 0 rfl) ?_
      refine lv_iconst (v := (-1)) hx hb dL_act_260 (by decide) ?_
      refine h_wrV (As := [.int (nI (numN x)), .int (-1)]) (rest := [.int (bI (true))]) hF (c_X3_putB l G A hp1 mo dk lv lvl row (sR S) tm (sD S) (sF S 0) δ (vw S 0) ω hm hI2 hoT hoD hokd htd htg (by omega) (numN x) (by omega) ((-1)) (Or.inl rfl) hlt9 hA0) 2 gL_act_X3_put rfl (by decide +kernel) ⟨Nat.le_of_ble_eq_true rfl, Nat.le_of_ble_eq_true rfl⟩ hK0 hV0 hA hS hm.cmo rfl rfl rfl hl.1 rfl (Nat.le_of_ble_eq_true rfl) ⟨by show _ ≤ (5 + stC (cmB (vw S 0) 0 (upd (sF S 0) (numN x) (-1))) 4); omega, by show _ ≤ (65 * (5 + stC (cmB (vw S 0) 0 (upd (sF S 0) (numN x) (-1))) 4)); omega⟩ dL_act_261 (fun ro hp2 H locs hP1 hV0 hA0 hS => ?_)
      obtain ⟨rfl, ⟨q1, dk2, lvl2, row2, hm2⟩, hE3⟩ := hP1
      replace hCn := hCn.mvX hE3
      refine lv_icmp_ne (tgt := 271) hx hb dL_act_264 (by decide) (fun c_264 => absurd rfl c_264) (fun c_264 => ?_)
      refine lv_iconst (v := nI 1) hx hb dL_act_267 (by decide) ?_
      refine lv_goto (tgt := 272) hx hb dL_act_268 (by decide) ?_
      refine W.widen (k := (5 + stC (cmB (vw S 0) 0 (upd (sF S 0) (numN x) (-1))) 4)) (n := (65 * (5 + stC (cmB (vw S 0) 0 (upd (sF S 0) (numN x) (-1))) 4))) (by omega) (by omega) ?_
      exact W.zret hx hb hr (by first | exact narrow_bI _ | rfl) (h_qW ⟨rfl, bfS (wrS S (numN x) (-1)), G_mono (G_putB hg hnk hvk (by decide) (by omega) (okR_put hokd (by omega) (Or.inl rfl)) hCn hm2) (by omega) (by omega) (by omega), by have := K_putB (S := S) (x := (numN x)) (v := -1) hnk hI hvk (okR_put hokd (by omega) (Or.inl rfl)) (by omega) (by decide); omega⟩ hV0 hA0 hS) hS.2.2 dL_act_272 hlocks
    · rw [hsw]
      refine lv_tableIn (off := 220) (tgt := 253) hx hb dL_act_33 (by decide) (by decide) (by decide) (by decide) ?_
      refine lv_aload_n hx hb dL_act_253 rfl (lv_at hl 1 rfl) ?_
      refine lv_iload_n hx hb dL_act_254 rfl (lv_at hl 0 rfl) ?_
      refine h_wrV (As := [.int (nI (numN x))]) (rest := []) hF (c_X2_strike l G A hp ad S hC hI (numN x) (by omega) hA0) 1 gL_act_X2_strike rfl (by decide +kernel) ⟨Nat.le_of_ble_eq_true rfl, Nat.le_of_ble_eq_true rfl⟩ hK0 hV0 hA hS hC.xo rfl rfl rfl hl.1 rfl (Nat.le_of_ble_eq_true rfl) ⟨by show _ ≤ (5 + stC (cmB (vw S 0) 0 (upd (sF S 0) (numN x) (-1))) 4); omega, by show _ ≤ (65 * (5 + stC (cmB (vw S 0) 0 (upd (sF S 0) (numN x) (-1))) 4)); omega⟩ dL_act_255 (fun ro hp1 H locs hP1 hV0 hA0 hS => ?_)
      have hltw : ¬ nI (szR (sF (wrS S (numN x) (-1)) 0)) < sR S := by rw [w_sF]; exact hlt9
      rw [if_neg hltw, if_neg hltw] at hP1
      obtain ⟨rfl, hT⟩ := hP1
      replace hm := hm.ms (cT.skw hC hT)
      have hCn := hT.1
      have hn := hm.le
      refine lv_aload_n hx hb dL_act_258 rfl (lv_at hl 2 rfl) ?_
      refine lv_iload_n hx hb dL_act_259 rfl (lv_at hl 0 rfl) ?_
      refine lv_iconst (v := (-1)) hx hb dL_act_260 (by decide) ?_
      refine h_wrV (As := [.int (nI (numN x)), .int (-1)]) (rest := [.int (bI (true))]) hF (c_X3_putB l G A hp1 mo dk lv lvl row (sR S) tm (sD S) (sF S 0) δ (vw S 0) ω hm hI2 hoT hoD hokd htd htg (by omega) (numN x) (by omega) ((-1)) (Or.inl rfl) hlt9 hA0) 2 gL_act_X3_put rfl (by decide +kernel) ⟨Nat.le_of_ble_eq_true rfl, Nat.le_of_ble_eq_true rfl⟩ hK0 hV0 hA hS hm.cmo rfl rfl rfl hl.1 rfl (Nat.le_of_ble_eq_true rfl) ⟨by show _ ≤ (5 + stC (cmB (vw S 0) 0 (upd (sF S 0) (numN x) (-1))) 4); omega, by show _ ≤ (65 * (5 + stC (cmB (vw S 0) 0 (upd (sF S 0) (numN x) (-1))) 4)); omega⟩ dL_act_261 (fun ro hp2 H locs hP1 hV0 hA0 hS => ?_)
      obtain ⟨rfl, ⟨q1, dk2, lvl2, row2, hm2⟩, hE3⟩ := hP1
      replace hCn := hCn.mvX hE3
      refine lv_icmp_ne (tgt := 271) hx hb dL_act_264 (by decide) (fun c_264 => absurd rfl c_264) (fun c_264 => ?_)
      refine lv_iconst (v := nI 1) hx hb dL_act_267 (by decide) ?_
      refine lv_goto (tgt := 272) hx hb dL_act_268 (by decide) ?_
      refine W.widen (k := (5 + stC (cmB (vw S 0) 0 (upd (sF S 0) (numN x) (-1))) 4)) (n := (65 * (5 + stC (cmB (vw S 0) 0 (upd (sF S 0) (numN x) (-1))) 4))) (by omega) (by omega) ?_
      exact W.zret hx hb hr (by first | exact narrow_bI _ | rfl) (h_qW ⟨rfl, bfS (wrS S (numN x) (-1)), G_mono (G_putB hg hnk hvk (by decide) (by omega) (okR_put hokd (by omega) (Or.inl rfl)) hCn hm2) (by omega) (by omega) (by omega), by have := K_putB (S := S) (x := (numN x)) (v := -1) hnk hI hvk (okR_put hokd (by omega) (Or.inl rfl)) (by omega) (by decide); omega⟩ hV0 hA0 hS) hS.2.2 dL_act_272 hlocks
    · rw [hsw]
      refine lv_tableIn (off := 220) (tgt := 253) hx hb dL_act_33 (by decide) (by decide) (by decide) (by decide) ?_
      refine lv_aload_n hx hb dL_act_253 rfl (lv_at hl 1 rfl) ?_
      refine lv_iload_n hx hb dL_act_254 rfl (lv_at hl 0 rfl) ?_
      refine h_wrV (As := [.int (nI (numN x))]) (rest := []) hF (c_X2_strike l G A hp ad S hC hI (numN x) (by omega) hA0) 1 gL_act_X2_strike rfl (by decide +kernel) ⟨Nat.le_of_ble_eq_true rfl, Nat.le_of_ble_eq_true rfl⟩ hK0 hV0 hA hS hC.xo rfl rfl rfl hl.1 rfl (Nat.le_of_ble_eq_true rfl) ⟨by show _ ≤ (5 + stC (cmB (vw S 0) 0 (upd (sF S 0) (numN x) (-1))) 4); omega, by show _ ≤ (65 * (5 + stC (cmB (vw S 0) 0 (upd (sF S 0) (numN x) (-1))) 4)); omega⟩ dL_act_255 (fun ro hp1 H locs hP1 hV0 hA0 hS => ?_)
      have hltw : ¬ nI (szR (sF (wrS S (numN x) (-1)) 0)) < sR S := by rw [w_sF]; exact hlt9
      rw [if_neg hltw, if_neg hltw] at hP1
      obtain ⟨rfl, hT⟩ := hP1
      replace hm := hm.ms (cT.skw hC hT)
      have hCn := hT.1
      have hn := hm.le
      refine lv_aload_n hx hb dL_act_258 rfl (lv_at hl 2 rfl) ?_
      refine lv_iload_n hx hb dL_act_259 rfl (lv_at hl 0 rfl) ?_
      refine lv_iconst (v := (-1)) hx hb dL_act_260 (by decide) ?_
      refine h_wrV (As := [.int (nI (numN x)), .int (-1)]) (rest := [.int (bI (true))]) hF (c_X3_putB l G A hp1 mo dk lv lvl row (sR S) tm (sD S) (sF S 0) δ (vw S 0) ω hm hI2 hoT hoD hokd htd htg (by omega) (numN x) (by omega) ((-1)) (Or.inl rfl) hlt9 hA0) 2 gL_act_X3_put rfl (by decide +kernel) ⟨Nat.le_of_ble_eq_true rfl, Nat.le_of_ble_eq_true rfl⟩ hK0 hV0 hA hS hm.cmo rfl rfl rfl hl.1 rfl (Nat.le_of_ble_eq_true rfl) ⟨by show _ ≤ (5 + stC (cmB (vw S 0) 0 (upd (sF S 0) (numN x) (-1))) 4); omega, by show _ ≤ (65 * (5 + stC (cmB (vw S 0) 0 (upd (sF S 0) (numN x) (-1))) 4)); omega⟩ dL_act_261 (fun ro hp2 H locs hP1 hV0 hA0 hS => ?_)
      obtain ⟨rfl, ⟨q1, dk2, lvl2, row2, hm2⟩, hE3⟩ := hP1
      replace hCn := hCn.mvX hE3
      refine lv_icmp_ne (tgt := 271) hx hb dL_act_264 (by decide) (fun c_264 => absurd rfl c_264) (fun c_264 => ?_)
      refine lv_iconst (v := nI 1) hx hb dL_act_267 (by decide) ?_
      refine lv_goto (tgt := 272) hx hb dL_act_268 (by decide) ?_
      refine W.widen (k := (5 + stC (cmB (vw S 0) 0 (upd (sF S 0) (numN x) (-1))) 4)) (n := (65 * (5 + stC (cmB (vw S 0) 0 (upd (sF S 0) (numN x) (-1))) 4))) (by omega) (by omega) ?_
      exact W.zret hx hb hr (by first | exact narrow_bI _ | rfl) (h_qW ⟨rfl, bfS (wrS S (numN x) (-1)), G_mono (G_putB hg hnk hvk (by decide) (by omega) (okR_put hokd (by omega) (Or.inl rfl)) hCn hm2) (by omega) (by omega) (by omega), by have := K_putB (S := S) (x := (numN x)) (v := -1) hnk hI hvk (okR_put hokd (by omega) (Or.inl rfl)) (by omega) (by decide); omega⟩ hV0 hA0 hS) hS.2.2 dL_act_272 hlocks
    · rw [hsw]
      refine lv_tableIn (off := 220) (tgt := 253) hx hb dL_act_33 (by decide) (by decide) (by decide) (by decide) ?_
      refine lv_aload_n hx hb dL_act_253 rfl (lv_at hl 1 rfl) ?_
      refine lv_iload_n hx hb dL_act_254 rfl (lv_at hl 0 rfl) ?_
      refine h_wrV (As := [.int (nI (numN x))]) (rest := []) hF (c_X2_strike l G A hp ad S hC hI (numN x) (by omega) hA0) 1 gL_act_X2_strike rfl (by decide +kernel) ⟨Nat.le_of_ble_eq_true rfl, Nat.le_of_ble_eq_true rfl⟩ hK0 hV0 hA hS hC.xo rfl rfl rfl hl.1 rfl (Nat.le_of_ble_eq_true rfl) ⟨by show _ ≤ (5 + stC (cmB (vw S 0) 0 (upd (sF S 0) (numN x) (-1))) 4); omega, by show _ ≤ (65 * (5 + stC (cmB (vw S 0) 0 (upd (sF S 0) (numN x) (-1))) 4)); omega⟩ dL_act_255 (fun ro hp1 H locs hP1 hV0 hA0 hS => ?_)
      have hltw : ¬ nI (szR (sF (wrS S (numN x) (-1)) 0)) < sR S := by rw [w_sF]; exact hlt9
      rw [if_neg hltw, if_neg hltw] at hP1
      obtain ⟨rfl, hT⟩ := hP1
      replace hm := hm.ms (cT.skw hC hT)
      have hCn := hT.1
      have hn := hm.le
      refine lv_aload_n hx hb dL_act_258 rfl (lv_at hl 2 rfl) ?_
      refine lv_iload_n hx hb dL_act_259 rfl (lv_at hl 0 rfl) ?_
      refine lv_iconst (v := (-1)) hx hb dL_act_260 (by decide) ?_
      refine h_wrV (As := [.int (nI (numN x)), .int (-1)]) (rest := [.int (bI (true))]) hF (c_X3_putB l G A hp1 mo dk lv lvl row (sR S) tm (sD S) (sF S 0) δ (vw S 0) ω hm hI2 hoT hoD hokd htd htg (by omega) (numN x) (by omega) ((-1)) (Or.inl rfl) hlt9 hA0) 2 gL_act_X3_put rfl (by decide +kernel) ⟨Nat.le_of_ble_eq_true rfl, Nat.le_of_ble_eq_true rfl⟩ hK0 hV0 hA hS hm.cmo rfl rfl rfl hl.1 rfl (Nat.le_of_ble_eq_true rfl) ⟨by show _ ≤ (5 + stC (cmB (vw S 0) 0 (upd (sF S 0) (numN x) (-1))) 4); omega, by show _ ≤ (65 * (5 + stC (cmB (vw S 0) 0 (upd (sF S 0) (numN x) (-1))) 4)); omega⟩ dL_act_261 (fun ro hp2 H locs hP1 hV0 hA0 hS => ?_)
      obtain ⟨rfl, ⟨q1, dk2, lvl2, row2, hm2⟩, hE3⟩ := hP1
      replace hCn := hCn.mvX hE3
      refine lv_icmp_ne (tgt := 271) hx hb dL_act_264 (by decide) (fun c_264 => absurd rfl c_264) (fun c_264 => ?_)
      refine lv_iconst (v := nI 1) hx hb dL_act_267 (by decide) ?_
      refine lv_goto (tgt := 272) hx hb dL_act_268 (by decide) ?_
      refine W.widen (k := (5 + stC (cmB (vw S 0) 0 (upd (sF S 0) (numN x) (-1))) 4)) (n := (65 * (5 + stC (cmB (vw S 0) 0 (upd (sF S 0) (numN x) (-1))) 4))) (by omega) (by omega) ?_
      exact W.zret hx hb hr (by first | exact narrow_bI _ | rfl) (h_qW ⟨rfl, bfS (wrS S (numN x) (-1)), G_mono (G_putB hg hnk hvk (by decide) (by omega) (okR_put hokd (by omega) (Or.inl rfl)) hCn hm2) (by omega) (by omega) (by omega), by have := K_putB (S := S) (x := (numN x)) (v := -1) hnk hI hvk (okR_put hokd (by omega) (Or.inl rfl)) (by omega) (by decide); omega⟩ hV0 hA0 hS) hS.2.2 dL_act_272 hlocks

set_option maxHeartbeats 1000000 in
set_option maxRecDepth 100000 in
theorem c_act_9B (l : Launch) (G : hG) (A : Nat → Prop) (hp : HP) (ad : Nat → Nat) (S : CS) (hC : cW ad S hp) (mo dk lv : Nat) (lvl : Nat → Nat) (row : Nat → Nat → Nat) (tm : Nat) (δ : TG) (ω : TS) (hm : sA mo dk lv lvl row (sR S) tm (sD S) (sF S 0) δ (vw S 0) ω hp) (tb mb gb : Nat) (hg : gI tb mb gb S tm δ ω) (htb : tb < 1000) (x : Int32) (hsw : 9 ≤ blN (x >>> (nI 9 &&& 31)) 18) (hlt9 : ¬ nI (szR (upd (sF S 0) (numN x) (nI (blN (x >>> (nI 3 &&& 31)) 100)))) < sR S) (hA0 : hIn A hp) : hWr l yL_act wsL_act 7 157 (5 + stC (cmB (vw S 0) 0 (upd (sF S 0) (numN x) (nI (blN (x >>> (nI 3 &&& 31)) 100)))) 4) (65 * (5 + stC (cmB (vw S 0) 0 (upd (sF S 0) (numN x) (nI (blN (x >>> (nI 3 &&& 31)) 100)))) 4)) G A hp [.ref (aX ad), .ref mo, .int x] (fun ro hp' => ro = some (.int (bI true)) ∧ ∃ S2, gX ad mo lv (tb + 1) (mb + 320) (gb + 5) S2 hp' ∧ 5 + stC (cmB (vw S 0) 0 (upd (sF S 0) (numN x) (nI (blN (x >>> (nI 3 &&& 31)) 100)))) 4 + gS S2 ≤ gS S + 600) := by
  refine Met.ofW (cc := cL_act) (maxL := 7) (ret := (some .boolean)) (by decide) rfl ?_
  intro p e s m args below meth c s₁ B hml hv
  obtain ⟨rfl, hV0, hK0, hA⟩ := hv
  have hx := B.exec
  have hb := B.bytes
  have hr := B.returns
  have hts := atoms_spec (ws := wsL_act) B.pre
  have hown : s.vm.findClass RL = some m.cls := findClass_of_methodNamed B.named
  have hlocks := B.notSynchronized
  have hF : CallFix p m c cL_act 7 s [.ref (aX ad), .ref mo, .int x].toArray wsL_act RL := ⟨hx, hb, hml, hown, hts⟩
  have hS : va_S A s.heap s.heap [] := va_S.rf
  have hl := lv_entry ([.ref (aX ad), .ref mo, .int x]) (n := 7) (Nat.le_of_ble_eq_true rfl)
  rw [lg_entry_eq]
  generalize (lg_sl ([.ref (aX ad), .ref mo, .int x]) ++ List.replicate (7 - (lg_sl ([.ref (aX ad), .ref mo, .int x])).length) Slot.unset).toArray = ls at hl ⊢
  replace hl : lv_has ls 7 [(0, .ref (aX ad)), (1, .ref mo), (2, .int x)] := hl
  have hn := hm.le
  have hn9l := numN_lt x
  obtain ⟨hI, hoT, hoD, htd, htg, ⟨r9, hr1, hr2, hr3⟩, hmv, hmg, htm9⟩ := id hg
  have hnk := hC.ok.n
  have hvk := hm.v
  have hokd : okR (sF S 0) := hC.ok.1 0
  have hI2 : ∀ l, l < 4 → bN (vw S 0) l ≤ 2 := fun l hl => hI l hl
  have hE : exH hp hp := exH.rf
  have hzd := szR_le (sF S 0)
  refine lv_iload_n hx hb dL_act_0 rfl (lv_at hl 2 rfl) ?_
  refine lv_iconst (v := nI 1) hx hb dL_act_1 (by decide) ?_
  refine lv_ishr hx hb dL_act_2 ?_
  refine lv_iload_n hx hb dL_act_3 rfl (lv_at hl 2 rfl) ?_
  refine lv_iconst (v := nI 5) hx hb dL_act_4 (by decide) ?_
  refine lv_ishr hx hb dL_act_5 ?_
  refine lv_iconst (v := nI 3) hx hb dL_act_6 (by decide) ?_
  have hbl7 : blN ((x >>> (nI 5 &&& 31))) 3 < 3 := bl_lt _ (by omega)
  refine h_rdS (As := [.int (x >>> (nI 5 &&& 31)), .int (nI 3)]) (rest := [.int (x >>> (nI 1 &&& 31))]) hF (c_L_below l G hp ((x >>> (nI 5 &&& 31))) 3 (by omega) (by omega)) 2 gL_act_L_below rfl (by decide +kernel) ⟨Nat.le_of_ble_eq_true rfl, Nat.le_of_ble_eq_true rfl⟩ hK0 hV0 rfl hl.1 rfl (Nat.le_of_ble_eq_true rfl) (by show _ ≤ (5 + stC (cmB (vw S 0) 0 (upd (sF S 0) (numN x) (nI (blN (x >>> (nI 3 &&& 31)) 100)))) 4); omega) (by show _ ≤ (65 * (5 + stC (cmB (vw S 0) 0 (upd (sF S 0) (numN x) (nI (blN (x >>> (nI 3 &&& 31)) 100)))) 4)); omega) dL_act_7 ?_
  refine h_if_ne (a := blN ((x >>> (nI 5 &&& 31))) 3) (tgt := 18) hx hb dL_act_10 (by decide) (by omega) (fun c_10 => ?_) (fun c_10 => ?_)
  · refine lv_bipush (v := nI 13) hx hb dL_act_18 (by decide) ?_
    have hbl20 : blN ((x >>> (nI 1 &&& 31))) 13 < 13 := bl_lt _ (by omega)
    refine h_rdS (As := [.int (x >>> (nI 1 &&& 31)), .int (nI 13)]) (rest := []) hF (c_L_below l G hp ((x >>> (nI 1 &&& 31))) 13 (by omega) (by omega)) 2 gL_act_L_below rfl (by decide +kernel) ⟨Nat.le_of_ble_eq_true rfl, Nat.le_of_ble_eq_true rfl⟩ hK0 hV0 rfl hl.1 rfl (Nat.le_of_ble_eq_true rfl) (by show _ ≤ (5 + stC (cmB (vw S 0) 0 (upd (sF S 0) (numN x) (nI (blN (x >>> (nI 3 &&& 31)) 100)))) 4); omega) (by show _ ≤ (65 * (5 + stC (cmB (vw S 0) 0 (upd (sF S 0) (numN x) (nI (blN (x >>> (nI 3 &&& 31)) 100)))) 4)); omega) dL_act_20 ?_
    have hnum : blN ((x >>> (nI 1 &&& 31))) 13 = numN x := (if_neg c_10).symm
    rw [hnum]
    refine lv_istore_n (lv' := [(3, .int (nI (numN x))), (0, .ref (aX ad)), (1, .ref mo), (2, .int x)]) hx hb dL_act_23 rfl hl (by decide) rfl (fun ls hl => ?_)
    refine lv_iload_n hx hb dL_act_24 rfl (lv_at hl 3 rfl) ?_
    refine lv_bipush (v := nI 9) hx hb dL_act_25 (by decide) ?_
    refine lv_ishr hx hb dL_act_27 ?_
    refine lv_bipush (v := nI 18) hx hb dL_act_28 (by decide) ?_
    have hbl30 : blN ((x >>> (nI 9 &&& 31))) 18 < 18 := bl_lt _ (by omega)
    refine h_rdS (As := [.int (x >>> (nI 9 &&& 31)), .int (nI 18)]) (rest := []) hF (c_L_below l G hp ((x >>> (nI 9 &&& 31))) 18 (by omega) (by omega)) 2 gL_act_L_below rfl (by decide +kernel) ⟨Nat.le_of_ble_eq_true rfl, Nat.le_of_ble_eq_true rfl⟩ hK0 hV0 rfl hl.1 rfl (Nat.le_of_ble_eq_true rfl) (by show _ ≤ (5 + stC (cmB (vw S 0) 0 (upd (sF S 0) (numN x) (nI (blN (x >>> (nI 3 &&& 31)) 100)))) 4); omega) (by show _ ≤ (65 * (5 + stC (cmB (vw S 0) 0 (upd (sF S 0) (numN x) (nI (blN (x >>> (nI 3 &&& 31)) 100)))) 4)); omega) dL_act_30 ?_
    refine lv_tableOut (tgt := 273) hx hb dL_act_33 (Or.inr (by rw [nI_toInt (by omega)]; omega)) (by decide) ?_
    refine lv_iload_n hx hb dL_act_273 rfl (lv_at hl 3 rfl) ?_
    refine lv_iconst (v := nI 3) hx hb dL_act_274 (by decide) ?_
    refine lv_ishr hx hb dL_act_275 ?_
    refine lv_bipush (v := nI 100) hx hb dL_act_276 (by decide) ?_
    have hbl278 : blN ((x >>> (nI 3 &&& 31))) 100 < 100 := bl_lt _ (by omega)
    refine h_rdS (As := [.int (x >>> (nI 3 &&& 31)), .int (nI 100)]) (rest := []) hF (c_L_below l G hp ((x >>> (nI 3 &&& 31))) 100 (by omega) (by omega)) 2 gL_act_L_below rfl (by decide +kernel) ⟨Nat.le_of_ble_eq_true rfl, Nat.le_of_ble_eq_true rfl⟩ hK0 hV0 rfl hl.1 rfl (Nat.le_of_ble_eq_true rfl) (by show _ ≤ (5 + stC (cmB (vw S 0) 0 (upd (sF S 0) (numN x) (nI (blN (x >>> (nI 3 &&& 31)) 100)))) 4); omega) (by show _ ≤ (65 * (5 + stC (cmB (vw S 0) 0 (upd (sF S 0) (numN x) (nI (blN (x >>> (nI 3 &&& 31)) 100)))) 4)); omega) dL_act_278 ?_
    refine lv_istore (lv' := [(6, .int (nI (blN ((x >>> (nI 3 &&& 31))) 100))), (3, .int (nI (numN x))), (0, .ref (aX ad)), (1, .ref mo), (2, .int x)]) hx hb dL_act_281 hl (by decide) rfl (fun ls hl => ?_)
    refine lv_aload_n hx hb dL_act_283 rfl (lv_at hl 2 rfl) ?_
    refine lv_iload_n hx hb dL_act_284 rfl (lv_at hl 1 rfl) ?_
    refine lv_iload hx hb dL_act_285 (lv_at hl 0 rfl) ?_
    refine h_wrV (As := [.int (nI (numN x)), .int (nI (blN ((x >>> (nI 3 &&& 31))) 100))]) (rest := []) hF (c_X2_write l G A hp ad S hC hI (numN x) (blN ((x >>> (nI 3 &&& 31))) 100) (by omega) (by omega) hA0) 2 gL_act_X2_write rfl (by decide +kernel) ⟨Nat.le_of_ble_eq_true rfl, Nat.le_of_ble_eq_true rfl⟩ hK0 hV0 hA hS hC.xo rfl rfl rfl hl.1 rfl (Nat.le_of_ble_eq_true rfl) ⟨by show _ ≤ (5 + stC (cmB (vw S 0) 0 (upd (sF S 0) (numN x) (nI (blN (x >>> (nI 3 &&& 31)) 100)))) 4); omega, by show _ ≤ (65 * (5 + stC (cmB (vw S 0) 0 (upd (sF S 0) (numN x) (nI (blN (x >>> (nI 3 &&& 31)) 100)))) 4)); omega⟩ dL_act_287 (fun ro hp1 H locs hP1 hV0 hA0 hS => ?_)
    have hltw : ¬ nI (szR (sF (wrS S (numN x) (nI (blN (x >>> (nI 3 &&& 31)) 100))) 0)) < sR S := by rw [w_sF]; exact hlt9
    rw [if_neg hltw, if_neg hltw] at hP1
    obtain ⟨rfl, hT⟩ := hP1
    replace hm := hm.ms (cT.skw hC hT)
    have hCn := hT.1
    have hn := hm.le
    refine lv_aload_n hx hb dL_act_290 rfl (lv_at hl 3 rfl) ?_
    refine lv_iload_n hx hb dL_act_291 rfl (lv_at hl 1 rfl) ?_
    refine lv_iload hx hb dL_act_292 (lv_at hl 0 rfl) ?_
    refine h_wrV (As := [.int (nI (numN x)), .int (nI (blN ((x >>> (nI 3 &&& 31))) 100))]) (rest := [.int (bI (true))]) hF (c_X3_putB l G A hp1 mo dk lv lvl row (sR S) tm (sD S) (sF S 0) δ (vw S 0) ω hm hI2 hoT hoD hokd htd htg (by omega) (numN x) (by omega) (nI (blN ((x >>> (nI 3 &&& 31))) 100)) (Or.inr ⟨_, bl_lt _ (by omega), rfl⟩) hlt9 hA0) 2 gL_act_X3_put rfl (by decide +kernel) ⟨Nat.le_of_ble_eq_true rfl, Nat.le_of_ble_eq_true rfl⟩ hK0 hV0 hA hS hm.cmo rfl rfl rfl hl.1 rfl (Nat.le_of_ble_eq_true rfl) ⟨by show _ ≤ (5 + stC (cmB (vw S 0) 0 (upd (sF S 0) (numN x) (nI (blN (x >>> (nI 3 &&& 31)) 100)))) 4); omega, by show _ ≤ (65 * (5 + stC (cmB (vw S 0) 0 (upd (sF S 0) (numN x) (nI (blN (x >>> (nI 3 &&& 31)) 100)))) 4)); omega⟩ dL_act_294 (fun ro hp2 H locs hP1 hV0 hA0 hS => ?_)
    obtain ⟨rfl, ⟨q1, dk2, lvl2, row2, hm2⟩, hE3⟩ := hP1
    replace hCn := hCn.mvX hE3
    refine lv_icmp_ne (tgt := 304) hx hb dL_act_297 (by decide) (fun c_297 => absurd rfl c_297) (fun c_297 => ?_)
    refine lv_iconst (v := nI 1) hx hb dL_act_300 (by decide) ?_
    refine lv_goto (tgt := 305) hx hb dL_act_301 (by decide) ?_
    refine W.widen (k := (5 + stC (cmB (vw S 0) 0 (upd (sF S 0) (numN x) (nI (blN (x >>> (nI 3 &&& 31)) 100)))) 4)) (n := (65 * (5 + stC (cmB (vw S 0) 0 (upd (sF S 0) (numN x) (nI (blN (x >>> (nI 3 &&& 31)) 100)))) 4))) (by omega) (by omega) ?_
    exact W.zret hx hb hr (by first | exact narrow_bI _ | rfl) (h_qW ⟨rfl, bfS (wrS S (numN x) (nI (blN (x >>> (nI 3 &&& 31)) 100))), G_mono (G_putB hg hnk hvk (nIne2 (bl_lt _ (by omega))) (by omega) (okR_put hokd (by omega) (Or.inr ⟨_, bl_lt _ (by omega), rfl⟩)) hCn hm2) (by omega) (by omega) (by omega), by have := K_putB (S := S) (x := (numN x)) (v := nI (blN (x >>> (nI 3 &&& 31)) 100)) hnk hI hvk (okR_put hokd (by omega) (Or.inr ⟨_, bl_lt _ (by omega), rfl⟩)) (by omega) (nIne2 (bl_lt _ (by omega))); omega⟩ hV0 hA0 hS) hS.2.2 dL_act_305 hlocks
  · refine lv_bipush (v := nI 64) hx hb dL_act_13 (by decide) ?_
    refine lv_goto (tgt := 20) hx hb dL_act_15 (by decide) ?_
    have hbl20 : blN ((x >>> (nI 1 &&& 31))) 64 < 64 := bl_lt _ (by omega)
    refine h_rdS (As := [.int (x >>> (nI 1 &&& 31)), .int (nI 64)]) (rest := []) hF (c_L_below l G hp ((x >>> (nI 1 &&& 31))) 64 (by omega) (by omega)) 2 gL_act_L_below rfl (by decide +kernel) ⟨Nat.le_of_ble_eq_true rfl, Nat.le_of_ble_eq_true rfl⟩ hK0 hV0 rfl hl.1 rfl (Nat.le_of_ble_eq_true rfl) (by show _ ≤ (5 + stC (cmB (vw S 0) 0 (upd (sF S 0) (numN x) (nI (blN (x >>> (nI 3 &&& 31)) 100)))) 4); omega) (by show _ ≤ (65 * (5 + stC (cmB (vw S 0) 0 (upd (sF S 0) (numN x) (nI (blN (x >>> (nI 3 &&& 31)) 100)))) 4)); omega) dL_act_20 ?_
    have hnum : blN ((x >>> (nI 1 &&& 31))) 64 = numN x := (if_pos c_10).symm
    rw [hnum]
    refine lv_istore_n (lv' := [(3, .int (nI (numN x))), (0, .ref (aX ad)), (1, .ref mo), (2, .int x)]) hx hb dL_act_23 rfl hl (by decide) rfl (fun ls hl => ?_)
    refine lv_iload_n hx hb dL_act_24 rfl (lv_at hl 3 rfl) ?_
    refine lv_bipush (v := nI 9) hx hb dL_act_25 (by decide) ?_
    refine lv_ishr hx hb dL_act_27 ?_
    refine lv_bipush (v := nI 18) hx hb dL_act_28 (by decide) ?_
    have hbl30 : blN ((x >>> (nI 9 &&& 31))) 18 < 18 := bl_lt _ (by omega)
    refine h_rdS (As := [.int (x >>> (nI 9 &&& 31)), .int (nI 18)]) (rest := []) hF (c_L_below l G hp ((x >>> (nI 9 &&& 31))) 18 (by omega) (by omega)) 2 gL_act_L_below rfl (by decide +kernel) ⟨Nat.le_of_ble_eq_true rfl, Nat.le_of_ble_eq_true rfl⟩ hK0 hV0 rfl hl.1 rfl (Nat.le_of_ble_eq_true rfl) (by show _ ≤ (5 + stC (cmB (vw S 0) 0 (upd (sF S 0) (numN x) (nI (blN (x >>> (nI 3 &&& 31)) 100)))) 4); omega) (by show _ ≤ (65 * (5 + stC (cmB (vw S 0) 0 (upd (sF S 0) (numN x) (nI (blN (x >>> (nI 3 &&& 31)) 100)))) 4)); omega) dL_act_30 ?_
    refine lv_tableOut (tgt := 273) hx hb dL_act_33 (Or.inr (by rw [nI_toInt (by omega)]; omega)) (by decide) ?_
    refine lv_iload_n hx hb dL_act_273 rfl (lv_at hl 3 rfl) ?_
    refine lv_iconst (v := nI 3) hx hb dL_act_274 (by decide) ?_
    refine lv_ishr hx hb dL_act_275 ?_
    refine lv_bipush (v := nI 100) hx hb dL_act_276 (by decide) ?_
    have hbl278 : blN ((x >>> (nI 3 &&& 31))) 100 < 100 := bl_lt _ (by omega)
    refine h_rdS (As := [.int (x >>> (nI 3 &&& 31)), .int (nI 100)]) (rest := []) hF (c_L_below l G hp ((x >>> (nI 3 &&& 31))) 100 (by omega) (by omega)) 2 gL_act_L_below rfl (by decide +kernel) ⟨Nat.le_of_ble_eq_true rfl, Nat.le_of_ble_eq_true rfl⟩ hK0 hV0 rfl hl.1 rfl (Nat.le_of_ble_eq_true rfl) (by show _ ≤ (5 + stC (cmB (vw S 0) 0 (upd (sF S 0) (numN x) (nI (blN (x >>> (nI 3 &&& 31)) 100)))) 4); omega) (by show _ ≤ (65 * (5 + stC (cmB (vw S 0) 0 (upd (sF S 0) (numN x) (nI (blN (x >>> (nI 3 &&& 31)) 100)))) 4)); omega) dL_act_278 ?_
    refine lv_istore (lv' := [(6, .int (nI (blN ((x >>> (nI 3 &&& 31))) 100))), (3, .int (nI (numN x))), (0, .ref (aX ad)), (1, .ref mo), (2, .int x)]) hx hb dL_act_281 hl (by decide) rfl (fun ls hl => ?_)
    refine lv_aload_n hx hb dL_act_283 rfl (lv_at hl 2 rfl) ?_
    refine lv_iload_n hx hb dL_act_284 rfl (lv_at hl 1 rfl) ?_
    refine lv_iload hx hb dL_act_285 (lv_at hl 0 rfl) ?_
    refine h_wrV (As := [.int (nI (numN x)), .int (nI (blN ((x >>> (nI 3 &&& 31))) 100))]) (rest := []) hF (c_X2_write l G A hp ad S hC hI (numN x) (blN ((x >>> (nI 3 &&& 31))) 100) (by omega) (by omega) hA0) 2 gL_act_X2_write rfl (by decide +kernel) ⟨Nat.le_of_ble_eq_true rfl, Nat.le_of_ble_eq_true rfl⟩ hK0 hV0 hA hS hC.xo rfl rfl rfl hl.1 rfl (Nat.le_of_ble_eq_true rfl) ⟨by show _ ≤ (5 + stC (cmB (vw S 0) 0 (upd (sF S 0) (numN x) (nI (blN (x >>> (nI 3 &&& 31)) 100)))) 4); omega, by show _ ≤ (65 * (5 + stC (cmB (vw S 0) 0 (upd (sF S 0) (numN x) (nI (blN (x >>> (nI 3 &&& 31)) 100)))) 4)); omega⟩ dL_act_287 (fun ro hp1 H locs hP1 hV0 hA0 hS => ?_)
    have hltw : ¬ nI (szR (sF (wrS S (numN x) (nI (blN (x >>> (nI 3 &&& 31)) 100))) 0)) < sR S := by rw [w_sF]; exact hlt9
    rw [if_neg hltw, if_neg hltw] at hP1
    obtain ⟨rfl, hT⟩ := hP1
    replace hm := hm.ms (cT.skw hC hT)
    have hCn := hT.1
    have hn := hm.le
    refine lv_aload_n hx hb dL_act_290 rfl (lv_at hl 3 rfl) ?_
    refine lv_iload_n hx hb dL_act_291 rfl (lv_at hl 1 rfl) ?_
    refine lv_iload hx hb dL_act_292 (lv_at hl 0 rfl) ?_
    refine h_wrV (As := [.int (nI (numN x)), .int (nI (blN ((x >>> (nI 3 &&& 31))) 100))]) (rest := [.int (bI (true))]) hF (c_X3_putB l G A hp1 mo dk lv lvl row (sR S) tm (sD S) (sF S 0) δ (vw S 0) ω hm hI2 hoT hoD hokd htd htg (by omega) (numN x) (by omega) (nI (blN ((x >>> (nI 3 &&& 31))) 100)) (Or.inr ⟨_, bl_lt _ (by omega), rfl⟩) hlt9 hA0) 2 gL_act_X3_put rfl (by decide +kernel) ⟨Nat.le_of_ble_eq_true rfl, Nat.le_of_ble_eq_true rfl⟩ hK0 hV0 hA hS hm.cmo rfl rfl rfl hl.1 rfl (Nat.le_of_ble_eq_true rfl) ⟨by show _ ≤ (5 + stC (cmB (vw S 0) 0 (upd (sF S 0) (numN x) (nI (blN (x >>> (nI 3 &&& 31)) 100)))) 4); omega, by show _ ≤ (65 * (5 + stC (cmB (vw S 0) 0 (upd (sF S 0) (numN x) (nI (blN (x >>> (nI 3 &&& 31)) 100)))) 4)); omega⟩ dL_act_294 (fun ro hp2 H locs hP1 hV0 hA0 hS => ?_)
    obtain ⟨rfl, ⟨q1, dk2, lvl2, row2, hm2⟩, hE3⟩ := hP1
    replace hCn := hCn.mvX hE3
    refine lv_icmp_ne (tgt := 304) hx hb dL_act_297 (by decide) (fun c_297 => absurd rfl c_297) (fun c_297 => ?_)
    refine lv_iconst (v := nI 1) hx hb dL_act_300 (by decide) ?_
    refine lv_goto (tgt := 305) hx hb dL_act_301 (by decide) ?_
    refine W.widen (k := (5 + stC (cmB (vw S 0) 0 (upd (sF S 0) (numN x) (nI (blN (x >>> (nI 3 &&& 31)) 100)))) 4)) (n := (65 * (5 + stC (cmB (vw S 0) 0 (upd (sF S 0) (numN x) (nI (blN (x >>> (nI 3 &&& 31)) 100)))) 4))) (by omega) (by omega) ?_
    exact W.zret hx hb hr (by first | exact narrow_bI _ | rfl) (h_qW ⟨rfl, bfS (wrS S (numN x) (nI (blN (x >>> (nI 3 &&& 31)) 100))), G_mono (G_putB hg hnk hvk (nIne2 (bl_lt _ (by omega))) (by omega) (okR_put hokd (by omega) (Or.inr ⟨_, bl_lt _ (by omega), rfl⟩)) hCn hm2) (by omega) (by omega) (by omega), by have := K_putB (S := S) (x := (numN x)) (v := nI (blN (x >>> (nI 3 &&& 31)) 100)) hnk hI hvk (okR_put hokd (by omega) (Or.inr ⟨_, bl_lt _ (by omega), rfl⟩)) (by omega) (nIne2 (bl_lt _ (by omega))); omega⟩ hV0 hA0 hS) hS.2.2 dL_act_305 hlocks
