/-! binder 1 takes over the runs of binder 0: a levels have their number, i levels their rows, level i has j rows -/
def cpS (S : CS) (a i j : Nat) : CS := (fun q => if (14 ≤ q ∧ q < 26) ∧ (((q - 14) / 3 < i ∧ (q - 14) % 3 < sN S 0 ((q - 14) / 3)) ∨ ((q - 14) / 3 = i ∧ (q - 14) % 3 < j)) then sF S (q - 13) else sF S q, fun k l => if k = 1 ∧ l < a then sN S 0 l else sN S k l, sV S, sG S, sR S, sD S)
theorem cpS_0 (S : CS) : cpS S 0 0 0 = S := by
  unfold cpS
  have h1 : (fun q => if (14 ≤ q ∧ q < 26) ∧ (((q - 14) / 3 < 0 ∧ (q - 14) % 3 < sN S 0 ((q - 14) / 3)) ∨ ((q - 14) / 3 = 0 ∧ (q - 14) % 3 < 0)) then sF S (q - 13) else sF S q) = sF S := by
    funext q
    rw [if_neg (by omega)]
  have h2 : (fun k l => if k = 1 ∧ l < 0 then sN S 0 l else sN S k l) = sN S := by
    funext k l
    rw [if_neg (by omega)]
  rw [h1, h2]
  rfl
theorem cpS_N0 (S : CS) (a i j l : Nat) : sN (cpS S a i j) 0 l = sN S 0 l := by
  show (if 0 = 1 ∧ l < a then sN S 0 l else sN S 0 l) = _
  split <;> rfl
theorem cpS_N1 (S : CS) (i j : Nat) : sN (cpS S (i + 1) i j) 1 i = sN S 0 i := if_pos ⟨rfl, Nat.lt_succ_self i⟩
theorem cpS_n {S : CS} {i : Nat} (hi : i < 4) : uN (cpS S i i 0) 1 i (sN S 0 i) = cpS S (i + 1) i 0 := by
  unfold uN cpS
  congr 2
  funext k l
  show (if k = 1 ∧ l = i then sN S 0 i else if k = 1 ∧ l < i then sN S 0 l else sN S k l) = _
  by_cases h1 : k = 1 ∧ l = i
  · obtain ⟨rfl, rfl⟩ := h1
    simp
  · rw [if_neg h1]
    by_cases h2 : k = 1 ∧ l < i
    · rw [if_pos h2, if_pos ⟨h2.1, by omega⟩]
    · rw [if_neg h2, if_neg (by omega)]
theorem cpS_put {S : CS} {i j : Nat} (hi : i < 4) (hj : j < 3) : uF (cpS S (i + 1) i j) (1 + 13 * 1 + (3 * i + j)) (sF (cpS S (i + 1) i j) (1 + 13 * 0 + (3 * i + j))) = cpS S (i + 1) i (j + 1) := by
  unfold uF
  have h0 : sF (cpS S (i + 1) i j) (1 + 13 * 0 + (3 * i + j)) = sF S (1 + (3 * i + j)) := by
    rw [show 1 + 13 * 0 + (3 * i + j) = 1 + (3 * i + j) by omega]
    exact if_neg (by omega)
  rw [h0]
  unfold cpS
  congr 1
  funext q
  show (if q = 1 + 13 * 1 + (3 * i + j) then sF S (1 + (3 * i + j)) else if (14 ≤ q ∧ q < 26) ∧ (((q - 14) / 3 < i ∧ (q - 14) % 3 < sN S 0 ((q - 14) / 3)) ∨ ((q - 14) / 3 = i ∧ (q - 14) % 3 < j)) then sF S (q - 13) else sF S q) = _
  by_cases h1 : q = 1 + 13 * 1 + (3 * i + j)
  · rw [if_pos h1, if_pos (by omega), show q - 13 = 1 + (3 * i + j) by omega]
  · rw [if_neg h1]
    by_cases h2 : (14 ≤ q ∧ q < 26) ∧ (((q - 14) / 3 < i ∧ (q - 14) % 3 < sN S 0 ((q - 14) / 3)) ∨ ((q - 14) / 3 = i ∧ (q - 14) % 3 < j))
    · rw [if_pos h2, if_pos (by omega)]
    · rw [if_neg h2, if_neg (by omega)]
theorem cpS_next {S : CS} {i : Nat} (hi : i < 4) : cpS S (i + 1) i (sN S 0 i) = cpS S (i + 1) (i + 1) 0 := by
  unfold cpS
  congr 1
  funext q
  by_cases h2 : (14 ≤ q ∧ q < 26) ∧ (((q - 14) / 3 < i ∧ (q - 14) % 3 < sN S 0 ((q - 14) / 3)) ∨ ((q - 14) / 3 = i ∧ (q - 14) % 3 < sN S 0 i))
  · rw [if_pos h2, if_pos]
    refine ⟨h2.1, Or.inl ?_⟩
    rcases h2.2 with h3 | h3
    · exact ⟨by omega, h3.2⟩
    · rw [h3.1]
      exact ⟨by omega, h3.2⟩
  · rw [if_neg h2, if_neg]
    intro h3
    refine h2 ⟨h3.1, ?_⟩
    rcases h3.2 with h4 | h4
    · by_cases e : (q - 14) / 3 = i
      · exact Or.inr ⟨e, by rw [← e]; exact h4.2⟩
      · exact Or.inl ⟨by omega, h4.2⟩
    · exact absurd h4.2 (by omega)
theorem cpE_N {S : CS} (h : cOk S) : sN (cpS S 4 4 0) 1 = sN S 0 := by
  funext l
  show (if 1 = 1 ∧ l < 4 then sN S 0 l else sN S 1 l) = sN S 0 l
  split
  · rfl
  · rw [h.2.2 1 l (by omega), h.2.2 0 l (by omega)]
theorem cpE_g {S : CS} (h : cOk S) : gC (cpS S 4 4 0) 1 = gC S 0 := by
  funext l r
  unfold gC
  rw [cpE_N h]
  split
  · rename_i h1
    have h3 := h.2.1 0 l
    have h4 : l < 4 := by
      rcases Nat.lt_or_ge l 4 with q | q
      · exact q
      · have := h.2.2 0 l q
        omega
    show (if (14 ≤ 1 + 13 * 1 + (3 * l + (sN S 0 l - 1 - r)) ∧ 1 + 13 * 1 + (3 * l + (sN S 0 l - 1 - r)) < 26) ∧ _ then _ else _) = _
    rw [if_pos]
    · congr 1
      omega
    · have e1 : (1 + 13 * 1 + (3 * l + (sN S 0 l - 1 - r)) - 14) / 3 = l := by omega
      have e2 : (1 + 13 * 1 + (3 * l + (sN S 0 l - 1 - r)) - 14) % 3 = sN S 0 l - 1 - r := by omega
      rw [e1, e2]
      exact ⟨by omega, Or.inl ⟨by omega, by omega⟩⟩
  · rfl

set_option maxHeartbeats 4000000 in
set_option maxRecDepth 100000 in
theorem c_X0_copyRuns (l : Launch) (G : hG) (A : Nat → Prop) (hp : HP) (ad : Nat → Nat) (S : CS) (hC : cW ad S hp) (hA0 : hIn A hp) : hWr l yX0_copyRuns wsX0_copyRuns 2 42 0 0 G A hp [.ref (aB ad 1), .ref (aB ad 0)] (fun ro hp' => ro = none ∧ cT ad hp (cpS S 4 4 0) hp') := by
  refine Met.ofW (cc := cX0_copyRuns) (maxL := 5) (ret := none) (by decide) rfl ?_
  intro p e s m args below meth c s₁ B hml hv
  obtain ⟨rfl, hV0, hK0, hA⟩ := hv
  have hx := B.exec
  have hb := B.bytes
  have hr := B.returns
  have hts := atoms_spec (ws := wsX0_copyRuns) B.pre
  have hown : s.vm.findClass RX0 = some m.cls := findClass_of_methodNamed B.named
  have hlocks := B.notSynchronized
  have hF : CallFix p m c cX0_copyRuns 5 s [.ref (aB ad 1), .ref (aB ad 0)].toArray wsX0_copyRuns RX0 := ⟨hx, hb, hml, hown, hts⟩
  have hw0 := hts (.fieldLink RX0 17 "SlipLevels$Binder" "runs" "[I") (by decide +kernel)
  have hi0 : ∀ w ∈ u_ws RX0 TX0 5, w ∈ wsX0_copyRuns := by
    intro w h
    unfold wsX0_copyRuns
    simp only [List.mem_cons, List.mem_append, h, true_or, or_true]
  have hS : va_S A s.heap s.heap [] := va_S.rf
  have hl := lv_entry ([.ref (aB ad 1), .ref (aB ad 0)]) (n := 5) (Nat.le_of_ble_eq_true rfl)
  rw [lg_entry_eq]
  generalize (lg_sl ([.ref (aB ad 1), .ref (aB ad 0)]) ++ List.replicate (5 - (lg_sl ([.ref (aB ad 1), .ref (aB ad 0)])).length) Slot.unset).toArray = ls at hl ⊢
  replace hl : lv_has ls 5 [(0, .ref (aB ad 1)), (1, .ref (aB ad 0))] := hl
  have hT := cT.rf hC
  have hOk := hC.ok
  refine lv_iconst (v := nI 0) hx hb dX0_copyRuns_0 (by decide) ?_
  refine lv_istore_n (lv' := [(2, .int (nI 0)), (0, .ref (aB ad 1)), (1, .ref (aB ad 0))]) hx hb dX0_copyRuns_1 rfl hl (by decide) rfl (fun ls hl => ?_)
  rw [← cpS_0 S] at hT
  replace hl : lv_has ls 5 [(2, .int (nI 0)), (0, .ref (aB ad 1)), (1, .ref (aB ad 0))] := lv_sub hl [0, 1, 2] rfl
  refine h_loopW (G := G) (A := A) (H0 := s.heap) (Wf := fun i H locs ls => W p l e (headSpec wsX0_copyRuns { frames := 2, cells := 0, slots := 0, locals := 42 }).room s m ([.ref (aB ad 1), .ref (aB ad 0)].toArray) below meth c H locs 0 0 (MQ below (hW G A (fun ro hp' => ro = none ∧ cT ad hp (cpS S 4 4 0) hp')) ([.ref (aB ad 1), .ref (aB ad 0)].toArray) s 0 0 A) (F0 m 2 ls [])) 4 (fun i => [(2, .int (nI i)), (0, .ref (aB ad 1)), (1, .ref (aB ad 0))]) (fun i hp' => cT ad hp (cpS S i i 0) hp') (fun i hi2 hp' H locs hT hV0 hA0 hS ih2 ls hl => ?_) 0 (Nat.zero_le _) hp s.heap [] hT hV0 hA0 hS ls hl
  have hC := hT.1
  have hn := hOk.2.1 0 i
  refine lv_iload_n hx hb dX0_copyRuns_2 rfl (lv_at hl 0 rfl) ?_
  refine lv_iconst (v := nI 4) hx hb dX0_copyRuns_3 (by decide) ?_
  refine h_icmp_ge (a := i) (b := 4) (tgt := 67) hx hb dX0_copyRuns_4 (by decide) (by omega) (by omega) (fun c_4 => ?_) (fun c_4 => ?_)
  · obtain rfl : i = 4 := by omega
    exact W.vret hx hb hr (h_qW ⟨rfl, hT⟩ hV0 hA0 hS) hS.2.2 dX0_copyRuns_67 hlocks
  · refine lv_aload_n hx hb dX0_copyRuns_7 rfl (lv_at hl 1 rfl) ?_
    refine h_get (v := .ref (aN ad 1)) hx hb hts hi0 hown hK0 hV0 (hC.bo (by decide)) rfl 1 (by decide) hw0 rfl dX0_copyRuns_8 ?_
    refine lv_iload_n hx hb dX0_copyRuns_11 rfl (lv_at hl 0 rfl) ?_
    refine lv_aload_n hx hb dX0_copyRuns_12 rfl (lv_at hl 2 rfl) ?_
    refine h_get (v := .ref (aN ad 0)) hx hb hts hi0 hown hK0 hV0 (hC.bo (by decide)) rfl 1 (by decide) hw0 rfl dX0_copyRuns_13 ?_
    refine lv_iload_n hx hb dX0_copyRuns_16 rfl (lv_at hl 0 rfl) ?_
    refine h_iald (i := i) hx hb hK0 hV0 (hC.bn (by decide)) (by omega) (by omega) dX0_copyRuns_17 ?_
    have he17 : sN (cpS S i i 0) 0 i = sN S 0 i := cpS_N0 S i i 0 i
    rw [he17]
    refine h_iast (i := i) (x := nI (sN S 0 i)) hx hb hK0 hV0 hA0 hS (hC.bn (by decide)) (by omega) (by omega) dX0_copyRuns_18 (fun H locs hV0 hA0 hS => ?_)
    have hT := hT.setN (k := 1) (by decide) (l := i) (v := sN S 0 i) (by omega) (by omega)
    have hC := hT.1
    refine lv_iconst (v := nI 0) hx hb dX0_copyRuns_19 (by decide) ?_
    refine lv_istore_n (lv' := [(3, .int (nI 0)), (2, .int (nI i)), (0, .ref (aB ad 1)), (1, .ref (aB ad 0))]) hx hb dX0_copyRuns_20 rfl hl (by decide) rfl (fun ls hl => ?_)
    have hSe0 : uN (cpS S i i 0) 1 i (sN S 0 i) = cpS S (i + 1) i 0 := cpS_n (by omega)
    rw [hSe0] at hT
    replace hl : lv_has ls 5 [(3, .int (nI 0)), (2, .int (nI i)), (0, .ref (aB ad 1)), (1, .ref (aB ad 0))] := lv_sub hl [0, 1, 2, 3] rfl
    refine h_loopW (G := G) (A := A) (H0 := s.heap) (Wf := fun j H locs ls => W p l e (headSpec wsX0_copyRuns { frames := 2, cells := 0, slots := 0, locals := 42 }).room s m ([.ref (aB ad 1), .ref (aB ad 0)].toArray) below meth c H locs 0 0 (MQ below (hW G A (fun ro hp' => ro = none ∧ cT ad hp (cpS S 4 4 0) hp')) ([.ref (aB ad 1), .ref (aB ad 0)].toArray) s 0 0 A) (F0 m 21 ls [])) (sN S 0 i) (fun j => [(3, .int (nI j)), (2, .int (nI i)), (0, .ref (aB ad 1)), (1, .ref (aB ad 0))]) (fun j hp' => cT ad hp (cpS S (i + 1) i j) hp') (fun j hi21 hp' H locs hT hV0 hA0 hS ih21 ls hl => ?_) 0 (Nat.zero_le _) _ H locs hT hV0 hA0 hS ls hl
    have hC := hT.1
    refine lv_iload_n hx hb dX0_copyRuns_21 rfl (lv_at hl 0 rfl) ?_
    refine lv_aload_n hx hb dX0_copyRuns_22 rfl (lv_at hl 2 rfl) ?_
    refine h_get (v := .ref (aN ad 1)) hx hb hts hi0 hown hK0 hV0 (hC.bo (by decide)) rfl 1 (by decide) hw0 rfl dX0_copyRuns_23 ?_
    refine lv_iload_n hx hb dX0_copyRuns_26 rfl (lv_at hl 1 rfl) ?_
    refine h_iald (i := i) hx hb hK0 hV0 (hC.bn (by decide)) (by omega) (by omega) dX0_copyRuns_27 ?_
    have he17 : sN (cpS S (i + 1) i j) 1 i = sN S 0 i := cpS_N1 S i j
    rw [he17]
    refine h_icmp_ge (a := j) (b := sN S 0 i) (tgt := 61) hx hb dX0_copyRuns_28 (by decide) (by omega) (by omega) (fun c_28 => ?_) (fun c_28 => ?_)
    · have hj9 : j = sN S 0 i := by omega
      refine lv_iinc (v := nI (i + 1)) (lv' := [(2, .int (nI (i + 1))), (3, .int (nI j)), (0, .ref (aB ad 1)), (1, .ref (aB ad 0))]) hx hb dX0_copyRuns_61 hl (k := 1) rfl (nI_add (i) 1) (by decide) rfl (fun ls hl => ?_)
      refine lv_goto (tgt := 2) hx hb dX0_copyRuns_64 (by decide) ?_
      rw [hj9, cpS_next (S := S) (i := i) (by omega)] at hT
      exact ih2 _ H locs (by omega) hT hV0 hA0 hS ls (lv_sub hl [0, 2, 3] rfl)
    · refine lv_aload_n hx hb dX0_copyRuns_31 rfl (lv_at hl 2 rfl) ?_
      refine lv_iload_n hx hb dX0_copyRuns_32 rfl (lv_at hl 1 rfl) ?_
      refine lv_iload_n hx hb dX0_copyRuns_33 rfl (lv_at hl 0 rfl) ?_
      refine h_rdV (As := [.int (nI i), .int (nI j)]) (rest := []) hF (c_X0_rowAt l G _ ad (cpS S (i + 1) i j) hC 1 (by decide) i j (by omega) (by omega)) 2 gX0_copyRuns_X0_rowAt rfl (by decide +kernel) ⟨Nat.le_of_ble_eq_true rfl, Nat.le_of_ble_eq_true rfl⟩ hK0 hV0 (hC.bo (by decide)) rfl rfl rfl hl.1 rfl (Nat.le_of_ble_eq_true rfl) (Nat.le_of_ble_eq_true rfl) (Nat.le_of_ble_eq_true rfl) dX0_copyRuns_34 ?_
      refine lv_astore (lv' := [(4, .ref (aS ad (1 + 13 * 1 + (3 * i + j)))), (3, .int (nI j)), (2, .int (nI i)), (0, .ref (aB ad 1)), (1, .ref (aB ad 0))]) hx hb dX0_copyRuns_37 hl (by decide) rfl (fun ls hl => ?_)
      refine lv_aload hx hb dX0_copyRuns_39 (lv_at hl 0 rfl) ?_
      refine lv_ifnull hx hb dX0_copyRuns_41 ?_
      refine lv_aload hx hb dX0_copyRuns_44 (lv_at hl 0 rfl) ?_
      refine lv_aload_n hx hb dX0_copyRuns_46 rfl (lv_at hl 4 rfl) ?_
      refine lv_iload_n hx hb dX0_copyRuns_47 rfl (lv_at hl 2 rfl) ?_
      refine lv_iload_n hx hb dX0_copyRuns_48 rfl (lv_at hl 1 rfl) ?_
      refine h_rdV (As := [.int (nI i), .int (nI j)]) (rest := [.ref (aS ad (1 + 13 * 1 + (3 * i + j)))]) hF (c_X0_rowAt l G _ ad (cpS S (i + 1) i j) hC 0 (by decide) i j (by omega) (by omega)) 2 gX0_copyRuns_X0_rowAt rfl (by decide +kernel) ⟨Nat.le_of_ble_eq_true rfl, Nat.le_of_ble_eq_true rfl⟩ hK0 hV0 (hC.bo (by decide)) rfl rfl rfl hl.1 rfl (Nat.le_of_ble_eq_true rfl) (Nat.le_of_ble_eq_true rfl) (Nat.le_of_ble_eq_true rfl) dX0_copyRuns_49 ?_
      refine h_wrV (As := [.ref (aS ad (1 + 13 * 0 + (3 * i + j)))]) (rest := []) hF (c_X1_copy l G A _ (aS ad (1 + 13 * 1 + (3 * i + j))) (aW ad (1 + 13 * 1 + (3 * i + j))) (aS ad (1 + 13 * 0 + (3 * i + j))) (aW ad (1 + 13 * 0 + (3 * i + j))) (sF (cpS S (i + 1) i j) (1 + 13 * 1 + (3 * i + j))) (sF (cpS S (i + 1) i j) (1 + 13 * 0 + (3 * i + j))) (hC.sl (by omega)) (hC.sl (by omega)) (hC.ne (by omega) (by omega) (by omega)).1 (hC.ne (by omega) (by omega) (by omega)).2 (hC.ok.1 _).1 (hC.ok.1 _).1 hA0) 1 gX0_copyRuns_X1_copy rfl (by decide +kernel) ⟨Nat.le_of_ble_eq_true rfl, Nat.le_of_ble_eq_true rfl⟩ hK0 hV0 hA hS (hC.sl (by omega)).1 rfl rfl rfl hl.1 rfl (Nat.le_of_ble_eq_true rfl) ⟨Nat.le_of_ble_eq_true rfl, Nat.le_of_ble_eq_true rfl⟩ dX0_copyRuns_52 (fun ro hp1 H locs hP1 hV0 hA0 hS => ?_)
      obtain ⟨rfl, rfl⟩ := hP1
      have hT := hT.setF (j := (1 + 13 * 1 + (3 * i + j))) (by omega) (hC.ok.1 (1 + 13 * 0 + (3 * i + j)))
      have hC := hT.1
      refine lv_iinc (v := nI (j + 1)) (lv' := [(3, .int (nI (j + 1))), (4, .ref (aS ad (1 + 13 * 1 + (3 * i + j)))), (2, .int (nI i)), (0, .ref (aB ad 1)), (1, .ref (aB ad 0))]) hx hb dX0_copyRuns_55 hl (k := 1) rfl (nI_add (j) 1) (by decide) rfl (fun ls hl => ?_)
      refine lv_goto (tgt := 21) hx hb dX0_copyRuns_58 (by decide) ?_
      have hSe : uF (cpS S (i + 1) i j) (1 + 13 * 1 + (3 * i + j)) (sF (cpS S (i + 1) i j) (1 + 13 * 0 + (3 * i + j))) = cpS S (i + 1) i (j + 1) := cpS_put (by omega) (by omega)
      rw [hSe] at hT
      exact ih21 _ H locs (by omega) hT hV0 hA0 hS ls (lv_sub hl [0, 2, 3, 4] rfl)
