theorem hasR_false {f : Row} {n : Nat} (h : f n = -2) : hasR f n = false := by simp [hasR, h]
theorem hasR_true {f : Row} {n : Nat} (h : ¬ f n = -2) : hasR f n = true := by simp [hasR, h]
theorem nI_dec {a : Nat} (h : 0 < a) : nI a + Int32.ofInt (-1) = nI (a - 1) := by
  obtain ⟨b, rfl⟩ : ∃ b, a = b + 1 := ⟨a - 1, by omega⟩
  rw [show Int32.ofInt (-1) = (-1 : Int32) from by decide]
  exact pk_m1 b
theorem opnC_1 {f : Row} {k : Nat} (h : k < lsR f) : bI (opnC f k) = nI 0 := by
  have : ¬ lsR f ≤ k := by omega
  simp [opnC, this, bI]
  rfl
theorem opnC_2 {f : Row} {k : Nat} (h : grR f < nI k) : bI (opnC f k) = nI 0 := by
  have : ¬ nI k ≤ grR f := Int32.not_le.mpr h
  simp [opnC, this, bI]
  rfl
theorem opnC_3 {f : Row} {k : Nat} (h : ¬ (svR f >>> (nI (k % 8) &&& 31)) &&& nI 1 = nI 1) : bI (opnC f k) = nI 0 := by
  rw [svR, sv_bit (opR f) (by omega)] at h
  have h2 : opR f (k % 8) = false := by
    cases hq : opR f (k % 8) with
    | false => rfl
    | true => rw [hq] at h; exact absurd rfl h
  simp [opnC, h2, bI]
  rfl
theorem opnC_4 {f : Row} {k : Nat} (h1 : ¬ k < lsR f) (h2 : ¬ grR f < nI k) (h : (svR f >>> (nI (k % 8) &&& 31)) &&& nI 1 = nI 1) : bI (opnC f k) = nI 1 := by
  rw [svR, sv_bit (opR f) (by omega)] at h
  have h3 : opR f (k % 8) = true := by
    cases hq : opR f (k % 8) with
    | true => rfl
    | false => rw [hq] at h; exact absurd h (by decide)
  have h4 : lsR f ≤ k := by omega
  have h5 : nI k ≤ grR f := Int32.not_lt.mp h2
  simp [opnC, h3, h4, h5, bI]
  rfl
def factR (f : Row) : Nat → Int32
  | 0 => nI (szR f)
  | 1 => nI (lsR f)
  | 2 => grR f
  | 3 => svR f
  | _ => nI (tbR f)

set_option maxHeartbeats 4000000 in
set_option maxRecDepth 100000 in
theorem c_X1_size (l : Launch) (G : hG) (hp : HP) (a w : Nat) (f : Row) (he : slAt hp a w f) : hRd l yX1_size wsX1_size 0 0 G hp [.ref a] (some (.int (nI (szR f)))) := by
  refine Met.ofW (cc := cX1_size) (maxL := 1) (ret := (some .int)) (by decide) rfl ?_
  intro p e s m args below meth c s₁ B hml hv
  obtain ⟨rfl, hV0, hK0⟩ := hv
  have hx := B.exec
  have hb := B.bytes
  have hr := B.returns
  have hts := atoms_spec (ws := wsX1_size) B.pre
  have hown : s.vm.findClass RX1 = some m.cls := findClass_of_methodNamed B.named
  have hlocks := B.notSynchronized
  have hF : CallFix p m c cX1_size 1 s [.ref a].toArray wsX1_size RX1 := ⟨hx, hb, hml, hown, hts⟩
  have hw0 := hts (.fieldLink RX1 24 "SlipLevels$Slips" "size" "I") (by decide +kernel)
  have hi1 : ∀ w ∈ u_ws RX1 TX1 6, w ∈ wsX1_size := by
    intro w h
    unfold wsX1_size
    simp only [List.mem_cons, List.mem_append, h, true_or, or_true]
  have hl := lv_entry ([.ref a]) (n := 1) (Nat.le_of_ble_eq_true rfl)
  rw [lg_entry_eq]
  generalize (lg_sl ([.ref a]) ++ List.replicate (1 - (lg_sl ([.ref a])).length) Slot.unset).toArray = ls at hl ⊢
  replace hl : lv_has ls 1 [(0, .ref a)] := hl
  refine lv_aload_n hx hb dX1_size_0 rfl (lv_at hl 0 rfl) ?_
  refine h_get (v := .int (nI (szR f))) hx hb hts hi1 hown hK0 hV0 he.1 rfl 1 (by decide) hw0 rfl dX1_size_1 ?_
  exact h_iretR hx hb hr hlocks (by first | rfl | assumption) dX1_size_4

set_option maxHeartbeats 4000000 in
set_option maxRecDepth 100000 in
theorem c_X1_tombs (l : Launch) (G : hG) (hp : HP) (a w : Nat) (f : Row) (he : slAt hp a w f) : hRd l yX1_tombs wsX1_tombs 0 0 G hp [.ref a] (some (.int (nI (tbR f)))) := by
  refine Met.ofW (cc := cX1_tombs) (maxL := 1) (ret := (some .int)) (by decide) rfl ?_
  intro p e s m args below meth c s₁ B hml hv
  obtain ⟨rfl, hV0, hK0⟩ := hv
  have hx := B.exec
  have hb := B.bytes
  have hr := B.returns
  have hts := atoms_spec (ws := wsX1_tombs) B.pre
  have hown : s.vm.findClass RX1 = some m.cls := findClass_of_methodNamed B.named
  have hlocks := B.notSynchronized
  have hF : CallFix p m c cX1_tombs 1 s [.ref a].toArray wsX1_tombs RX1 := ⟨hx, hb, hml, hown, hts⟩
  have hw0 := hts (.fieldLink RX1 28 "SlipLevels$Slips" "tombs" "I") (by decide +kernel)
  have hi1 : ∀ w ∈ u_ws RX1 TX1 6, w ∈ wsX1_tombs := by
    intro w h
    unfold wsX1_tombs
    simp only [List.mem_cons, List.mem_append, h, true_or, or_true]
  have hl := lv_entry ([.ref a]) (n := 1) (Nat.le_of_ble_eq_true rfl)
  rw [lg_entry_eq]
  generalize (lg_sl ([.ref a]) ++ List.replicate (1 - (lg_sl ([.ref a])).length) Slot.unset).toArray = ls at hl ⊢
  replace hl : lv_has ls 1 [(0, .ref a)] := hl
  refine lv_aload_n hx hb dX1_tombs_0 rfl (lv_at hl 0 rfl) ?_
  refine h_get (v := .int (nI (tbR f))) hx hb hts hi1 hown hK0 hV0 he.1 rfl 2 (by decide) hw0 rfl dX1_tombs_1 ?_
  exact h_iretR hx hb hr hlocks (by first | rfl | assumption) dX1_tombs_4

set_option maxHeartbeats 4000000 in
set_option maxRecDepth 100000 in
theorem c_X1_wordAt (l : Launch) (G : hG) (hp : HP) (a w : Nat) (f : Row) (he : slAt hp a w f) (k : Nat) (hk : k < 64) : hRd l yX1_wordAt wsX1_wordAt 0 0 G hp [.ref a, .int (nI k)] (some (.int (f k))) := by
  refine Met.ofW (cc := cX1_wordAt) (maxL := 2) (ret := (some .int)) (by decide) rfl ?_
  intro p e s m args below meth c s₁ B hml hv
  obtain ⟨rfl, hV0, hK0⟩ := hv
  have hx := B.exec
  have hb := B.bytes
  have hr := B.returns
  have hts := atoms_spec (ws := wsX1_wordAt) B.pre
  have hown : s.vm.findClass RX1 = some m.cls := findClass_of_methodNamed B.named
  have hlocks := B.notSynchronized
  have hF : CallFix p m c cX1_wordAt 2 s [.ref a, .int (nI k)].toArray wsX1_wordAt RX1 := ⟨hx, hb, hml, hown, hts⟩
  have hw0 := hts (.fieldLink RX1 9 "SlipLevels$Slips" "words" "[I") (by decide +kernel)
  have hi1 : ∀ w ∈ u_ws RX1 TX1 6, w ∈ wsX1_wordAt := by
    intro w h
    unfold wsX1_wordAt
    simp only [List.mem_cons, List.mem_append, h, true_or, or_true]
  have hl := lv_entry ([.ref a, .int (nI k)]) (n := 2) (Nat.le_of_ble_eq_true rfl)
  rw [lg_entry_eq]
  generalize (lg_sl ([.ref a, .int (nI k)]) ++ List.replicate (2 - (lg_sl ([.ref a, .int (nI k)])).length) Slot.unset).toArray = ls at hl ⊢
  replace hl : lv_has ls 2 [(0, .ref a), (1, .int (nI k))] := hl
  refine lv_iload_n hx hb dX1_wordAt_0 rfl (lv_at hl 1 rfl) ?_
  refine h_if_lt (a := k) (tgt := 10) hx hb dX1_wordAt_1 (by decide) (by omega) ?_
  refine lv_iload_n hx hb dX1_wordAt_4 rfl (lv_at hl 1 rfl) ?_
  refine lv_bipush (v := nI 64) hx hb dX1_wordAt_5 (by decide) ?_
  refine h_icmp_lt (a := k) (b := 64) (tgt := 15) hx hb dX1_wordAt_7 (by decide) (by omega) (by omega) (fun c_7 => ?_) (fun c_7 => absurd hk c_7)
  refine lv_aload_n hx hb dX1_wordAt_15 rfl (lv_at hl 0 rfl) ?_
  refine h_get (v := .ref w) hx hb hts hi1 hown hK0 hV0 he.1 rfl 0 (by decide) hw0 rfl dX1_wordAt_16 ?_
  refine lv_iload_n hx hb dX1_wordAt_19 rfl (lv_at hl 1 rfl) ?_
  refine h_iald (i := k) hx hb hK0 hV0 he.2 (by omega) (by omega) dX1_wordAt_20 ?_
  exact h_iretR hx hb hr hlocks (by first | rfl | assumption) dX1_wordAt_21

set_option maxHeartbeats 4000000 in
set_option maxRecDepth 100000 in
theorem c_X1_has (l : Launch) (G : hG) (hp : HP) (a w : Nat) (f : Row) (he : slAt hp a w f) (k : Nat) (hk : k < 64) : hRd l yX1_has wsX1_has 1 21 G hp [.ref a, .int (nI k)] (some (.int (bI (hasR f k)))) := by
  refine Met.ofW (cc := cX1_has) (maxL := 2) (ret := (some .boolean)) (by decide) rfl ?_
  intro p e s m args below meth c s₁ B hml hv
  obtain ⟨rfl, hV0, hK0⟩ := hv
  have hx := B.exec
  have hb := B.bytes
  have hr := B.returns
  have hts := atoms_spec (ws := wsX1_has) B.pre
  have hown : s.vm.findClass RX1 = some m.cls := findClass_of_methodNamed B.named
  have hlocks := B.notSynchronized
  have hF : CallFix p m c cX1_has 2 s [.ref a, .int (nI k)].toArray wsX1_has RX1 := ⟨hx, hb, hml, hown, hts⟩
  have hl := lv_entry ([.ref a, .int (nI k)]) (n := 2) (Nat.le_of_ble_eq_true rfl)
  rw [lg_entry_eq]
  generalize (lg_sl ([.ref a, .int (nI k)]) ++ List.replicate (2 - (lg_sl ([.ref a, .int (nI k)])).length) Slot.unset).toArray = ls at hl ⊢
  replace hl : lv_has ls 2 [(0, .ref a), (1, .int (nI k))] := hl
  refine lv_aload_n hx hb dX1_has_0 rfl (lv_at hl 0 rfl) ?_
  refine lv_iload_n hx hb dX1_has_1 rfl (lv_at hl 1 rfl) ?_
  refine h_rdV (As := [.int (nI k)]) (rest := []) hF (c_X1_wordAt l G hp a w f he k (by omega)) 1 gX1_has_X1_wordAt rfl (by decide +kernel) ⟨Nat.le_of_ble_eq_true rfl, Nat.le_of_ble_eq_true rfl⟩ hK0 hV0 he.1 rfl rfl rfl hl.1 rfl (Nat.le_of_ble_eq_true rfl) (Nat.le_refl _) (Nat.le_refl _) dX1_has_2 ?_
  refine lv_bipush (v := (-2)) hx hb dX1_has_5 (by decide) ?_
  refine lv_icmp_eq (tgt := 14) hx hb dX1_has_7 (by decide) (fun c_7 => ?_) (fun c_7 => ?_)
  · refine lv_iconst (v := nI 0) hx hb dX1_has_14 (by decide) ?_
    exact h_zretR hx hb hr hlocks (by first | (rw [hasR_false c_7]; rfl) | (rw [hasR_true c_7]; rfl)) dX1_has_15
  · refine lv_iconst (v := nI 1) hx hb dX1_has_10 (by decide) ?_
    refine lv_goto (tgt := 15) hx hb dX1_has_11 (by decide) ?_
    exact h_zretR hx hb hr hlocks (by first | (rw [hasR_false c_7]; rfl) | (rw [hasR_true c_7]; rfl)) dX1_has_15

set_option maxHeartbeats 4000000 in
set_option maxRecDepth 100000 in
theorem c_X1_opensFor (l : Launch) (G : hG) (hp : HP) (a w : Nat) (f : Row) (he : slAt hp a w f) (k : Nat) (hk : k < 64) : hRd l yX1_opensFor wsX1_opensFor 0 0 G hp [.ref a, .int (nI k)] (some (.int (bI (opnC f k)))) := by
  refine Met.ofW (cc := cX1_opensFor) (maxL := 2) (ret := (some .boolean)) (by decide) rfl ?_
  intro p e s m args below meth c s₁ B hml hv
  obtain ⟨rfl, hV0, hK0⟩ := hv
  have hx := B.exec
  have hb := B.bytes
  have hr := B.returns
  have hts := atoms_spec (ws := wsX1_opensFor) B.pre
  have hown : s.vm.findClass RX1 = some m.cls := findClass_of_methodNamed B.named
  have hlocks := B.notSynchronized
  have hF : CallFix p m c cX1_opensFor 2 s [.ref a, .int (nI k)].toArray wsX1_opensFor RX1 := ⟨hx, hb, hml, hown, hts⟩
  have hw0 := hts (.fieldLink RX1 31 "SlipLevels$Slips" "least" "I") (by decide +kernel)
  have hw1 := hts (.fieldLink RX1 34 "SlipLevels$Slips" "greatest" "I") (by decide +kernel)
  have hw2 := hts (.fieldLink RX1 37 "SlipLevels$Slips" "sieve" "I") (by decide +kernel)
  have hi1 : ∀ w ∈ u_ws RX1 TX1 6, w ∈ wsX1_opensFor := by
    intro w h
    unfold wsX1_opensFor
    simp only [List.mem_cons, List.mem_append, h, true_or, or_true]
  have hl := lv_entry ([.ref a, .int (nI k)]) (n := 2) (Nat.le_of_ble_eq_true rfl)
  rw [lg_entry_eq]
  generalize (lg_sl ([.ref a, .int (nI k)]) ++ List.replicate (2 - (lg_sl ([.ref a, .int (nI k)])).length) Slot.unset).toArray = ls at hl ⊢
  replace hl : lv_has ls 2 [(0, .ref a), (1, .int (nI k))] := hl
  have hz1 := szR_le f
  have hz2 := tbR_le f
  have hz3 := lsR_le f
  refine lv_iload_n hx hb dX1_opensFor_0 rfl (lv_at hl 1 rfl) ?_
  refine lv_aload_n hx hb dX1_opensFor_1 rfl (lv_at hl 0 rfl) ?_
  refine h_get (v := .int (nI (lsR f))) hx hb hts hi1 hown hK0 hV0 he.1 rfl 3 (by decide) hw0 rfl dX1_opensFor_2 ?_
  refine h_icmp_lt (a := k) (b := lsR f) (tgt := 35) hx hb dX1_opensFor_5 (by decide) (by omega) (by omega) (fun c_5 => ?_) (fun c_5 => ?_)
  · refine lv_iconst (v := nI 0) hx hb dX1_opensFor_35 (by decide) ?_
    exact h_zretR hx hb hr hlocks (opnC_1 c_5).symm dX1_opensFor_36
  · refine lv_iload_n hx hb dX1_opensFor_8 rfl (lv_at hl 1 rfl) ?_
    refine lv_aload_n hx hb dX1_opensFor_9 rfl (lv_at hl 0 rfl) ?_
    refine h_get (v := .int (grR f)) hx hb hts hi1 hown hK0 hV0 he.1 rfl 4 (by decide) hw1 rfl dX1_opensFor_10 ?_
    refine lv_icmp_gt (tgt := 35) hx hb dX1_opensFor_13 (by decide) (fun c_13 => ?_) (fun c_13 => ?_)
    · refine lv_iconst (v := nI 0) hx hb dX1_opensFor_35 (by decide) ?_
      exact h_zretR hx hb hr hlocks (opnC_2 c_13).symm dX1_opensFor_36
    · refine lv_aload_n hx hb dX1_opensFor_16 rfl (lv_at hl 0 rfl) ?_
      refine h_get (v := .int (svR f)) hx hb hts hi1 hown hK0 hV0 he.1 rfl 5 (by decide) hw2 rfl dX1_opensFor_17 ?_
      refine lv_iload_n hx hb dX1_opensFor_20 rfl (lv_at hl 1 rfl) ?_
      refine lv_bipush (v := nI 8) hx hb dX1_opensFor_21 (by decide) ?_
      refine h_iremN hx hb (by omega) (by decide) (by decide) dX1_opensFor_23 ?_
      refine lv_ishr hx hb dX1_opensFor_24 ?_
      refine lv_iconst (v := nI 1) hx hb dX1_opensFor_25 (by decide) ?_
      refine lv_iand hx hb dX1_opensFor_26 ?_
      refine lv_iconst (v := nI 1) hx hb dX1_opensFor_27 (by decide) ?_
      refine lv_icmp_ne (tgt := 35) hx hb dX1_opensFor_28 (by decide) (fun c_28 => ?_) (fun c_28 => ?_)
      · refine lv_iconst (v := nI 0) hx hb dX1_opensFor_35 (by decide) ?_
        exact h_zretR hx hb hr hlocks (opnC_3 c_28).symm dX1_opensFor_36
      · refine lv_iconst (v := nI 1) hx hb dX1_opensFor_31 (by decide) ?_
        refine lv_goto (tgt := 36) hx hb dX1_opensFor_32 (by decide) ?_
        exact h_zretR hx hb hr hlocks (opnC_4 c_5 c_13 c_28).symm dX1_opensFor_36

set_option maxHeartbeats 4000000 in
set_option maxRecDepth 100000 in
theorem c_X1_told (l : Launch) (G : hG) (hp : HP) (a w : Nat) (f : Row) (he : slAt hp a w f) (k : Nat) (hk : k < 64) : hRd l yX1_told wsX1_told 1 21 G hp [.ref a, .int (nI k)] (some (.int (toldR f k))) := by
  refine Met.ofW (cc := cX1_told) (maxL := 3) (ret := (some .int)) (by decide) rfl ?_
  intro p e s m args below meth c s₁ B hml hv
  obtain ⟨rfl, hV0, hK0⟩ := hv
  have hx := B.exec
  have hb := B.bytes
  have hr := B.returns
  have hts := atoms_spec (ws := wsX1_told) B.pre
  have hown : s.vm.findClass RX1 = some m.cls := findClass_of_methodNamed B.named
  have hlocks := B.notSynchronized
  have hF : CallFix p m c cX1_told 3 s [.ref a, .int (nI k)].toArray wsX1_told RX1 := ⟨hx, hb, hml, hown, hts⟩
  have hl := lv_entry ([.ref a, .int (nI k)]) (n := 3) (Nat.le_of_ble_eq_true rfl)
  rw [lg_entry_eq]
  generalize (lg_sl ([.ref a, .int (nI k)]) ++ List.replicate (3 - (lg_sl ([.ref a, .int (nI k)])).length) Slot.unset).toArray = ls at hl ⊢
  replace hl : lv_has ls 3 [(0, .ref a), (1, .int (nI k))] := hl
  refine lv_aload_n hx hb dX1_told_0 rfl (lv_at hl 0 rfl) ?_
  refine lv_iload_n hx hb dX1_told_1 rfl (lv_at hl 1 rfl) ?_
  refine h_rdV (As := [.int (nI k)]) (rest := []) hF (c_X1_wordAt l G hp a w f he k (by omega)) 1 gX1_told_X1_wordAt rfl (by decide +kernel) ⟨Nat.le_of_ble_eq_true rfl, Nat.le_of_ble_eq_true rfl⟩ hK0 hV0 he.1 rfl rfl rfl hl.1 rfl (Nat.le_of_ble_eq_true rfl) (Nat.le_refl _) (Nat.le_refl _) dX1_told_2 ?_
  refine lv_istore_n (lv' := [(2, .int (f k)), (0, .ref a), (1, .int (nI k))]) hx hb dX1_told_5 rfl hl (by decide) rfl (fun ls hl => ?_)
  refine lv_iload_n hx hb dX1_told_6 rfl (lv_at hl 0 rfl) ?_
  refine lv_iconst (v := (-1)) hx hb dX1_told_7 (by decide) ?_
  refine lv_icmp_ne (tgt := 17) hx hb dX1_told_8 (by decide) (fun c_8 => ?_) (fun c_8 => ?_)
  · refine lv_bipush (v := nI 100) hx hb dX1_told_17 (by decide) ?_
    refine lv_iload_n hx hb dX1_told_19 rfl (lv_at hl 2 rfl) ?_
    refine lv_imul hx hb dX1_told_20 ?_
    refine lv_iload_n hx hb dX1_told_21 rfl (lv_at hl 0 rfl) ?_
    refine lv_iadd hx hb dX1_told_22 ?_
    exact h_iretR hx hb hr hlocks (by unfold toldR; first | rw [if_neg c_8] | rw [if_pos c_8]; done) dX1_told_23
  · refine lv_iconst (v := (-1)) hx hb dX1_told_11 (by decide) ?_
    refine lv_iload_n hx hb dX1_told_12 rfl (lv_at hl 2 rfl) ?_
    refine lv_isub hx hb dX1_told_13 ?_
    refine lv_goto (tgt := 23) hx hb dX1_told_14 (by decide) ?_
    exact h_iretR hx hb hr hlocks (by unfold toldR; first | rw [if_neg c_8] | rw [if_pos c_8]; done) dX1_told_23

set_option maxHeartbeats 4000000 in
set_option maxRecDepth 100000 in
theorem c_X1_fact (l : Launch) (G : hG) (hp : HP) (a w : Nat) (f : Row) (he : slAt hp a w f) (wh : Nat) (hk : wh < 5) : hRd l yX1_fact wsX1_fact 0 0 G hp [.ref a, .int (nI wh)] (some (.int (factR f wh))) := by
  refine Met.ofW (cc := cX1_fact) (maxL := 2) (ret := (some .int)) (by decide) rfl ?_
  intro p e s m args below meth c s₁ B hml hv
  obtain ⟨rfl, hV0, hK0⟩ := hv
  have hx := B.exec
  have hb := B.bytes
  have hr := B.returns
  have hts := atoms_spec (ws := wsX1_fact) B.pre
  have hown : s.vm.findClass RX1 = some m.cls := findClass_of_methodNamed B.named
  have hlocks := B.notSynchronized
  have hF : CallFix p m c cX1_fact 2 s [.ref a, .int (nI wh)].toArray wsX1_fact RX1 := ⟨hx, hb, hml, hown, hts⟩
  have hw0 := hts (.fieldLink RX1 24 "SlipLevels$Slips" "size" "I") (by decide +kernel)
  have hw1 := hts (.fieldLink RX1 31 "SlipLevels$Slips" "least" "I") (by decide +kernel)
  have hw2 := hts (.fieldLink RX1 34 "SlipLevels$Slips" "greatest" "I") (by decide +kernel)
  have hw3 := hts (.fieldLink RX1 37 "SlipLevels$Slips" "sieve" "I") (by decide +kernel)
  have hw4 := hts (.fieldLink RX1 28 "SlipLevels$Slips" "tombs" "I") (by decide +kernel)
  have hi1 : ∀ w ∈ u_ws RX1 TX1 6, w ∈ wsX1_fact := by
    intro w h
    unfold wsX1_fact
    simp only [List.mem_cons, List.mem_append, h, true_or, or_true]
  have hl := lv_entry ([.ref a, .int (nI wh)]) (n := 2) (Nat.le_of_ble_eq_true rfl)
  rw [lg_entry_eq]
  generalize (lg_sl ([.ref a, .int (nI wh)]) ++ List.replicate (2 - (lg_sl ([.ref a, .int (nI wh)])).length) Slot.unset).toArray = ls at hl ⊢
  replace hl : lv_has ls 2 [(0, .ref a), (1, .int (nI wh))] := hl
  refine lv_iload_n hx hb dX1_fact_0 rfl (lv_at hl 1 rfl) ?_
  rcases (show wh = 0 ∨ wh = 1 ∨ wh = 2 ∨ wh = 3 ∨ 4 ≤ wh by omega) with hq | hq | hq | hq | hq
  · subst hq
    refine lv_tableIn (off := 31) (tgt := 32) hx hb dX1_fact_1 (by decide) (by decide) (by decide) (by decide) ?_
    refine lv_aload_n hx hb dX1_fact_32 rfl (lv_at hl 0 rfl) ?_
    refine h_get (v := .int (nI (szR f))) hx hb hts hi1 hown hK0 hV0 he.1 rfl 1 (by decide) hw0 rfl dX1_fact_33 ?_
    exact h_iretR hx hb hr hlocks (by first | rfl | (rw [show wh = 4 by omega]; rfl)) dX1_fact_36
  · subst hq
    refine lv_tableIn (off := 36) (tgt := 37) hx hb dX1_fact_1 (by decide) (by decide) (by decide) (by decide) ?_
    refine lv_aload_n hx hb dX1_fact_37 rfl (lv_at hl 0 rfl) ?_
    refine h_get (v := .int (nI (lsR f))) hx hb hts hi1 hown hK0 hV0 he.1 rfl 3 (by decide) hw1 rfl dX1_fact_38 ?_
    exact h_iretR hx hb hr hlocks (by first | rfl | (rw [show wh = 4 by omega]; rfl)) dX1_fact_41
  · subst hq
    refine lv_tableIn (off := 41) (tgt := 42) hx hb dX1_fact_1 (by decide) (by decide) (by decide) (by decide) ?_
    refine lv_aload_n hx hb dX1_fact_42 rfl (lv_at hl 0 rfl) ?_
    refine h_get (v := .int (grR f)) hx hb hts hi1 hown hK0 hV0 he.1 rfl 4 (by decide) hw2 rfl dX1_fact_43 ?_
    exact h_iretR hx hb hr hlocks (by first | rfl | (rw [show wh = 4 by omega]; rfl)) dX1_fact_46
  · subst hq
    refine lv_tableIn (off := 46) (tgt := 47) hx hb dX1_fact_1 (by decide) (by decide) (by decide) (by decide) ?_
    refine lv_aload_n hx hb dX1_fact_47 rfl (lv_at hl 0 rfl) ?_
    refine h_get (v := .int (svR f)) hx hb hts hi1 hown hK0 hV0 he.1 rfl 5 (by decide) hw3 rfl dX1_fact_48 ?_
    exact h_iretR hx hb hr hlocks (by first | rfl | (rw [show wh = 4 by omega]; rfl)) dX1_fact_51
  · refine lv_tableOut (tgt := 52) hx hb dX1_fact_1 (Or.inr (by rw [nI_toInt (by omega)]; omega)) (by decide) ?_
    refine lv_aload_n hx hb dX1_fact_52 rfl (lv_at hl 0 rfl) ?_
    refine h_get (v := .int (nI (tbR f))) hx hb hts hi1 hown hK0 hV0 he.1 rfl 2 (by decide) hw4 rfl dX1_fact_53 ?_
    exact h_iretR hx hb hr hlocks (by first | rfl | (rw [show wh = 4 by omega]; rfl)) dX1_fact_56

set_option maxHeartbeats 4000000 in
set_option maxRecDepth 100000 in
theorem c_X1_numberAt (l : Launch) (G : hG) (hp : HP) (a w : Nat) (f : Row) (he : slAt hp a w f) (k : Nat) (hk : k < szR f) : hRd l yX1_numberAt wsX1_numberAt 2 42 G hp [.ref a, .int (nI k)] (some (.int (nI (nthR f k)))) := by
  refine Met.ofW (cc := cX1_numberAt) (maxL := 4) (ret := (some .int)) (by decide) rfl ?_
  intro p e s m args below meth c s₁ B hml hv
  obtain ⟨rfl, hV0, hK0⟩ := hv
  have hx := B.exec
  have hb := B.bytes
  have hr := B.returns
  have hts := atoms_spec (ws := wsX1_numberAt) B.pre
  have hown : s.vm.findClass RX1 = some m.cls := findClass_of_methodNamed B.named
  have hlocks := B.notSynchronized
  have hF : CallFix p m c cX1_numberAt 4 s [.ref a, .int (nI k)].toArray wsX1_numberAt RX1 := ⟨hx, hb, hml, hown, hts⟩
  have hw0 := hts (.fieldLink RX1 24 "SlipLevels$Slips" "size" "I") (by decide +kernel)
  have hi1 : ∀ w ∈ u_ws RX1 TX1 6, w ∈ wsX1_numberAt := by
    intro w h
    unfold wsX1_numberAt
    simp only [List.mem_cons, List.mem_append, h, true_or, or_true]
  have hl := lv_entry ([.ref a, .int (nI k)]) (n := 4) (Nat.le_of_ble_eq_true rfl)
  rw [lg_entry_eq]
  generalize (lg_sl ([.ref a, .int (nI k)]) ++ List.replicate (4 - (lg_sl ([.ref a, .int (nI k)])).length) Slot.unset).toArray = ls at hl ⊢
  replace hl : lv_has ls 4 [(0, .ref a), (1, .int (nI k))] := hl
  have hz1 := szR_le f
  have hz2 := tbR_le f
  have hz3 := lsR_le f
  refine lv_iload_n hx hb dX1_numberAt_0 rfl (lv_at hl 1 rfl) ?_
  refine h_if_lt (a := k) (tgt := 12) hx hb dX1_numberAt_1 (by decide) (by omega) ?_
  refine lv_iload_n hx hb dX1_numberAt_4 rfl (lv_at hl 1 rfl) ?_
  refine lv_aload_n hx hb dX1_numberAt_5 rfl (lv_at hl 0 rfl) ?_
  refine h_get (v := .int (nI (szR f))) hx hb hts hi1 hown hK0 hV0 he.1 rfl 1 (by decide) hw0 rfl dX1_numberAt_6 ?_
  refine h_icmp_lt (a := k) (b := szR f) (tgt := 14) hx hb dX1_numberAt_9 (by decide) (by omega) (by omega) (fun c_9 => ?_) (fun c_9 => absurd hk c_9)
  refine lv_iload_n hx hb dX1_numberAt_14 rfl (lv_at hl 1 rfl) ?_
  refine lv_istore_n (lv' := [(2, .int (nI k)), (0, .ref a), (1, .int (nI k))]) hx hb dX1_numberAt_15 rfl hl (by decide) rfl (fun ls hl => ?_)
  refine lv_iconst (v := nI 0) hx hb dX1_numberAt_16 (by decide) ?_
  refine lv_istore_n (lv' := [(3, .int (nI 0)), (2, .int (nI k)), (0, .ref a), (1, .int (nI k))]) hx hb dX1_numberAt_17 rfl hl (by decide) rfl (fun ls hl => ?_)
  replace hl : lv_has ls 4 [(3, .int (nI 0)), (2, .int (nI (k - cntB (hasR f) 0))), (0, .ref a), (1, .int (nI k))] := lv_sub hl [0, 1, 2, 3] rfl
  revert ls
  refine h_loop 64 (fun i => [(3, .int (nI i)), (2, .int (nI (k - cntB (hasR f) i))), (0, .ref a), (1, .int (nI k))]) (fun i => cntB (hasR f) i ≤ k) (fun i hi hI ih ls hl => ?_) 0 (Nat.zero_le _) (Nat.zero_le _)
  refine lv_iload_n hx hb dX1_numberAt_18 rfl (lv_at hl 0 rfl) ?_
  refine lv_bipush (v := nI 64) hx hb dX1_numberAt_19 (by decide) ?_
  have hcle := cntB_le (hasR f) i
  refine h_icmp_ge (a := i) (b := 64) (tgt := 47) hx hb dX1_numberAt_21 (by decide) (by omega) (by omega) (fun c_21 => ?_) (fun c_21 => ?_)
  · refine lv_iconst (v := (-1)) hx hb dX1_numberAt_47 (by decide) ?_
    exact h_iretR hx hb hr hlocks (absurd hk (by rw [show i = 64 by omega] at hI; exact Nat.not_lt.mpr hI)) dX1_numberAt_48
  · refine lv_aload_n hx hb dX1_numberAt_24 rfl (lv_at hl 2 rfl) ?_
    refine lv_iload_n hx hb dX1_numberAt_25 rfl (lv_at hl 0 rfl) ?_
    refine h_rdV (As := [.int (nI i)]) (rest := []) hF (c_X1_has l G hp a w f he i (by omega)) 1 gX1_numberAt_X1_has rfl (by decide +kernel) ⟨Nat.le_of_ble_eq_true rfl, Nat.le_of_ble_eq_true rfl⟩ hK0 hV0 he.1 rfl rfl rfl hl.1 rfl (Nat.le_of_ble_eq_true rfl) (Nat.le_refl _) (Nat.le_refl _) dX1_numberAt_26 ?_
    refine h_if_eqB (tgt := 41) hx hb dX1_numberAt_29 (by decide) (fun c_29 => ?_) (fun c_29 => ?_)
    · refine lv_iinc (v := nI (i + 1)) (lv' := [(3, .int (nI (i + 1))), (2, .int (nI (k - cntB (hasR f) i))), (0, .ref a), (1, .int (nI k))]) hx hb dX1_numberAt_41 hl (k := 0) rfl (nI_add (i) 1) (by decide) rfl (fun ls hl => ?_)
      refine lv_goto (tgt := 18) hx hb dX1_numberAt_44 (by decide) ?_
      have hcs : cntB (hasR f) (i + 1) = cntB (hasR f) i := by rw [cntB_s, c_29]; rfl
      exact ih (by omega) (by rw [hcs]; exact hI) ls (by rw [hcs]; exact lv_sub hl [0, 1, 2, 3] rfl)
    · refine lv_iload_n hx hb dX1_numberAt_32 rfl (lv_at hl 1 rfl) ?_
      refine h_if_ne (a := k - cntB (hasR f) i) (tgt := 38) hx hb dX1_numberAt_33 (by decide) (by omega) (fun c_33 => ?_) (fun c_33 => ?_)
      · refine lv_iinc (v := nI (k - cntB (hasR f) i - 1)) (lv' := [(2, .int (nI (k - cntB (hasR f) i - 1))), (3, .int (nI i)), (0, .ref a), (1, .int (nI k))]) hx hb dX1_numberAt_38 hl (k := 1) rfl (nI_dec (by omega)) (by decide) rfl (fun ls hl => ?_)
        refine lv_iinc (v := nI (i + 1)) (lv' := [(3, .int (nI (i + 1))), (2, .int (nI (k - cntB (hasR f) i - 1))), (0, .ref a), (1, .int (nI k))]) hx hb dX1_numberAt_41 hl (k := 1) rfl (nI_add (i) 1) (by decide) rfl (fun ls hl => ?_)
        refine lv_goto (tgt := 18) hx hb dX1_numberAt_44 (by decide) ?_
        have hcs : cntB (hasR f) (i + 1) = cntB (hasR f) i + 1 := by rw [cntB_s, c_29]; rfl
        exact ih (by omega) (by rw [hcs]; omega) ls (by rw [hcs, show k - (cntB (hasR f) i + 1) = k - cntB (hasR f) i - 1 by omega]; exact lv_sub hl [0, 1, 2, 3] rfl)
      · refine lv_iload_n hx hb dX1_numberAt_36 rfl (lv_at hl 0 rfl) ?_
        exact h_iretR hx hb hr hlocks (by rw [nthR_of (by omega) c_29 (by omega)]) dX1_numberAt_37

set_option maxHeartbeats 4000000 in
set_option maxRecDepth 100000 in
theorem c_X1_numberAtN (l : Launch) (G : hG) (hp : HP) (a w : Nat) (f : Row) (he : slAt hp a w f) (x : Int32) (hx0 : x < 0 ∨ nI (szR f) ≤ x) : hRd l yX1_numberAt wsX1_numberAt 0 0 G hp [.ref a, .int x] (some (.int (-1))) := by
  refine Met.ofW (cc := cX1_numberAt) (maxL := 4) (ret := (some .int)) (by decide) rfl ?_
  intro p e s m args below meth c s₁ B hml hv
  obtain ⟨rfl, hV0, hK0⟩ := hv
  have hx := B.exec
  have hb := B.bytes
  have hr := B.returns
  have hts := atoms_spec (ws := wsX1_numberAt) B.pre
  have hown : s.vm.findClass RX1 = some m.cls := findClass_of_methodNamed B.named
  have hlocks := B.notSynchronized
  have hF : CallFix p m c cX1_numberAt 4 s [.ref a, .int x].toArray wsX1_numberAt RX1 := ⟨hx, hb, hml, hown, hts⟩
  have hw0 := hts (.fieldLink RX1 24 "SlipLevels$Slips" "size" "I") (by decide +kernel)
  have hi1 : ∀ w ∈ u_ws RX1 TX1 6, w ∈ wsX1_numberAt := by
    intro w h
    unfold wsX1_numberAt
    simp only [List.mem_cons, List.mem_append, h, true_or, or_true]
  have hl := lv_entry ([.ref a, .int x]) (n := 4) (Nat.le_of_ble_eq_true rfl)
  rw [lg_entry_eq]
  generalize (lg_sl ([.ref a, .int x]) ++ List.replicate (4 - (lg_sl ([.ref a, .int x])).length) Slot.unset).toArray = ls at hl ⊢
  replace hl : lv_has ls 4 [(0, .ref a), (1, .int x)] := hl
  have hz1 := szR_le f
  have hz2 := tbR_le f
  have hz3 := lsR_le f
  refine lv_iload_n hx hb dX1_numberAt_0 rfl (lv_at hl 1 rfl) ?_
  refine lv_if_lt (tgt := 12) hx hb dX1_numberAt_1 (by decide) (fun c_1 => ?_) (fun c_1 => ?_)
  · refine lv_iconst (v := (-1)) hx hb dX1_numberAt_12 (by decide) ?_
    exact h_iretR hx hb hr hlocks (by first | rfl | assumption) dX1_numberAt_13
  · refine lv_iload_n hx hb dX1_numberAt_4 rfl (lv_at hl 1 rfl) ?_
    refine lv_aload_n hx hb dX1_numberAt_5 rfl (lv_at hl 0 rfl) ?_
    refine h_get (v := .int (nI (szR f))) hx hb hts hi1 hown hK0 hV0 he.1 rfl 1 (by decide) hw0 rfl dX1_numberAt_6 ?_
    refine lv_icmp_lt (tgt := 14) hx hb dX1_numberAt_9 (by decide) (fun c_9 => absurd c_9 (by rcases hx0 with h | h; exact absurd h c_1; exact Int32.not_lt.mpr h)) (fun c_9 => ?_)
    refine lv_iconst (v := (-1)) hx hb dX1_numberAt_12 (by decide) ?_
    exact h_iretR hx hb hr hlocks (by first | rfl | assumption) dX1_numberAt_13
