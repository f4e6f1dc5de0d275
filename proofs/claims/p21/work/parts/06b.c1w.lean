def emR : Row := fun _ => -2
theorem szR_em : szR emR = 0 := by decide +kernel
theorem tbR_em : tbR emR = 0 := by decide +kernel
theorem lsR_em : lsR emR = 64 := by decide +kernel
theorem grR_em : grR emR = -1 := by decide +kernel
theorem svR_em : svR emR = nI 0 := by decide +kernel
theorem slO_em (w : Nat) : slO w emR = [.ref w, .int (nI 0), .int (nI 0), .int (nI 64), .int (-1), .int (nI 0)] := by
  rw [slO, szR_em, tbR_em, lsR_em, grR_em, svR_em]
theorem slAt_ne {hp : HP} {a w b v : Nat} {f g : Row} (h : slAt hp a w f) (h2 : slAt hp b v g) : a ≠ v := fun e => by
  have h3 := h.1
  rw [e, h2.2] at h3
  cases h3
theorem cpy_row {f g : Row} (hf : ∀ j, 64 ≤ j → f j = -2) (hg : ∀ j, 64 ≤ j → g j = -2) : va_cpy g f 0 0 64 = g := by
  funext j
  by_cases h : j < 64
  · rw [pk_cpy_in (by omega) (by omega)]
    simp
  · rw [pk_cpy_out (by omega), hf j (by omega), hg j (by omega)]
theorem init_eq (hp : HP) (a w : Nat) (e1 x y z : hE) : hput (hput (hput (hput hp w x) a e1) w y) a z = hput (hput hp w y) a z := by
  funext q
  by_cases h1 : q = a
  · simp [hput, h1]
  · by_cases h2 : q = w <;> simp [hput, h1, h2]
theorem slO_gen {w : Nat} {f : Row} {k : Nat} {v x1 x2 : Int32} (hk : k < 64) (hv : v ≠ -2) (h1 : nI (szR (upd f k v)) = x1) (h2 : nI (tbR (upd f k v)) = x2) : slO w (upd f k v) = [.ref w, .int x1, .int x2, .int (if nI k < nI (lsR f) then nI k else nI (lsR f)), .int (if grR f < nI k then nI k else grR f), .int (svR f ||| (nI 1 <<< (nI (k % 8) &&& 31)))] := by
  have h3 : nI (lsR (upd f k v)) = if nI k < nI (lsR f) then nI k else nI (lsR f) := by
    have := lsR_le f
    rw [lsR_upd f hk hv]
    by_cases h : lsR f ≤ k
    · rw [if_pos h, if_neg (nI_nlt h (by omega))]
    · rw [if_neg h, if_pos (nI_lt (by omega) (by omega))]
  rw [slO, h1, h2, h3, grR_upd f hk hv, svR_upd f hk hv]
theorem sz_1 {f : Row} {k : Nat} {v : Int32} (hk : k < 64) (hv : v ≠ -2) (h : f k = -2) : nI (szR (upd f k v)) = nI (szR f) + nI 1 := by
  rw [szR_upd f hk hv, if_pos h]
  exact nI_succ _
theorem sz_2 {f : Row} {k : Nat} {v : Int32} (hk : k < 64) (hv : v ≠ -2) (h : ¬ f k = -2) : nI (szR (upd f k v)) = nI (szR f) := by
  rw [szR_upd f hk hv, if_neg h]
theorem tb_na {f : Row} {k : Nat} {v : Int32} (hk : k < 64) (h : ¬ f k = -1) (hv : ¬ v = -1) : nI (tbR (upd f k v)) = nI (tbR f) := by
  have := tbR_upd f (v := v) hk
  rw [if_neg h, if_neg hv] at this
  rw [show tbR (upd f k v) = tbR f by omega]
theorem tb_nb {f : Row} {k : Nat} {v : Int32} (hk : k < 64) (h : ¬ f k = -1) (hv : v = -1) : nI (tbR (upd f k v)) = nI (tbR f) + nI 1 := by
  have := tbR_upd f (v := v) hk
  rw [if_neg h, if_pos hv] at this
  rw [show tbR (upd f k v) = tbR f + 1 by omega]
  exact nI_succ _
theorem tb_ya {f : Row} {k : Nat} {v : Int32} (hk : k < 64) (h : f k = -1) (hv : ¬ v = -1) : nI (tbR (upd f k v)) = nI (tbR f) - nI 1 := by
  have := tbR_upd f (v := v) hk
  rw [if_pos h, if_neg hv] at this
  rw [← show tbR (upd f k v) + 1 = tbR f by omega]
  exact (nI_pred _).symm
theorem tb_yb {f : Row} {k : Nat} {v : Int32} (hk : k < 64) (h : f k = -1) (hv : v = -1) : nI (tbR (upd f k v)) = nI (tbR f) - nI 1 + nI 1 := by
  have := tbR_upd f (v := v) hk
  rw [if_pos h, if_pos hv] at this
  rw [show tbR (upd f k v) = tbR f by omega]
  simp
theorem ne_2_1 {x : Int32} (h : x = -2) : ¬ x = -1 := by rw [h]; decide
theorem ne_1_2 {x : Int32} (h : x = -1) : ¬ x = -2 := by rw [h]; decide

set_option maxHeartbeats 4000000 in
set_option maxRecDepth 100000 in
theorem c_fill (l : Launch) (G : hG) (A : Nat → Prop) (hp : HP) (w n : Nat) (f : Nat → Int32) (v : Int32) (he : hp w = some (eI n f)) (hn : n < 2 ^ 20) (hA0 : hIn A hp) : hWr l yJ7_fill_53178 wsJ7_fill_53178 0 0 0 0 G A hp [.ref w, .int v] (fun ro hp' => ro = none ∧ hp' = hput hp w (eI n (fun _ => v))) := by
  refine Met.ofW (cc := cJ7_fill_53178) (maxL := 4) (ret := none) (by decide) rfl ?_
  intro p e s m args below meth c s₁ B hml hv
  obtain ⟨rfl, hV0, hK0, hA⟩ := hv
  have hx := B.exec
  have hb := B.bytes
  have hr := B.returns
  have hts := atoms_spec (ws := wsJ7_fill_53178) B.pre
  have hown : s.vm.findClass RJ7 = some m.cls := findClass_of_methodNamed B.named
  have hlocks := B.notSynchronized
  have hF : CallFix p m c cJ7_fill_53178 4 s [.ref w, .int v].toArray wsJ7_fill_53178 RJ7 := ⟨hx, hb, hml, hown, hts⟩
  have hS : va_S A s.heap s.heap [] := va_S.rf
  have hl := lv_entry ([.ref w, .int v]) (n := 4) (Nat.le_of_ble_eq_true rfl)
  rw [lg_entry_eq]
  generalize (lg_sl ([.ref w, .int v]) ++ List.replicate (4 - (lg_sl ([.ref w, .int v])).length) Slot.unset).toArray = ls at hl ⊢
  replace hl : lv_has ls 4 [(0, .ref w), (1, .int v)] := hl
  refine lv_iconst (v := nI 0) hx hb dJ7_fill_53178_0 (by decide) ?_
  refine lv_istore_n (lv' := [(2, .int (nI 0)), (0, .ref w), (1, .int v)]) hx hb dJ7_fill_53178_1 rfl hl (by decide) rfl (fun ls hl => ?_)
  refine lv_aload_n hx hb dJ7_fill_53178_2 rfl (lv_at hl 1 rfl) ?_
  refine h_alen hx hb hK0 hV0 he rfl dJ7_fill_53178_3 ?_
  refine lv_istore_n (lv' := [(3, .int (nI n)), (2, .int (nI 0)), (0, .ref w), (1, .int v)]) hx hb dJ7_fill_53178_4 rfl hl (by decide) rfl (fun ls hl => ?_)
  replace hl : lv_has ls 4 [(2, .int (nI 0)), (3, .int (nI n)), (0, .ref w), (1, .int v)] := lv_sub hl [1, 0, 2, 3] rfl
  refine h_loopW (G := G) (A := A) (H0 := s.heap) (Wf := fun i H locs ls => W p l e (headSpec wsJ7_fill_53178 { frames := 0, cells := 0, slots := 0, locals := 0 }).room s m ([.ref w, .int v].toArray) below meth c H locs 0 0 (MQ below (hW G A (fun ro hp' => ro = none ∧ hp' = hput hp w (eI n (fun _ => v)))) ([.ref w, .int v].toArray) s 0 0 A) (F0 m 5 ls [])) n (fun i => [(2, .int (nI i)), (3, .int (nI n)), (0, .ref w), (1, .int v)]) (fun i hp' => hp' = hput hp w (eI n (fillF v f i))) (fun i hi hp' H locs hI hV0 hA0 hS ih ls hl => ?_) 0 (Nat.zero_le _) hp s.heap [] (by rw [fillF_0]; exact (hput_same he).symm) hV0 hA0 hS ls hl
  subst hI
  refine lv_iload_n hx hb dJ7_fill_53178_5 rfl (lv_at hl 0 rfl) ?_
  refine lv_iload_n hx hb dJ7_fill_53178_6 rfl (lv_at hl 1 rfl) ?_
  refine h_icmp_ge (a := i) (b := n) (tgt := 20) hx hb dJ7_fill_53178_7 (by decide) (by omega) (by omega) (fun c_7 => ?_) (fun c_7 => ?_)
  · obtain rfl : i = n := by omega
    exact W.vret hx hb hr (h_qW ⟨rfl, rfl⟩ (hV0.reI (fun j hj => by simp [fillF, hj])) hA0.re hS) hS.2.2 dJ7_fill_53178_20 hlocks
  · refine lv_aload_n hx hb dJ7_fill_53178_10 rfl (lv_at hl 2 rfl) ?_
    refine lv_iload_n hx hb dJ7_fill_53178_11 rfl (lv_at hl 0 rfl) ?_
    refine lv_iload_n hx hb dJ7_fill_53178_12 rfl (lv_at hl 3 rfl) ?_
    refine h_iast (i := i) (x := v) hx hb hK0 hV0 hA0 hS (hput_s _ _ _) (by omega) (by omega) dJ7_fill_53178_13 (fun H locs hV0 hA0 hS => ?_)
    rw [hput_hput] at hV0 hA0
    have he1 : (hput hp w (eI n (upd (fillF v f i) (i) v))) w = some (eI n (upd (fillF v f i) (i) v)) := hput_s _ _ _
    refine lv_iinc (v := nI (i + 1)) (lv' := [(2, .int (nI (i + 1))), (3, .int (nI n)), (0, .ref w), (1, .int v)]) hx hb dJ7_fill_53178_14 hl (k := 0) rfl (nI_add (i) 1) (by decide) rfl (fun ls hl => ?_)
    refine lv_goto (tgt := 5) hx hb dJ7_fill_53178_17 (by decide) ?_
    exact ih _ H locs (by omega) (by rw [fillF_s]) hV0 hA0 hS ls (lv_sub hl [0, 1, 2, 3] rfl)

set_option maxHeartbeats 4000000 in
set_option maxRecDepth 100000 in
theorem c_X1_clear (l : Launch) (G : hG) (A : Nat → Prop) (hp : HP) (a w : Nat) (f : Row) (x1 x2 x3 x4 x5 : Int32) (he : hp a = some (eO 1 [.ref w, .int x1, .int x2, .int x3, .int x4, .int x5])) (he2 : hp w = some (eI 64 f)) (hA0 : hIn A hp) : hWr l yX1_clear wsX1_clear 1 23 0 0 G A hp [.ref a] (fun ro hp' => ro = none ∧ hp' = hput (hput hp w (eI 64 emR)) a (eO 1 (slO w emR))) := by
  refine Met.ofW (cc := cX1_clear) (maxL := 1) (ret := none) (by decide) rfl ?_
  intro p e s m args below meth c s₁ B hml hv
  obtain ⟨rfl, hV0, hK0, hA⟩ := hv
  have hx := B.exec
  have hb := B.bytes
  have hr := B.returns
  have hts := atoms_spec (ws := wsX1_clear) B.pre
  have hown : s.vm.findClass RX1 = some m.cls := findClass_of_methodNamed B.named
  have hlocks := B.notSynchronized
  have hF : CallFix p m c cX1_clear 1 s [.ref a].toArray wsX1_clear RX1 := ⟨hx, hb, hml, hown, hts⟩
  have hw0 := hts (.fieldLink RX1 9 "SlipLevels$Slips" "words" "[I") (by decide +kernel)
  have hw1 := hts (.fieldLink RX1 24 "SlipLevels$Slips" "size" "I") (by decide +kernel)
  have hw2 := hts (.fieldLink RX1 28 "SlipLevels$Slips" "tombs" "I") (by decide +kernel)
  have hw3 := hts (.fieldLink RX1 31 "SlipLevels$Slips" "least" "I") (by decide +kernel)
  have hw4 := hts (.fieldLink RX1 34 "SlipLevels$Slips" "greatest" "I") (by decide +kernel)
  have hw5 := hts (.fieldLink RX1 37 "SlipLevels$Slips" "sieve" "I") (by decide +kernel)
  have hi1 : ∀ w ∈ u_ws RX1 TX1 6, w ∈ wsX1_clear := by
    intro w h
    unfold wsX1_clear
    simp only [List.mem_cons, List.mem_append, h, true_or, or_true]
  have hS : va_S A s.heap s.heap [] := va_S.rf
  have hl := lv_entry ([.ref a]) (n := 1) (Nat.le_of_ble_eq_true rfl)
  rw [lg_entry_eq]
  generalize (lg_sl ([.ref a]) ++ List.replicate (1 - (lg_sl ([.ref a])).length) Slot.unset).toArray = ls at hl ⊢
  replace hl : lv_has ls 1 [(0, .ref a)] := hl
  have hne : a ≠ w := fun h => by rw [h, he2] at he; cases he
  refine lv_aload_n hx hb dX1_clear_0 rfl (lv_at hl 0 rfl) ?_
  refine h_get (v := .ref w) hx hb hts hi1 hown hK0 hV0 he rfl 0 (by decide) hw0 rfl dX1_clear_1 ?_
  refine lv_bipush (v := (-2)) hx hb dX1_clear_4 (by decide) ?_
  refine h_wrS (As := [.ref w, .int (-2)]) (rest := []) hF (c_fill l G A hp w 64 f (-2) he2 (by decide) hA0) 2 gX1_clear_J7_fill_53178 rfl (by decide +kernel) ⟨Nat.le_of_ble_eq_true rfl, Nat.le_of_ble_eq_true rfl⟩ hK0 hV0 hA hS rfl hl.1 rfl (Nat.le_of_ble_eq_true rfl) ⟨Nat.le_of_ble_eq_true rfl, Nat.le_of_ble_eq_true rfl⟩ dX1_clear_6 (fun ro hp1 H locs hP1 hV0 hA0 hS => ?_)
  obtain ⟨rfl, rfl⟩ := hP1
  have he1 : (hput hp w (eI 64 (fun _ => (-2)))) w = some (eI 64 (fun _ => (-2))) := hput_s _ _ _
  have he2 : (hput hp w (eI 64 (fun _ => (-2)))) a = some (eO 1 [.ref w, .int x1, .int x2, .int x3, .int x4, .int x5]) := (hput_n _ _ hne).trans he
  refine lv_aload_n hx hb dX1_clear_9 rfl (lv_at hl 0 rfl) ?_
  refine lv_iconst (v := nI 0) hx hb dX1_clear_10 (by decide) ?_
  refine h_put (v := .int (nI 0)) hx hb hts hi1 tyX1 tyX1_ok nmX1 hown hK0 hV0 hA0 hS he2 rfl 1 (by decide) hw1 rfl (by rfl) (by rfl) (Nat.le_of_ble_eq_true rfl) dX1_clear_11 (fun H locs hV0 hA0 hS => ?_)
  have he3 : (hput (hput hp w (eI 64 (fun _ => (-2)))) a (eO 1 [.ref w, .int (nI 0), .int x2, .int x3, .int x4, .int x5])) a = some (eO 1 [.ref w, .int (nI 0), .int x2, .int x3, .int x4, .int x5]) := hput_s _ _ _
  have he4 : (hput (hput hp w (eI 64 (fun _ => (-2)))) a (eO 1 [.ref w, .int (nI 0), .int x2, .int x3, .int x4, .int x5])) w = some (eI 64 (fun _ => (-2))) := (hput_n _ _ (Ne.symm hne)).trans ((by first | exact he1 | exact (hput_n _ _ (Ne.symm hne)).symm.trans he1))
  refine lv_aload_n hx hb dX1_clear_14 rfl (lv_at hl 0 rfl) ?_
  refine lv_iconst (v := nI 0) hx hb dX1_clear_15 (by decide) ?_
  refine h_put (v := .int (nI 0)) hx hb hts hi1 tyX1 tyX1_ok nmX1 hown hK0 hV0 hA0 hS he3 rfl 2 (by decide) hw2 rfl (by rfl) (by rfl) (Nat.le_of_ble_eq_true rfl) dX1_clear_16 (fun H locs hV0 hA0 hS => ?_)
  rw [hput_hput] at hV0 hA0
  have he5 : (hput (hput hp w (eI 64 (fun _ => (-2)))) a (eO 1 [.ref w, .int (nI 0), .int (nI 0), .int x3, .int x4, .int x5])) a = some (eO 1 [.ref w, .int (nI 0), .int (nI 0), .int x3, .int x4, .int x5]) := hput_s _ _ _
  have he6 : (hput (hput hp w (eI 64 (fun _ => (-2)))) a (eO 1 [.ref w, .int (nI 0), .int (nI 0), .int x3, .int x4, .int x5])) w = some (eI 64 (fun _ => (-2))) := (hput_n _ _ (Ne.symm hne)).trans ((by first | exact he4 | exact (hput_n _ _ (Ne.symm hne)).symm.trans he4))
  refine lv_aload_n hx hb dX1_clear_19 rfl (lv_at hl 0 rfl) ?_
  refine lv_bipush (v := nI 64) hx hb dX1_clear_20 (by decide) ?_
  refine h_put (v := .int (nI 64)) hx hb hts hi1 tyX1 tyX1_ok nmX1 hown hK0 hV0 hA0 hS he5 rfl 3 (by decide) hw3 rfl (by rfl) (by rfl) (Nat.le_of_ble_eq_true rfl) dX1_clear_22 (fun H locs hV0 hA0 hS => ?_)
  rw [hput_hput] at hV0 hA0
  have he7 : (hput (hput hp w (eI 64 (fun _ => (-2)))) a (eO 1 [.ref w, .int (nI 0), .int (nI 0), .int (nI 64), .int x4, .int x5])) a = some (eO 1 [.ref w, .int (nI 0), .int (nI 0), .int (nI 64), .int x4, .int x5]) := hput_s _ _ _
  have he8 : (hput (hput hp w (eI 64 (fun _ => (-2)))) a (eO 1 [.ref w, .int (nI 0), .int (nI 0), .int (nI 64), .int x4, .int x5])) w = some (eI 64 (fun _ => (-2))) := (hput_n _ _ (Ne.symm hne)).trans ((by first | exact he6 | exact (hput_n _ _ (Ne.symm hne)).symm.trans he6))
  refine lv_aload_n hx hb dX1_clear_25 rfl (lv_at hl 0 rfl) ?_
  refine lv_iconst (v := (-1)) hx hb dX1_clear_26 (by decide) ?_
  refine h_put (v := .int (-1)) hx hb hts hi1 tyX1 tyX1_ok nmX1 hown hK0 hV0 hA0 hS he7 rfl 4 (by decide) hw4 rfl (by rfl) (by rfl) (Nat.le_of_ble_eq_true rfl) dX1_clear_27 (fun H locs hV0 hA0 hS => ?_)
  rw [hput_hput] at hV0 hA0
  have he9 : (hput (hput hp w (eI 64 (fun _ => (-2)))) a (eO 1 [.ref w, .int (nI 0), .int (nI 0), .int (nI 64), .int (-1), .int x5])) a = some (eO 1 [.ref w, .int (nI 0), .int (nI 0), .int (nI 64), .int (-1), .int x5]) := hput_s _ _ _
  have he10 : (hput (hput hp w (eI 64 (fun _ => (-2)))) a (eO 1 [.ref w, .int (nI 0), .int (nI 0), .int (nI 64), .int (-1), .int x5])) w = some (eI 64 (fun _ => (-2))) := (hput_n _ _ (Ne.symm hne)).trans ((by first | exact he8 | exact (hput_n _ _ (Ne.symm hne)).symm.trans he8))
  refine lv_aload_n hx hb dX1_clear_30 rfl (lv_at hl 0 rfl) ?_
  refine lv_iconst (v := nI 0) hx hb dX1_clear_31 (by decide) ?_
  refine h_put (v := .int (nI 0)) hx hb hts hi1 tyX1 tyX1_ok nmX1 hown hK0 hV0 hA0 hS he9 rfl 5 (by decide) hw5 rfl (by rfl) (by rfl) (Nat.le_of_ble_eq_true rfl) dX1_clear_32 (fun H locs hV0 hA0 hS => ?_)
  rw [hput_hput] at hV0 hA0
  have he11 : (hput (hput hp w (eI 64 (fun _ => (-2)))) a (eO 1 [.ref w, .int (nI 0), .int (nI 0), .int (nI 64), .int (-1), .int (nI 0)])) a = some (eO 1 [.ref w, .int (nI 0), .int (nI 0), .int (nI 64), .int (-1), .int (nI 0)]) := hput_s _ _ _
  have he12 : (hput (hput hp w (eI 64 (fun _ => (-2)))) a (eO 1 [.ref w, .int (nI 0), .int (nI 0), .int (nI 64), .int (-1), .int (nI 0)])) w = some (eI 64 (fun _ => (-2))) := (hput_n _ _ (Ne.symm hne)).trans ((by first | exact he10 | exact (hput_n _ _ (Ne.symm hne)).symm.trans he10))
  exact W.vret hx hb hr (h_qW ⟨rfl, by rw [slO_em]; rfl⟩ hV0 hA0 hS) hS.2.2 dX1_clear_35 hlocks

set_option maxHeartbeats 4000000 in
set_option maxRecDepth 100000 in
theorem c_X1_copy (l : Launch) (G : hG) (A : Nat → Prop) (hp : HP) (a w b v : Nat) (f g : Row) (he : slAt hp a w f) (hg : slAt hp b v g) (hab : a ≠ b) (hwv : w ≠ v) (hf : ∀ j, 64 ≤ j → f j = -2) (hgo : ∀ j, 64 ≤ j → g j = -2) (hA0 : hIn A hp) : hWr l yX1_copy wsX1_copy 1 21 0 0 G A hp [.ref a, .ref b] (fun ro hp' => ro = none ∧ hp' = hput (hput hp w (eI 64 g)) a (eO 1 (slO w g))) := by
  refine Met.ofW (cc := cX1_copy) (maxL := 2) (ret := none) (by decide) rfl ?_
  intro p e s m args below meth c s₁ B hml hv
  obtain ⟨rfl, hV0, hK0, hA⟩ := hv
  have hx := B.exec
  have hb := B.bytes
  have hr := B.returns
  have hts := atoms_spec (ws := wsX1_copy) B.pre
  have hown : s.vm.findClass RX1 = some m.cls := findClass_of_methodNamed B.named
  have hlocks := B.notSynchronized
  have hF : CallFix p m c cX1_copy 2 s [.ref a, .ref b].toArray wsX1_copy RX1 := ⟨hx, hb, hml, hown, hts⟩
  have hw0 := hts (.fieldLink RX1 9 "SlipLevels$Slips" "words" "[I") (by decide +kernel)
  have hw1 := hts (.methodLink RX1 40 arraycopyName) (by decide +kernel)
  have hw2 := hts (.native arraycopyName) (by decide +kernel)
  have hw3 := hts (.static arraycopyName) (by decide +kernel)
  have hw4 := hts (.initialized "java/lang/System") (by decide +kernel)
  have hw5 := hts (.fieldLink RX1 24 "SlipLevels$Slips" "size" "I") (by decide +kernel)
  have hw6 := hts (.fieldLink RX1 28 "SlipLevels$Slips" "tombs" "I") (by decide +kernel)
  have hw7 := hts (.fieldLink RX1 31 "SlipLevels$Slips" "least" "I") (by decide +kernel)
  have hw8 := hts (.fieldLink RX1 34 "SlipLevels$Slips" "greatest" "I") (by decide +kernel)
  have hw9 := hts (.fieldLink RX1 37 "SlipLevels$Slips" "sieve" "I") (by decide +kernel)
  have hi1 : ∀ w ∈ u_ws RX1 TX1 6, w ∈ wsX1_copy := by
    intro w h
    unfold wsX1_copy
    simp only [List.mem_cons, List.mem_append, h, true_or, or_true]
  have hS : va_S A s.heap s.heap [] := va_S.rf
  have hl := lv_entry ([.ref a, .ref b]) (n := 2) (Nat.le_of_ble_eq_true rfl)
  rw [lg_entry_eq]
  generalize (lg_sl ([.ref a, .ref b]) ++ List.replicate (2 - (lg_sl ([.ref a, .ref b])).length) Slot.unset).toArray = ls at hl ⊢
  replace hl : lv_has ls 2 [(0, .ref a), (1, .ref b)] := hl
  have ha1 := slAt_ne he he
  have ha2 := slAt_ne he hg
  have ha3 := slAt_ne hg he
  have ha4 := slAt_ne hg hg
  refine lv_aload_n hx hb dX1_copy_0 rfl (lv_at hl 1 rfl) ?_
  refine lv_ifnonnull (tgt := 5) hx hb dX1_copy_1 (by decide) ?_
  refine lv_aload_n hx hb dX1_copy_5 rfl (lv_at hl 1 rfl) ?_
  refine h_get (v := .ref v) hx hb hts hi1 hown hK0 hV0 hg.1 rfl 0 (by decide) hw0 rfl dX1_copy_6 ?_
  refine lv_iconst (v := nI 0) hx hb dX1_copy_9 (by decide) ?_
  refine lv_aload_n hx hb dX1_copy_10 rfl (lv_at hl 0 rfl) ?_
  refine h_get (v := .ref w) hx hb hts hi1 hown hK0 hV0 he.1 rfl 0 (by decide) hw0 rfl dX1_copy_11 ?_
  refine lv_iconst (v := nI 0) hx hb dX1_copy_14 (by decide) ?_
  refine lv_bipush (v := nI 64) hx hb dX1_copy_15 (by decide) ?_
  refine h_copyi (sp := 0) (dp := 0) (n := 64) hx hb (hml.trans hl.1.symm) hown hw1 hw2 hw3 hw4 hK0 hV0 hA0 hS hg.2 he.2 (by omega) (by omega) (by omega) (by omega) (Nat.le_of_ble_eq_true rfl) (Nat.le_of_ble_eq_true rfl) dX1_copy_17 (fun H locs hV0 hA0 hS => ?_)
  have he1 : (hput hp w (eI 64 (va_cpy g f 0 0 64))) w = some (eI 64 (va_cpy g f 0 0 64)) := hput_s _ _ _
  have he2 : (hput hp w (eI 64 (va_cpy g f 0 0 64))) a = some (eO 1 [.ref w, .int (nI (szR f)), .int (nI (tbR f)), .int (nI (lsR f)), .int (grR f), .int (svR f)]) := (hput_n _ _ ha1).trans ((by first | exact he.1 | exact (hput_n _ _ ha1).symm.trans he.1))
  have he3 : (hput hp w (eI 64 (va_cpy g f 0 0 64))) b = some (eO 1 [.ref v, .int (nI (szR g)), .int (nI (tbR g)), .int (nI (lsR g)), .int (grR g), .int (svR g)]) := (hput_n _ _ ha3).trans ((by first | exact hg.1 | exact (hput_n _ _ ha3).symm.trans hg.1))
  have he4 : (hput hp w (eI 64 (va_cpy g f 0 0 64))) v = some (eI 64 g) := (hput_n _ _ (Ne.symm hwv)).trans ((by first | exact hg.2 | exact (hput_n _ _ (Ne.symm hwv)).symm.trans hg.2))
  refine lv_aload_n hx hb dX1_copy_20 rfl (lv_at hl 0 rfl) ?_
  refine lv_aload_n hx hb dX1_copy_21 rfl (lv_at hl 1 rfl) ?_
  refine h_get (v := .int (nI (szR g))) hx hb hts hi1 hown hK0 hV0 he3 rfl 1 (by decide) hw5 rfl dX1_copy_22 ?_
  refine h_put (v := .int (nI (szR g))) hx hb hts hi1 tyX1 tyX1_ok nmX1 hown hK0 hV0 hA0 hS he2 rfl 1 (by decide) hw5 rfl (by rfl) (by rfl) (Nat.le_of_ble_eq_true rfl) dX1_copy_25 (fun H locs hV0 hA0 hS => ?_)
  have he5 : (hput (hput hp w (eI 64 (va_cpy g f 0 0 64))) a (eO 1 [.ref w, .int (nI (szR g)), .int (nI (tbR f)), .int (nI (lsR f)), .int (grR f), .int (svR f)])) a = some (eO 1 [.ref w, .int (nI (szR g)), .int (nI (tbR f)), .int (nI (lsR f)), .int (grR f), .int (svR f)]) := hput_s _ _ _
  have he6 : (hput (hput hp w (eI 64 (va_cpy g f 0 0 64))) a (eO 1 [.ref w, .int (nI (szR g)), .int (nI (tbR f)), .int (nI (lsR f)), .int (grR f), .int (svR f)])) w = some (eI 64 (va_cpy g f 0 0 64)) := (hput_n _ _ (Ne.symm ha1)).trans ((by first | exact he1 | exact (hput_n _ _ (Ne.symm ha1)).symm.trans he1))
  have he7 : (hput (hput hp w (eI 64 (va_cpy g f 0 0 64))) a (eO 1 [.ref w, .int (nI (szR g)), .int (nI (tbR f)), .int (nI (lsR f)), .int (grR f), .int (svR f)])) b = some (eO 1 [.ref v, .int (nI (szR g)), .int (nI (tbR g)), .int (nI (lsR g)), .int (grR g), .int (svR g)]) := (hput_n _ _ (Ne.symm hab)).trans ((by first | exact he3 | exact (hput_n _ _ (Ne.symm hab)).symm.trans he3))
  have he8 : (hput (hput hp w (eI 64 (va_cpy g f 0 0 64))) a (eO 1 [.ref w, .int (nI (szR g)), .int (nI (tbR f)), .int (nI (lsR f)), .int (grR f), .int (svR f)])) v = some (eI 64 g) := (hput_n _ _ (Ne.symm ha2)).trans ((by first | exact he4 | exact (hput_n _ _ (Ne.symm ha2)).symm.trans he4))
  refine lv_aload_n hx hb dX1_copy_28 rfl (lv_at hl 0 rfl) ?_
  refine lv_aload_n hx hb dX1_copy_29 rfl (lv_at hl 1 rfl) ?_
  refine h_get (v := .int (nI (tbR g))) hx hb hts hi1 hown hK0 hV0 he7 rfl 2 (by decide) hw6 rfl dX1_copy_30 ?_
  refine h_put (v := .int (nI (tbR g))) hx hb hts hi1 tyX1 tyX1_ok nmX1 hown hK0 hV0 hA0 hS he5 rfl 2 (by decide) hw6 rfl (by rfl) (by rfl) (Nat.le_of_ble_eq_true rfl) dX1_copy_33 (fun H locs hV0 hA0 hS => ?_)
  rw [hput_hput] at hV0 hA0
  have he9 : (hput (hput hp w (eI 64 (va_cpy g f 0 0 64))) a (eO 1 [.ref w, .int (nI (szR g)), .int (nI (tbR g)), .int (nI (lsR f)), .int (grR f), .int (svR f)])) a = some (eO 1 [.ref w, .int (nI (szR g)), .int (nI (tbR g)), .int (nI (lsR f)), .int (grR f), .int (svR f)]) := hput_s _ _ _
  have he10 : (hput (hput hp w (eI 64 (va_cpy g f 0 0 64))) a (eO 1 [.ref w, .int (nI (szR g)), .int (nI (tbR g)), .int (nI (lsR f)), .int (grR f), .int (svR f)])) w = some (eI 64 (va_cpy g f 0 0 64)) := (hput_n _ _ (Ne.symm ha1)).trans ((by first | exact he6 | exact (hput_n _ _ (Ne.symm ha1)).symm.trans he6))
  have he11 : (hput (hput hp w (eI 64 (va_cpy g f 0 0 64))) a (eO 1 [.ref w, .int (nI (szR g)), .int (nI (tbR g)), .int (nI (lsR f)), .int (grR f), .int (svR f)])) b = some (eO 1 [.ref v, .int (nI (szR g)), .int (nI (tbR g)), .int (nI (lsR g)), .int (grR g), .int (svR g)]) := (hput_n _ _ (Ne.symm hab)).trans ((by first | exact he7 | exact (hput_n _ _ (Ne.symm hab)).symm.trans he7))
  have he12 : (hput (hput hp w (eI 64 (va_cpy g f 0 0 64))) a (eO 1 [.ref w, .int (nI (szR g)), .int (nI (tbR g)), .int (nI (lsR f)), .int (grR f), .int (svR f)])) v = some (eI 64 g) := (hput_n _ _ (Ne.symm ha2)).trans ((by first | exact he8 | exact (hput_n _ _ (Ne.symm ha2)).symm.trans he8))
  refine lv_aload_n hx hb dX1_copy_36 rfl (lv_at hl 0 rfl) ?_
  refine lv_aload_n hx hb dX1_copy_37 rfl (lv_at hl 1 rfl) ?_
  refine h_get (v := .int (nI (lsR g))) hx hb hts hi1 hown hK0 hV0 he11 rfl 3 (by decide) hw7 rfl dX1_copy_38 ?_
  refine h_put (v := .int (nI (lsR g))) hx hb hts hi1 tyX1 tyX1_ok nmX1 hown hK0 hV0 hA0 hS he9 rfl 3 (by decide) hw7 rfl (by rfl) (by rfl) (Nat.le_of_ble_eq_true rfl) dX1_copy_41 (fun H locs hV0 hA0 hS => ?_)
  rw [hput_hput] at hV0 hA0
  have he13 : (hput (hput hp w (eI 64 (va_cpy g f 0 0 64))) a (eO 1 [.ref w, .int (nI (szR g)), .int (nI (tbR g)), .int (nI (lsR g)), .int (grR f), .int (svR f)])) a = some (eO 1 [.ref w, .int (nI (szR g)), .int (nI (tbR g)), .int (nI (lsR g)), .int (grR f), .int (svR f)]) := hput_s _ _ _
  have he14 : (hput (hput hp w (eI 64 (va_cpy g f 0 0 64))) a (eO 1 [.ref w, .int (nI (szR g)), .int (nI (tbR g)), .int (nI (lsR g)), .int (grR f), .int (svR f)])) w = some (eI 64 (va_cpy g f 0 0 64)) := (hput_n _ _ (Ne.symm ha1)).trans ((by first | exact he10 | exact (hput_n _ _ (Ne.symm ha1)).symm.trans he10))
  have he15 : (hput (hput hp w (eI 64 (va_cpy g f 0 0 64))) a (eO 1 [.ref w, .int (nI (szR g)), .int (nI (tbR g)), .int (nI (lsR g)), .int (grR f), .int (svR f)])) b = some (eO 1 [.ref v, .int (nI (szR g)), .int (nI (tbR g)), .int (nI (lsR g)), .int (grR g), .int (svR g)]) := (hput_n _ _ (Ne.symm hab)).trans ((by first | exact he11 | exact (hput_n _ _ (Ne.symm hab)).symm.trans he11))
  have he16 : (hput (hput hp w (eI 64 (va_cpy g f 0 0 64))) a (eO 1 [.ref w, .int (nI (szR g)), .int (nI (tbR g)), .int (nI (lsR g)), .int (grR f), .int (svR f)])) v = some (eI 64 g) := (hput_n _ _ (Ne.symm ha2)).trans ((by first | exact he12 | exact (hput_n _ _ (Ne.symm ha2)).symm.trans he12))
  refine lv_aload_n hx hb dX1_copy_44 rfl (lv_at hl 0 rfl) ?_
  refine lv_aload_n hx hb dX1_copy_45 rfl (lv_at hl 1 rfl) ?_
  refine h_get (v := .int (grR g)) hx hb hts hi1 hown hK0 hV0 he15 rfl 4 (by decide) hw8 rfl dX1_copy_46 ?_
  refine h_put (v := .int (grR g)) hx hb hts hi1 tyX1 tyX1_ok nmX1 hown hK0 hV0 hA0 hS he13 rfl 4 (by decide) hw8 rfl (by rfl) (by rfl) (Nat.le_of_ble_eq_true rfl) dX1_copy_49 (fun H locs hV0 hA0 hS => ?_)
  rw [hput_hput] at hV0 hA0
  have he17 : (hput (hput hp w (eI 64 (va_cpy g f 0 0 64))) a (eO 1 [.ref w, .int (nI (szR g)), .int (nI (tbR g)), .int (nI (lsR g)), .int (grR g), .int (svR f)])) a = some (eO 1 [.ref w, .int (nI (szR g)), .int (nI (tbR g)), .int (nI (lsR g)), .int (grR g), .int (svR f)]) := hput_s _ _ _
  have he18 : (hput (hput hp w (eI 64 (va_cpy g f 0 0 64))) a (eO 1 [.ref w, .int (nI (szR g)), .int (nI (tbR g)), .int (nI (lsR g)), .int (grR g), .int (svR f)])) w = some (eI 64 (va_cpy g f 0 0 64)) := (hput_n _ _ (Ne.symm ha1)).trans ((by first | exact he14 | exact (hput_n _ _ (Ne.symm ha1)).symm.trans he14))
  have he19 : (hput (hput hp w (eI 64 (va_cpy g f 0 0 64))) a (eO 1 [.ref w, .int (nI (szR g)), .int (nI (tbR g)), .int (nI (lsR g)), .int (grR g), .int (svR f)])) b = some (eO 1 [.ref v, .int (nI (szR g)), .int (nI (tbR g)), .int (nI (lsR g)), .int (grR g), .int (svR g)]) := (hput_n _ _ (Ne.symm hab)).trans ((by first | exact he15 | exact (hput_n _ _ (Ne.symm hab)).symm.trans he15))
  have he20 : (hput (hput hp w (eI 64 (va_cpy g f 0 0 64))) a (eO 1 [.ref w, .int (nI (szR g)), .int (nI (tbR g)), .int (nI (lsR g)), .int (grR g), .int (svR f)])) v = some (eI 64 g) := (hput_n _ _ (Ne.symm ha2)).trans ((by first | exact he16 | exact (hput_n _ _ (Ne.symm ha2)).symm.trans he16))
  refine lv_aload_n hx hb dX1_copy_52 rfl (lv_at hl 0 rfl) ?_
  refine lv_aload_n hx hb dX1_copy_53 rfl (lv_at hl 1 rfl) ?_
  refine h_get (v := .int (svR g)) hx hb hts hi1 hown hK0 hV0 he19 rfl 5 (by decide) hw9 rfl dX1_copy_54 ?_
  refine h_put (v := .int (svR g)) hx hb hts hi1 tyX1 tyX1_ok nmX1 hown hK0 hV0 hA0 hS he17 rfl 5 (by decide) hw9 rfl (by rfl) (by rfl) (Nat.le_of_ble_eq_true rfl) dX1_copy_57 (fun H locs hV0 hA0 hS => ?_)
  rw [hput_hput] at hV0 hA0
  have he21 : (hput (hput hp w (eI 64 (va_cpy g f 0 0 64))) a (eO 1 [.ref w, .int (nI (szR g)), .int (nI (tbR g)), .int (nI (lsR g)), .int (grR g), .int (svR g)])) a = some (eO 1 [.ref w, .int (nI (szR g)), .int (nI (tbR g)), .int (nI (lsR g)), .int (grR g), .int (svR g)]) := hput_s _ _ _
  have he22 : (hput (hput hp w (eI 64 (va_cpy g f 0 0 64))) a (eO 1 [.ref w, .int (nI (szR g)), .int (nI (tbR g)), .int (nI (lsR g)), .int (grR g), .int (svR g)])) w = some (eI 64 (va_cpy g f 0 0 64)) := (hput_n _ _ (Ne.symm ha1)).trans ((by first | exact he18 | exact (hput_n _ _ (Ne.symm ha1)).symm.trans he18))
  have he23 : (hput (hput hp w (eI 64 (va_cpy g f 0 0 64))) a (eO 1 [.ref w, .int (nI (szR g)), .int (nI (tbR g)), .int (nI (lsR g)), .int (grR g), .int (svR g)])) b = some (eO 1 [.ref v, .int (nI (szR g)), .int (nI (tbR g)), .int (nI (lsR g)), .int (grR g), .int (svR g)]) := (hput_n _ _ (Ne.symm hab)).trans ((by first | exact he19 | exact (hput_n _ _ (Ne.symm hab)).symm.trans he19))
  have he24 : (hput (hput hp w (eI 64 (va_cpy g f 0 0 64))) a (eO 1 [.ref w, .int (nI (szR g)), .int (nI (tbR g)), .int (nI (lsR g)), .int (grR g), .int (svR g)])) v = some (eI 64 g) := (hput_n _ _ (Ne.symm ha2)).trans ((by first | exact he20 | exact (hput_n _ _ (Ne.symm ha2)).symm.trans he20))
  exact W.vret hx hb hr (h_qW ⟨rfl, by rw [cpy_row hf hgo]; rfl⟩ hV0 hA0 hS) hS.2.2 dX1_copy_60 hlocks

set_option maxHeartbeats 4000000 in
set_option maxRecDepth 100000 in
theorem c_X1_put (l : Launch) (G : hG) (A : Nat → Prop) (hp : HP) (a w : Nat) (f : Row) (he : slAt hp a w f) (k : Nat) (v : Int32) (hk : k < 64) (hv : v ≠ -2) (hA0 : hIn A hp) : hWr l yX1_put wsX1_put 1 21 0 0 G A hp [.ref a, .int (nI k), .int v] (fun ro hp' => ro = none ∧ hp' = hput (hput hp w (eI 64 (upd f k v))) a (eO 1 (slO w (upd f k v)))) := by
  refine Met.ofW (cc := cX1_put) (maxL := 4) (ret := none) (by decide) rfl ?_
  intro p e s m args below meth c s₁ B hml hv
  obtain ⟨rfl, hV0, hK0, hA⟩ := hv
  have hx := B.exec
  have hb := B.bytes
  have hr := B.returns
  have hts := atoms_spec (ws := wsX1_put) B.pre
  have hown : s.vm.findClass RX1 = some m.cls := findClass_of_methodNamed B.named
  have hlocks := B.notSynchronized
  have hF : CallFix p m c cX1_put 4 s [.ref a, .int (nI k), .int v].toArray wsX1_put RX1 := ⟨hx, hb, hml, hown, hts⟩
  have hw0 := hts (.fieldLink RX1 9 "SlipLevels$Slips" "words" "[I") (by decide +kernel)
  have hw1 := hts (.fieldLink RX1 31 "SlipLevels$Slips" "least" "I") (by decide +kernel)
  have hw2 := hts (.methodLink RX1 46 Lib.Math.min.name) (by decide +kernel)
  have hw3 := hts (.static Lib.Math.min.name) (by decide +kernel)
  have hw4 := hts (.initialized "java/lang/Math") (by decide +kernel)
  have hw5 := hts (.code Lib.Math.min.name Lib.Math.min.code 2 (some .int)) (by decide +kernel)
  have hw6 := hts (.fieldLink RX1 34 "SlipLevels$Slips" "greatest" "I") (by decide +kernel)
  have hw7 := hts (.methodLink RX1 52 Lib.Math.max.name) (by decide +kernel)
  have hw8 := hts (.static Lib.Math.max.name) (by decide +kernel)
  have hw9 := hts (.code Lib.Math.max.name Lib.Math.max.code 2 (some .int)) (by decide +kernel)
  have hw10 := hts (.fieldLink RX1 37 "SlipLevels$Slips" "sieve" "I") (by decide +kernel)
  have hw11 := hts (.fieldLink RX1 28 "SlipLevels$Slips" "tombs" "I") (by decide +kernel)
  have hw12 := hts (.fieldLink RX1 24 "SlipLevels$Slips" "size" "I") (by decide +kernel)
  have hi1 : ∀ w ∈ u_ws RX1 TX1 6, w ∈ wsX1_put := by
    intro w h
    unfold wsX1_put
    simp only [List.mem_cons, List.mem_append, h, true_or, or_true]
  have hS : va_S A s.heap s.heap [] := va_S.rf
  have hl := lv_entry ([.ref a, .int (nI k), .int v]) (n := 4) (Nat.le_of_ble_eq_true rfl)
  rw [lg_entry_eq]
  generalize (lg_sl ([.ref a, .int (nI k), .int v]) ++ List.replicate (4 - (lg_sl ([.ref a, .int (nI k), .int v])).length) Slot.unset).toArray = ls at hl ⊢
  replace hl : lv_has ls 4 [(0, .ref a), (1, .int (nI k)), (2, .int v)] := hl
  have hne := slAt_ne he he
  have hz1 := szR_le f
  have hz2 := tbR_le f
  have hz3 := lsR_le f
  refine lv_iload_n hx hb dX1_put_0 rfl (lv_at hl 1 rfl) ?_
  refine h_if_lt (a := k) (tgt := 10) hx hb dX1_put_1 (by decide) (by omega) ?_
  refine lv_iload_n hx hb dX1_put_4 rfl (lv_at hl 1 rfl) ?_
  refine lv_bipush (v := nI 64) hx hb dX1_put_5 (by decide) ?_
  refine h_icmp_lt (a := k) (b := 64) (tgt := 11) hx hb dX1_put_7 (by decide) (by omega) (by omega) (fun c_7 => ?_) (fun c_7 => absurd hk c_7)
  refine lv_aload_n hx hb dX1_put_11 rfl (lv_at hl 0 rfl) ?_
  refine h_get (v := .ref w) hx hb hts hi1 hown hK0 hV0 he.1 rfl 0 (by decide) hw0 rfl dX1_put_12 ?_
  refine lv_iload_n hx hb dX1_put_15 rfl (lv_at hl 1 rfl) ?_
  refine h_iald (i := k) hx hb hK0 hV0 he.2 (by omega) (by omega) dX1_put_16 ?_
  refine lv_istore_n (lv' := [(3, .int (f k)), (0, .ref a), (1, .int (nI k)), (2, .int v)]) hx hb dX1_put_17 rfl hl (by decide) rfl (fun ls hl => ?_)
  refine lv_iload_n hx hb dX1_put_18 rfl (lv_at hl 0 rfl) ?_
  refine lv_bipush (v := (-2)) hx hb dX1_put_19 (by decide) ?_
  refine lv_icmp_ne (tgt := 34) hx hb dX1_put_21 (by decide) (fun c_21 => ?_) (fun c_21 => ?_)
  · refine lv_iload_n hx hb dX1_put_34 rfl (lv_at hl 0 rfl) ?_
    refine lv_iconst (v := (-1)) hx hb dX1_put_35 (by decide) ?_
    refine lv_icmp_ne (tgt := 49) hx hb dX1_put_36 (by decide) (fun c_36 => ?_) (fun c_36 => ?_)
    · refine lv_iload_n hx hb dX1_put_49 rfl (lv_at hl 3 rfl) ?_
      refine lv_iconst (v := (-1)) hx hb dX1_put_50 (by decide) ?_
      refine lv_icmp_ne (tgt := 64) hx hb dX1_put_51 (by decide) (fun c_51 => ?_) (fun c_51 => ?_)
      · refine lv_aload_n hx hb dX1_put_64 rfl (lv_at hl 1 rfl) ?_
        refine h_get (v := .ref w) hx hb hts hi1 hown hK0 hV0 he.1 rfl 0 (by decide) hw0 rfl dX1_put_65 ?_
        refine lv_iload_n hx hb dX1_put_68 rfl (lv_at hl 2 rfl) ?_
        refine lv_iload_n hx hb dX1_put_69 rfl (lv_at hl 3 rfl) ?_
        refine h_iast (i := k) (x := v) hx hb hK0 hV0 hA0 hS he.2 (by omega) (by omega) dX1_put_70 (fun H locs hV0 hA0 hS => ?_)
        have he1 : (hput hp w (eI 64 (upd f (k) v))) w = some (eI 64 (upd f (k) v)) := hput_s _ _ _
        have he2 : (hput hp w (eI 64 (upd f (k) v))) a = some (eO 1 [.ref w, .int (nI (szR f)), .int (nI (tbR f)), .int (nI (lsR f)), .int (grR f), .int (svR f)]) := (hput_n _ _ hne).trans ((by first | exact he.1 | exact (hput_n _ _ hne).symm.trans he.1))
        refine lv_aload_n hx hb dX1_put_71 rfl (lv_at hl 1 rfl) ?_
        refine lv_aload_n hx hb dX1_put_72 rfl (lv_at hl 1 rfl) ?_
        refine h_get (v := .int (nI (lsR f))) hx hb hts hi1 hown hK0 hV0 he2 rfl 3 (by decide) hw1 rfl dX1_put_73 ?_
        refine lv_iload_n hx hb dX1_put_76 rfl (lv_at hl 2 rfl) ?_
        refine va_mmin hx hb (hml.trans hl.1.symm) hown hw2 hw3 hw4 hw5 (Nat.le_of_ble_eq_true rfl) (Nat.le_of_ble_eq_true rfl) (Nat.le_of_ble_eq_true rfl) (Nat.le_of_ble_eq_true rfl) dX1_put_77 ?_
        refine h_put (v := .int ((if nI k < nI (lsR f) then nI k else nI (lsR f)))) hx hb hts hi1 tyX1 tyX1_ok nmX1 hown hK0 hV0 hA0 hS he2 rfl 3 (by decide) hw1 rfl (by rfl) (by rfl) (Nat.le_of_ble_eq_true rfl) dX1_put_80 (fun H locs hV0 hA0 hS => ?_)
        have he3 : (hput (hput hp w (eI 64 (upd f (k) v))) a (eO 1 [.ref w, .int (nI (szR f)), .int (nI (tbR f)), .int ((if nI k < nI (lsR f) then nI k else nI (lsR f))), .int (grR f), .int (svR f)])) a = some (eO 1 [.ref w, .int (nI (szR f)), .int (nI (tbR f)), .int ((if nI k < nI (lsR f) then nI k else nI (lsR f))), .int (grR f), .int (svR f)]) := hput_s _ _ _
        have he4 : (hput (hput hp w (eI 64 (upd f (k) v))) a (eO 1 [.ref w, .int (nI (szR f)), .int (nI (tbR f)), .int ((if nI k < nI (lsR f) then nI k else nI (lsR f))), .int (grR f), .int (svR f)])) w = some (eI 64 (upd f (k) v)) := (hput_n _ _ (Ne.symm hne)).trans ((by first | exact he1 | exact (hput_n _ _ (Ne.symm hne)).symm.trans he1))
        refine lv_aload_n hx hb dX1_put_83 rfl (lv_at hl 1 rfl) ?_
        refine lv_aload_n hx hb dX1_put_84 rfl (lv_at hl 1 rfl) ?_
        refine h_get (v := .int (grR f)) hx hb hts hi1 hown hK0 hV0 he3 rfl 4 (by decide) hw6 rfl dX1_put_85 ?_
        refine lv_iload_n hx hb dX1_put_88 rfl (lv_at hl 2 rfl) ?_
        refine va_mmax hx hb (hml.trans hl.1.symm) hown hw7 hw8 hw4 hw9 (Nat.le_of_ble_eq_true rfl) (Nat.le_of_ble_eq_true rfl) (Nat.le_of_ble_eq_true rfl) (Nat.le_of_ble_eq_true rfl) dX1_put_89 ?_
        refine h_put (v := .int ((if (grR f) < nI k then nI k else (grR f)))) hx hb hts hi1 tyX1 tyX1_ok nmX1 hown hK0 hV0 hA0 hS he3 rfl 4 (by decide) hw6 rfl (by rfl) (by rfl) (Nat.le_of_ble_eq_true rfl) dX1_put_92 (fun H locs hV0 hA0 hS => ?_)
        rw [hput_hput] at hV0 hA0
        have he5 : (hput (hput hp w (eI 64 (upd f (k) v))) a (eO 1 [.ref w, .int (nI (szR f)), .int (nI (tbR f)), .int ((if nI k < nI (lsR f) then nI k else nI (lsR f))), .int ((if (grR f) < nI k then nI k else (grR f))), .int (svR f)])) a = some (eO 1 [.ref w, .int (nI (szR f)), .int (nI (tbR f)), .int ((if nI k < nI (lsR f) then nI k else nI (lsR f))), .int ((if (grR f) < nI k then nI k else (grR f))), .int (svR f)]) := hput_s _ _ _
        have he6 : (hput (hput hp w (eI 64 (upd f (k) v))) a (eO 1 [.ref w, .int (nI (szR f)), .int (nI (tbR f)), .int ((if nI k < nI (lsR f) then nI k else nI (lsR f))), .int ((if (grR f) < nI k then nI k else (grR f))), .int (svR f)])) w = some (eI 64 (upd f (k) v)) := (hput_n _ _ (Ne.symm hne)).trans ((by first | exact he4 | exact (hput_n _ _ (Ne.symm hne)).symm.trans he4))
        refine lv_aload_n hx hb dX1_put_95 rfl (lv_at hl 1 rfl) ?_
        refine lv_dup hx hb dX1_put_96 rfl ?_
        refine h_get (v := .int (svR f)) hx hb hts hi1 hown hK0 hV0 he5 rfl 5 (by decide) hw10 rfl dX1_put_97 ?_
        refine lv_iconst (v := nI 1) hx hb dX1_put_100 (by decide) ?_
        refine lv_iload_n hx hb dX1_put_101 rfl (lv_at hl 2 rfl) ?_
        refine lv_bipush (v := nI 8) hx hb dX1_put_102 (by decide) ?_
        refine h_iremN hx hb (by omega) (by decide) (by decide) dX1_put_104 ?_
        refine lv_ishl hx hb dX1_put_105 ?_
        refine lv_ior hx hb dX1_put_106 ?_
        refine h_put (v := .int ((svR f) ||| (nI 1 <<< (nI (k % 8) &&& 31)))) hx hb hts hi1 tyX1 tyX1_ok nmX1 hown hK0 hV0 hA0 hS he5 rfl 5 (by decide) hw10 rfl (by rfl) (by rfl) (Nat.le_of_ble_eq_true rfl) dX1_put_107 (fun H locs hV0 hA0 hS => ?_)
        rw [hput_hput] at hV0 hA0
        have he7 : (hput (hput hp w (eI 64 (upd f (k) v))) a (eO 1 [.ref w, .int (nI (szR f)), .int (nI (tbR f)), .int ((if nI k < nI (lsR f) then nI k else nI (lsR f))), .int ((if (grR f) < nI k then nI k else (grR f))), .int ((svR f) ||| (nI 1 <<< (nI (k % 8) &&& 31)))])) a = some (eO 1 [.ref w, .int (nI (szR f)), .int (nI (tbR f)), .int ((if nI k < nI (lsR f) then nI k else nI (lsR f))), .int ((if (grR f) < nI k then nI k else (grR f))), .int ((svR f) ||| (nI 1 <<< (nI (k % 8) &&& 31)))]) := hput_s _ _ _
        have he8 : (hput (hput hp w (eI 64 (upd f (k) v))) a (eO 1 [.ref w, .int (nI (szR f)), .int (nI (tbR f)), .int ((if nI k < nI (lsR f) then nI k else nI (lsR f))), .int ((if (grR f) < nI k then nI k else (grR f))), .int ((svR f) ||| (nI 1 <<< (nI (k % 8) &&& 31)))])) w = some (eI 64 (upd f (k) v)) := (hput_n _ _ (Ne.symm hne)).trans ((by first | exact he6 | exact (hput_n _ _ (Ne.symm hne)).symm.trans he6))
        exact W.vret hx hb hr (h_qW ⟨rfl, by (try rw [hput_mid]); rw [slO_gen (w := w) hk hv (sz_2 hk hv c_21) (tb_na hk c_36 c_51)]; rfl⟩ hV0 hA0 hS) hS.2.2 dX1_put_110 hlocks
      · refine lv_aload_n hx hb dX1_put_54 rfl (lv_at hl 1 rfl) ?_
        refine lv_dup hx hb dX1_put_55 rfl ?_
        refine h_get (v := .int (nI (tbR f))) hx hb hts hi1 hown hK0 hV0 he.1 rfl 2 (by decide) hw11 rfl dX1_put_56 ?_
        refine lv_iconst (v := nI 1) hx hb dX1_put_59 (by decide) ?_
        refine lv_iadd hx hb dX1_put_60 ?_
        refine h_put (v := .int (nI (tbR f) + nI 1)) hx hb hts hi1 tyX1 tyX1_ok nmX1 hown hK0 hV0 hA0 hS he.1 rfl 2 (by decide) hw11 rfl (by rfl) (by rfl) (Nat.le_of_ble_eq_true rfl) dX1_put_61 (fun H locs hV0 hA0 hS => ?_)
        have he9 : (hput hp a (eO 1 [.ref w, .int (nI (szR f)), .int (nI (tbR f) + nI 1), .int (nI (lsR f)), .int (grR f), .int (svR f)])) a = some (eO 1 [.ref w, .int (nI (szR f)), .int (nI (tbR f) + nI 1), .int (nI (lsR f)), .int (grR f), .int (svR f)]) := hput_s _ _ _
        have he10 : (hput hp a (eO 1 [.ref w, .int (nI (szR f)), .int (nI (tbR f) + nI 1), .int (nI (lsR f)), .int (grR f), .int (svR f)])) w = some (eI 64 f) := (hput_n _ _ (Ne.symm hne)).trans ((by first | exact he.2 | exact (hput_n _ _ (Ne.symm hne)).symm.trans he.2))
        refine lv_aload_n hx hb dX1_put_64 rfl (lv_at hl 1 rfl) ?_
        refine h_get (v := .ref w) hx hb hts hi1 hown hK0 hV0 he9 rfl 0 (by decide) hw0 rfl dX1_put_65 ?_
        refine lv_iload_n hx hb dX1_put_68 rfl (lv_at hl 2 rfl) ?_
        refine lv_iload_n hx hb dX1_put_69 rfl (lv_at hl 3 rfl) ?_
        refine h_iast (i := k) (x := v) hx hb hK0 hV0 hA0 hS he10 (by omega) (by omega) dX1_put_70 (fun H locs hV0 hA0 hS => ?_)
        have he11 : (hput (hput hp a (eO 1 [.ref w, .int (nI (szR f)), .int (nI (tbR f) + nI 1), .int (nI (lsR f)), .int (grR f), .int (svR f)])) w (eI 64 (upd f (k) v))) w = some (eI 64 (upd f (k) v)) := hput_s _ _ _
        have he12 : (hput (hput hp a (eO 1 [.ref w, .int (nI (szR f)), .int (nI (tbR f) + nI 1), .int (nI (lsR f)), .int (grR f), .int (svR f)])) w (eI 64 (upd f (k) v))) a = some (eO 1 [.ref w, .int (nI (szR f)), .int (nI (tbR f) + nI 1), .int (nI (lsR f)), .int (grR f), .int (svR f)]) := (hput_n _ _ hne).trans ((by first | exact he9 | exact (hput_n _ _ hne).symm.trans he9))
        refine lv_aload_n hx hb dX1_put_71 rfl (lv_at hl 1 rfl) ?_
        refine lv_aload_n hx hb dX1_put_72 rfl (lv_at hl 1 rfl) ?_
        refine h_get (v := .int (nI (lsR f))) hx hb hts hi1 hown hK0 hV0 he12 rfl 3 (by decide) hw1 rfl dX1_put_73 ?_
        refine lv_iload_n hx hb dX1_put_76 rfl (lv_at hl 2 rfl) ?_
        refine va_mmin hx hb (hml.trans hl.1.symm) hown hw2 hw3 hw4 hw5 (Nat.le_of_ble_eq_true rfl) (Nat.le_of_ble_eq_true rfl) (Nat.le_of_ble_eq_true rfl) (Nat.le_of_ble_eq_true rfl) dX1_put_77 ?_
        refine h_put (v := .int ((if nI k < nI (lsR f) then nI k else nI (lsR f)))) hx hb hts hi1 tyX1 tyX1_ok nmX1 hown hK0 hV0 hA0 hS he12 rfl 3 (by decide) hw1 rfl (by rfl) (by rfl) (Nat.le_of_ble_eq_true rfl) dX1_put_80 (fun H locs hV0 hA0 hS => ?_)
        have he13 : (hput (hput (hput hp a (eO 1 [.ref w, .int (nI (szR f)), .int (nI (tbR f) + nI 1), .int (nI (lsR f)), .int (grR f), .int (svR f)])) w (eI 64 (upd f (k) v))) a (eO 1 [.ref w, .int (nI (szR f)), .int (nI (tbR f) + nI 1), .int ((if nI k < nI (lsR f) then nI k else nI (lsR f))), .int (grR f), .int (svR f)])) a = some (eO 1 [.ref w, .int (nI (szR f)), .int (nI (tbR f) + nI 1), .int ((if nI k < nI (lsR f) then nI k else nI (lsR f))), .int (grR f), .int (svR f)]) := hput_s _ _ _
        have he14 : (hput (hput (hput hp a (eO 1 [.ref w, .int (nI (szR f)), .int (nI (tbR f) + nI 1), .int (nI (lsR f)), .int (grR f), .int (svR f)])) w (eI 64 (upd f (k) v))) a (eO 1 [.ref w, .int (nI (szR f)), .int (nI (tbR f) + nI 1), .int ((if nI k < nI (lsR f) then nI k else nI (lsR f))), .int (grR f), .int (svR f)])) w = some (eI 64 (upd f (k) v)) := (hput_n _ _ (Ne.symm hne)).trans ((by first | exact he11 | exact (hput_n _ _ (Ne.symm hne)).symm.trans he11))
        refine lv_aload_n hx hb dX1_put_83 rfl (lv_at hl 1 rfl) ?_
        refine lv_aload_n hx hb dX1_put_84 rfl (lv_at hl 1 rfl) ?_
        refine h_get (v := .int (grR f)) hx hb hts hi1 hown hK0 hV0 he13 rfl 4 (by decide) hw6 rfl dX1_put_85 ?_
        refine lv_iload_n hx hb dX1_put_88 rfl (lv_at hl 2 rfl) ?_
        refine va_mmax hx hb (hml.trans hl.1.symm) hown hw7 hw8 hw4 hw9 (Nat.le_of_ble_eq_true rfl) (Nat.le_of_ble_eq_true rfl) (Nat.le_of_ble_eq_true rfl) (Nat.le_of_ble_eq_true rfl) dX1_put_89 ?_
        refine h_put (v := .int ((if (grR f) < nI k then nI k else (grR f)))) hx hb hts hi1 tyX1 tyX1_ok nmX1 hown hK0 hV0 hA0 hS he13 rfl 4 (by decide) hw6 rfl (by rfl) (by rfl) (Nat.le_of_ble_eq_true rfl) dX1_put_92 (fun H locs hV0 hA0 hS => ?_)
        rw [hput_hput] at hV0 hA0
        have he15 : (hput (hput (hput hp a (eO 1 [.ref w, .int (nI (szR f)), .int (nI (tbR f) + nI 1), .int (nI (lsR f)), .int (grR f), .int (svR f)])) w (eI 64 (upd f (k) v))) a (eO 1 [.ref w, .int (nI (szR f)), .int (nI (tbR f) + nI 1), .int ((if nI k < nI (lsR f) then nI k else nI (lsR f))), .int ((if (grR f) < nI k then nI k else (grR f))), .int (svR f)])) a = some (eO 1 [.ref w, .int (nI (szR f)), .int (nI (tbR f) + nI 1), .int ((if nI k < nI (lsR f) then nI k else nI (lsR f))), .int ((if (grR f) < nI k then nI k else (grR f))), .int (svR f)]) := hput_s _ _ _
        have he16 : (hput (hput (hput hp a (eO 1 [.ref w, .int (nI (szR f)), .int (nI (tbR f) + nI 1), .int (nI (lsR f)), .int (grR f), .int (svR f)])) w (eI 64 (upd f (k) v))) a (eO 1 [.ref w, .int (nI (szR f)), .int (nI (tbR f) + nI 1), .int ((if nI k < nI (lsR f) then nI k else nI (lsR f))), .int ((if (grR f) < nI k then nI k else (grR f))), .int (svR f)])) w = some (eI 64 (upd f (k) v)) := (hput_n _ _ (Ne.symm hne)).trans ((by first | exact he14 | exact (hput_n _ _ (Ne.symm hne)).symm.trans he14))
        refine lv_aload_n hx hb dX1_put_95 rfl (lv_at hl 1 rfl) ?_
        refine lv_dup hx hb dX1_put_96 rfl ?_
        refine h_get (v := .int (svR f)) hx hb hts hi1 hown hK0 hV0 he15 rfl 5 (by decide) hw10 rfl dX1_put_97 ?_
        refine lv_iconst (v := nI 1) hx hb dX1_put_100 (by decide) ?_
        refine lv_iload_n hx hb dX1_put_101 rfl (lv_at hl 2 rfl) ?_
        refine lv_bipush (v := nI 8) hx hb dX1_put_102 (by decide) ?_
        refine h_iremN hx hb (by omega) (by decide) (by decide) dX1_put_104 ?_
        refine lv_ishl hx hb dX1_put_105 ?_
        refine lv_ior hx hb dX1_put_106 ?_
        refine h_put (v := .int ((svR f) ||| (nI 1 <<< (nI (k % 8) &&& 31)))) hx hb hts hi1 tyX1 tyX1_ok nmX1 hown hK0 hV0 hA0 hS he15 rfl 5 (by decide) hw10 rfl (by rfl) (by rfl) (Nat.le_of_ble_eq_true rfl) dX1_put_107 (fun H locs hV0 hA0 hS => ?_)
        rw [hput_hput] at hV0 hA0
        have he17 : (hput (hput (hput hp a (eO 1 [.ref w, .int (nI (szR f)), .int (nI (tbR f) + nI 1), .int (nI (lsR f)), .int (grR f), .int (svR f)])) w (eI 64 (upd f (k) v))) a (eO 1 [.ref w, .int (nI (szR f)), .int (nI (tbR f) + nI 1), .int ((if nI k < nI (lsR f) then nI k else nI (lsR f))), .int ((if (grR f) < nI k then nI k else (grR f))), .int ((svR f) ||| (nI 1 <<< (nI (k % 8) &&& 31)))])) a = some (eO 1 [.ref w, .int (nI (szR f)), .int (nI (tbR f) + nI 1), .int ((if nI k < nI (lsR f) then nI k else nI (lsR f))), .int ((if (grR f) < nI k then nI k else (grR f))), .int ((svR f) ||| (nI 1 <<< (nI (k % 8) &&& 31)))]) := hput_s _ _ _
        have he18 : (hput (hput (hput hp a (eO 1 [.ref w, .int (nI (szR f)), .int (nI (tbR f) + nI 1), .int (nI (lsR f)), .int (grR f), .int (svR f)])) w (eI 64 (upd f (k) v))) a (eO 1 [.ref w, .int (nI (szR f)), .int (nI (tbR f) + nI 1), .int ((if nI k < nI (lsR f) then nI k else nI (lsR f))), .int ((if (grR f) < nI k then nI k else (grR f))), .int ((svR f) ||| (nI 1 <<< (nI (k % 8) &&& 31)))])) w = some (eI 64 (upd f (k) v)) := (hput_n _ _ (Ne.symm hne)).trans ((by first | exact he16 | exact (hput_n _ _ (Ne.symm hne)).symm.trans he16))
        exact W.vret hx hb hr (h_qW ⟨rfl, by (try rw [hput_mid]); rw [slO_gen (w := w) hk hv (sz_2 hk hv c_21) (tb_nb hk c_36 c_51)]; rfl⟩ hV0 hA0 hS) hS.2.2 dX1_put_110 hlocks
    · refine lv_aload_n hx hb dX1_put_39 rfl (lv_at hl 1 rfl) ?_
      refine lv_dup hx hb dX1_put_40 rfl ?_
      refine h_get (v := .int (nI (tbR f))) hx hb hts hi1 hown hK0 hV0 he.1 rfl 2 (by decide) hw11 rfl dX1_put_41 ?_
      refine lv_iconst (v := nI 1) hx hb dX1_put_44 (by decide) ?_
      refine lv_isub hx hb dX1_put_45 ?_
      refine h_put (v := .int (nI (tbR f) - nI 1)) hx hb hts hi1 tyX1 tyX1_ok nmX1 hown hK0 hV0 hA0 hS he.1 rfl 2 (by decide) hw11 rfl (by rfl) (by rfl) (Nat.le_of_ble_eq_true rfl) dX1_put_46 (fun H locs hV0 hA0 hS => ?_)
      have he19 : (hput hp a (eO 1 [.ref w, .int (nI (szR f)), .int (nI (tbR f) - nI 1), .int (nI (lsR f)), .int (grR f), .int (svR f)])) a = some (eO 1 [.ref w, .int (nI (szR f)), .int (nI (tbR f) - nI 1), .int (nI (lsR f)), .int (grR f), .int (svR f)]) := hput_s _ _ _
      have he20 : (hput hp a (eO 1 [.ref w, .int (nI (szR f)), .int (nI (tbR f) - nI 1), .int (nI (lsR f)), .int (grR f), .int (svR f)])) w = some (eI 64 f) := (hput_n _ _ (Ne.symm hne)).trans ((by first | exact he.2 | exact (hput_n _ _ (Ne.symm hne)).symm.trans he.2))
      refine lv_iload_n hx hb dX1_put_49 rfl (lv_at hl 3 rfl) ?_
      refine lv_iconst (v := (-1)) hx hb dX1_put_50 (by decide) ?_
      refine lv_icmp_ne (tgt := 64) hx hb dX1_put_51 (by decide) (fun c_51 => ?_) (fun c_51 => ?_)
      · refine lv_aload_n hx hb dX1_put_64 rfl (lv_at hl 1 rfl) ?_
        refine h_get (v := .ref w) hx hb hts hi1 hown hK0 hV0 he19 rfl 0 (by decide) hw0 rfl dX1_put_65 ?_
        refine lv_iload_n hx hb dX1_put_68 rfl (lv_at hl 2 rfl) ?_
        refine lv_iload_n hx hb dX1_put_69 rfl (lv_at hl 3 rfl) ?_
        refine h_iast (i := k) (x := v) hx hb hK0 hV0 hA0 hS he20 (by omega) (by omega) dX1_put_70 (fun H locs hV0 hA0 hS => ?_)
        have he21 : (hput (hput hp a (eO 1 [.ref w, .int (nI (szR f)), .int (nI (tbR f) - nI 1), .int (nI (lsR f)), .int (grR f), .int (svR f)])) w (eI 64 (upd f (k) v))) w = some (eI 64 (upd f (k) v)) := hput_s _ _ _
        have he22 : (hput (hput hp a (eO 1 [.ref w, .int (nI (szR f)), .int (nI (tbR f) - nI 1), .int (nI (lsR f)), .int (grR f), .int (svR f)])) w (eI 64 (upd f (k) v))) a = some (eO 1 [.ref w, .int (nI (szR f)), .int (nI (tbR f) - nI 1), .int (nI (lsR f)), .int (grR f), .int (svR f)]) := (hput_n _ _ hne).trans ((by first | exact he19 | exact (hput_n _ _ hne).symm.trans he19))
        refine lv_aload_n hx hb dX1_put_71 rfl (lv_at hl 1 rfl) ?_
        refine lv_aload_n hx hb dX1_put_72 rfl (lv_at hl 1 rfl) ?_
        refine h_get (v := .int (nI (lsR f))) hx hb hts hi1 hown hK0 hV0 he22 rfl 3 (by decide) hw1 rfl dX1_put_73 ?_
        refine lv_iload_n hx hb dX1_put_76 rfl (lv_at hl 2 rfl) ?_
        refine va_mmin hx hb (hml.trans hl.1.symm) hown hw2 hw3 hw4 hw5 (Nat.le_of_ble_eq_true rfl) (Nat.le_of_ble_eq_true rfl) (Nat.le_of_ble_eq_true rfl) (Nat.le_of_ble_eq_true rfl) dX1_put_77 ?_
        refine h_put (v := .int ((if nI k < nI (lsR f) then nI k else nI (lsR f)))) hx hb hts hi1 tyX1 tyX1_ok nmX1 hown hK0 hV0 hA0 hS he22 rfl 3 (by decide) hw1 rfl (by rfl) (by rfl) (Nat.le_of_ble_eq_true rfl) dX1_put_80 (fun H locs hV0 hA0 hS => ?_)
        have he23 : (hput (hput (hput hp a (eO 1 [.ref w, .int (nI (szR f)), .int (nI (tbR f) - nI 1), .int (nI (lsR f)), .int (grR f), .int (svR f)])) w (eI 64 (upd f (k) v))) a (eO 1 [.ref w, .int (nI (szR f)), .int (nI (tbR f) - nI 1), .int ((if nI k < nI (lsR f) then nI k else nI (lsR f))), .int (grR f), .int (svR f)])) a = some (eO 1 [.ref w, .int (nI (szR f)), .int (nI (tbR f) - nI 1), .int ((if nI k < nI (lsR f) then nI k else nI (lsR f))), .int (grR f), .int (svR f)]) := hput_s _ _ _
        have he24 : (hput (hput (hput hp a (eO 1 [.ref w, .int (nI (szR f)), .int (nI (tbR f) - nI 1), .int (nI (lsR f)), .int (grR f), .int (svR f)])) w (eI 64 (upd f (k) v))) a (eO 1 [.ref w, .int (nI (szR f)), .int (nI (tbR f) - nI 1), .int ((if nI k < nI (lsR f) then nI k else nI (lsR f))), .int (grR f), .int (svR f)])) w = some (eI 64 (upd f (k) v)) := (hput_n _ _ (Ne.symm hne)).trans ((by first | exact he21 | exact (hput_n _ _ (Ne.symm hne)).symm.trans he21))
        refine lv_aload_n hx hb dX1_put_83 rfl (lv_at hl 1 rfl) ?_
        refine lv_aload_n hx hb dX1_put_84 rfl (lv_at hl 1 rfl) ?_
        refine h_get (v := .int (grR f)) hx hb hts hi1 hown hK0 hV0 he23 rfl 4 (by decide) hw6 rfl dX1_put_85 ?_
        refine lv_iload_n hx hb dX1_put_88 rfl (lv_at hl 2 rfl) ?_
        refine va_mmax hx hb (hml.trans hl.1.symm) hown hw7 hw8 hw4 hw9 (Nat.le_of_ble_eq_true rfl) (Nat.le_of_ble_eq_true rfl) (Nat.le_of_ble_eq_true rfl) (Nat.le_of_ble_eq_true rfl) dX1_put_89 ?_
        refine h_put (v := .int ((if (grR f) < nI k then nI k else (grR f)))) hx hb hts hi1 tyX1 tyX1_ok nmX1 hown hK0 hV0 hA0 hS he23 rfl 4 (by decide) hw6 rfl (by rfl) (by rfl) (Nat.le_of_ble_eq_true rfl) dX1_put_92 (fun H locs hV0 hA0 hS => ?_)
        rw [hput_hput] at hV0 hA0
        have he25 : (hput (hput (hput hp a (eO 1 [.ref w, .int (nI (szR f)), .int (nI (tbR f) - nI 1), .int (nI (lsR f)), .int (grR f), .int (svR f)])) w (eI 64 (upd f (k) v))) a (eO 1 [.ref w, .int (nI (szR f)), .int (nI (tbR f) - nI 1), .int ((if nI k < nI (lsR f) then nI k else nI (lsR f))), .int ((if (grR f) < nI k then nI k else (grR f))), .int (svR f)])) a = some (eO 1 [.ref w, .int (nI (szR f)), .int (nI (tbR f) - nI 1), .int ((if nI k < nI (lsR f) then nI k else nI (lsR f))), .int ((if (grR f) < nI k then nI k else (grR f))), .int (svR f)]) := hput_s _ _ _
        have he26 : (hput (hput (hput hp a (eO 1 [.ref w, .int (nI (szR f)), .int (nI (tbR f) - nI 1), .int (nI (lsR f)), .int (grR f), .int (svR f)])) w (eI 64 (upd f (k) v))) a (eO 1 [.ref w, .int (nI (szR f)), .int (nI (tbR f) - nI 1), .int ((if nI k < nI (lsR f) then nI k else nI (lsR f))), .int ((if (grR f) < nI k then nI k else (grR f))), .int (svR f)])) w = some (eI 64 (upd f (k) v)) := (hput_n _ _ (Ne.symm hne)).trans ((by first | exact he24 | exact (hput_n _ _ (Ne.symm hne)).symm.trans he24))
        refine lv_aload_n hx hb dX1_put_95 rfl (lv_at hl 1 rfl) ?_
        refine lv_dup hx hb dX1_put_96 rfl ?_
        refine h_get (v := .int (svR f)) hx hb hts hi1 hown hK0 hV0 he25 rfl 5 (by decide) hw10 rfl dX1_put_97 ?_
        refine lv_iconst (v := nI 1) hx hb dX1_put_100 (by decide) ?_
        refine lv_iload_n hx hb dX1_put_101 rfl (lv_at hl 2 rfl) ?_
        refine lv_bipush (v := nI 8) hx hb dX1_put_102 (by decide) ?_
        refine h_iremN hx hb (by omega) (by decide) (by decide) dX1_put_104 ?_
        refine lv_ishl hx hb dX1_put_105 ?_
        refine lv_ior hx hb dX1_put_106 ?_
        refine h_put (v := .int ((svR f) ||| (nI 1 <<< (nI (k % 8) &&& 31)))) hx hb hts hi1 tyX1 tyX1_ok nmX1 hown hK0 hV0 hA0 hS he25 rfl 5 (by decide) hw10 rfl (by rfl) (by rfl) (Nat.le_of_ble_eq_true rfl) dX1_put_107 (fun H locs hV0 hA0 hS => ?_)
        rw [hput_hput] at hV0 hA0
        have he27 : (hput (hput (hput hp a (eO 1 [.ref w, .int (nI (szR f)), .int (nI (tbR f) - nI 1), .int (nI (lsR f)), .int (grR f), .int (svR f)])) w (eI 64 (upd f (k) v))) a (eO 1 [.ref w, .int (nI (szR f)), .int (nI (tbR f) - nI 1), .int ((if nI k < nI (lsR f) then nI k else nI (lsR f))), .int ((if (grR f) < nI k then nI k else (grR f))), .int ((svR f) ||| (nI 1 <<< (nI (k % 8) &&& 31)))])) a = some (eO 1 [.ref w, .int (nI (szR f)), .int (nI (tbR f) - nI 1), .int ((if nI k < nI (lsR f) then nI k else nI (lsR f))), .int ((if (grR f) < nI k then nI k else (grR f))), .int ((svR f) ||| (nI 1 <<< (nI (k % 8) &&& 31)))]) := hput_s _ _ _
        have he28 : (hput (hput (hput hp a (eO 1 [.ref w, .int (nI (szR f)), .int (nI (tbR f) - nI 1), .int (nI (lsR f)), .int (grR f), .int (svR f)])) w (eI 64 (upd f (k) v))) a (eO 1 [.ref w, .int (nI (szR f)), .int (nI (tbR f) - nI 1), .int ((if nI k < nI (lsR f) then nI k else nI (lsR f))), .int ((if (grR f) < nI k then nI k else (grR f))), .int ((svR f) ||| (nI 1 <<< (nI (k % 8) &&& 31)))])) w = some (eI 64 (upd f (k) v)) := (hput_n _ _ (Ne.symm hne)).trans ((by first | exact he26 | exact (hput_n _ _ (Ne.symm hne)).symm.trans he26))
        exact W.vret hx hb hr (h_qW ⟨rfl, by (try rw [hput_mid]); rw [slO_gen (w := w) hk hv (sz_2 hk hv c_21) (tb_ya hk c_36 c_51)]; rfl⟩ hV0 hA0 hS) hS.2.2 dX1_put_110 hlocks
      · refine lv_aload_n hx hb dX1_put_54 rfl (lv_at hl 1 rfl) ?_
        refine lv_dup hx hb dX1_put_55 rfl ?_
        refine h_get (v := .int (nI (tbR f) - nI 1)) hx hb hts hi1 hown hK0 hV0 he19 rfl 2 (by decide) hw11 rfl dX1_put_56 ?_
        refine lv_iconst (v := nI 1) hx hb dX1_put_59 (by decide) ?_
        refine lv_iadd hx hb dX1_put_60 ?_
        refine h_put (v := .int ((nI (tbR f) - nI 1) + nI 1)) hx hb hts hi1 tyX1 tyX1_ok nmX1 hown hK0 hV0 hA0 hS he19 rfl 2 (by decide) hw11 rfl (by rfl) (by rfl) (Nat.le_of_ble_eq_true rfl) dX1_put_61 (fun H locs hV0 hA0 hS => ?_)
        rw [hput_hput] at hV0 hA0
        have he29 : (hput hp a (eO 1 [.ref w, .int (nI (szR f)), .int ((nI (tbR f) - nI 1) + nI 1), .int (nI (lsR f)), .int (grR f), .int (svR f)])) a = some (eO 1 [.ref w, .int (nI (szR f)), .int ((nI (tbR f) - nI 1) + nI 1), .int (nI (lsR f)), .int (grR f), .int (svR f)]) := hput_s _ _ _
        have he30 : (hput hp a (eO 1 [.ref w, .int (nI (szR f)), .int ((nI (tbR f) - nI 1) + nI 1), .int (nI (lsR f)), .int (grR f), .int (svR f)])) w = some (eI 64 f) := (hput_n _ _ (Ne.symm hne)).trans ((by first | exact he20 | exact (hput_n _ _ (Ne.symm hne)).symm.trans he20))
        refine lv_aload_n hx hb dX1_put_64 rfl (lv_at hl 1 rfl) ?_
        refine h_get (v := .ref w) hx hb hts hi1 hown hK0 hV0 he29 rfl 0 (by decide) hw0 rfl dX1_put_65 ?_
        refine lv_iload_n hx hb dX1_put_68 rfl (lv_at hl 2 rfl) ?_
        refine lv_iload_n hx hb dX1_put_69 rfl (lv_at hl 3 rfl) ?_
        refine h_iast (i := k) (x := v) hx hb hK0 hV0 hA0 hS he30 (by omega) (by omega) dX1_put_70 (fun H locs hV0 hA0 hS => ?_)
        have he31 : (hput (hput hp a (eO 1 [.ref w, .int (nI (szR f)), .int ((nI (tbR f) - nI 1) + nI 1), .int (nI (lsR f)), .int (grR f), .int (svR f)])) w (eI 64 (upd f (k) v))) w = some (eI 64 (upd f (k) v)) := hput_s _ _ _
        have he32 : (hput (hput hp a (eO 1 [.ref w, .int (nI (szR f)), .int ((nI (tbR f) - nI 1) + nI 1), .int (nI (lsR f)), .int (grR f), .int (svR f)])) w (eI 64 (upd f (k) v))) a = some (eO 1 [.ref w, .int (nI (szR f)), .int ((nI (tbR f) - nI 1) + nI 1), .int (nI (lsR f)), .int (grR f), .int (svR f)]) := (hput_n _ _ hne).trans ((by first | exact he29 | exact (hput_n _ _ hne).symm.trans he29))
        refine lv_aload_n hx hb dX1_put_71 rfl (lv_at hl 1 rfl) ?_
        refine lv_aload_n hx hb dX1_put_72 rfl (lv_at hl 1 rfl) ?_
        refine h_get (v := .int (nI (lsR f))) hx hb hts hi1 hown hK0 hV0 he32 rfl 3 (by decide) hw1 rfl dX1_put_73 ?_
        refine lv_iload_n hx hb dX1_put_76 rfl (lv_at hl 2 rfl) ?_
        refine va_mmin hx hb (hml.trans hl.1.symm) hown hw2 hw3 hw4 hw5 (Nat.le_of_ble_eq_true rfl) (Nat.le_of_ble_eq_true rfl) (Nat.le_of_ble_eq_true rfl) (Nat.le_of_ble_eq_true rfl) dX1_put_77 ?_
        refine h_put (v := .int ((if nI k < nI (lsR f) then nI k else nI (lsR f)))) hx hb hts hi1 tyX1 tyX1_ok nmX1 hown hK0 hV0 hA0 hS he32 rfl 3 (by decide) hw1 rfl (by rfl) (by rfl) (Nat.le_of_ble_eq_true rfl) dX1_put_80 (fun H locs hV0 hA0 hS => ?_)
        have he33 : (hput (hput (hput hp a (eO 1 [.ref w, .int (nI (szR f)), .int ((nI (tbR f) - nI 1) + nI 1), .int (nI (lsR f)), .int (grR f), .int (svR f)])) w (eI 64 (upd f (k) v))) a (eO 1 [.ref w, .int (nI (szR f)), .int ((nI (tbR f) - nI 1) + nI 1), .int ((if nI k < nI (lsR f) then nI k else nI (lsR f))), .int (grR f), .int (svR f)])) a = some (eO 1 [.ref w, .int (nI (szR f)), .int ((nI (tbR f) - nI 1) + nI 1), .int ((if nI k < nI (lsR f) then nI k else nI (lsR f))), .int (grR f), .int (svR f)]) := hput_s _ _ _
        have he34 : (hput (hput (hput hp a (eO 1 [.ref w, .int (nI (szR f)), .int ((nI (tbR f) - nI 1) + nI 1), .int (nI (lsR f)), .int (grR f), .int (svR f)])) w (eI 64 (upd f (k) v))) a (eO 1 [.ref w, .int (nI (szR f)), .int ((nI (tbR f) - nI 1) + nI 1), .int ((if nI k < nI (lsR f) then nI k else nI (lsR f))), .int (grR f), .int (svR f)])) w = some (eI 64 (upd f (k) v)) := (hput_n _ _ (Ne.symm hne)).trans ((by first | exact he31 | exact (hput_n _ _ (Ne.symm hne)).symm.trans he31))
        refine lv_aload_n hx hb dX1_put_83 rfl (lv_at hl 1 rfl) ?_
        refine lv_aload_n hx hb dX1_put_84 rfl (lv_at hl 1 rfl) ?_
        refine h_get (v := .int (grR f)) hx hb hts hi1 hown hK0 hV0 he33 rfl 4 (by decide) hw6 rfl dX1_put_85 ?_
        refine lv_iload_n hx hb dX1_put_88 rfl (lv_at hl 2 rfl) ?_
        refine va_mmax hx hb (hml.trans hl.1.symm) hown hw7 hw8 hw4 hw9 (Nat.le_of_ble_eq_true rfl) (Nat.le_of_ble_eq_true rfl) (Nat.le_of_ble_eq_true rfl) (Nat.le_of_ble_eq_true rfl) dX1_put_89 ?_
        refine h_put (v := .int ((if (grR f) < nI k then nI k else (grR f)))) hx hb hts hi1 tyX1 tyX1_ok nmX1 hown hK0 hV0 hA0 hS he33 rfl 4 (by decide) hw6 rfl (by rfl) (by rfl) (Nat.le_of_ble_eq_true rfl) dX1_put_92 (fun H locs hV0 hA0 hS => ?_)
        rw [hput_hput] at hV0 hA0
        have he35 : (hput (hput (hput hp a (eO 1 [.ref w, .int (nI (szR f)), .int ((nI (tbR f) - nI 1) + nI 1), .int (nI (lsR f)), .int (grR f), .int (svR f)])) w (eI 64 (upd f (k) v))) a (eO 1 [.ref w, .int (nI (szR f)), .int ((nI (tbR f) - nI 1) + nI 1), .int ((if nI k < nI (lsR f) then nI k else nI (lsR f))), .int ((if (grR f) < nI k then nI k else (grR f))), .int (svR f)])) a = some (eO 1 [.ref w, .int (nI (szR f)), .int ((nI (tbR f) - nI 1) + nI 1), .int ((if nI k < nI (lsR f) then nI k else nI (lsR f))), .int ((if (grR f) < nI k then nI k else (grR f))), .int (svR f)]) := hput_s _ _ _
        have he36 : (hput (hput (hput hp a (eO 1 [.ref w, .int (nI (szR f)), .int ((nI (tbR f) - nI 1) + nI 1), .int (nI (lsR f)), .int (grR f), .int (svR f)])) w (eI 64 (upd f (k) v))) a (eO 1 [.ref w, .int (nI (szR f)), .int ((nI (tbR f) - nI 1) + nI 1), .int ((if nI k < nI (lsR f) then nI k else nI (lsR f))), .int ((if (grR f) < nI k then nI k else (grR f))), .int (svR f)])) w = some (eI 64 (upd f (k) v)) := (hput_n _ _ (Ne.symm hne)).trans ((by first | exact he34 | exact (hput_n _ _ (Ne.symm hne)).symm.trans he34))
        refine lv_aload_n hx hb dX1_put_95 rfl (lv_at hl 1 rfl) ?_
        refine lv_dup hx hb dX1_put_96 rfl ?_
        refine h_get (v := .int (svR f)) hx hb hts hi1 hown hK0 hV0 he35 rfl 5 (by decide) hw10 rfl dX1_put_97 ?_
        refine lv_iconst (v := nI 1) hx hb dX1_put_100 (by decide) ?_
        refine lv_iload_n hx hb dX1_put_101 rfl (lv_at hl 2 rfl) ?_
        refine lv_bipush (v := nI 8) hx hb dX1_put_102 (by decide) ?_
        refine h_iremN hx hb (by omega) (by decide) (by decide) dX1_put_104 ?_
        refine lv_ishl hx hb dX1_put_105 ?_
        refine lv_ior hx hb dX1_put_106 ?_
        refine h_put (v := .int ((svR f) ||| (nI 1 <<< (nI (k % 8) &&& 31)))) hx hb hts hi1 tyX1 tyX1_ok nmX1 hown hK0 hV0 hA0 hS he35 rfl 5 (by decide) hw10 rfl (by rfl) (by rfl) (Nat.le_of_ble_eq_true rfl) dX1_put_107 (fun H locs hV0 hA0 hS => ?_)
        rw [hput_hput] at hV0 hA0
        have he37 : (hput (hput (hput hp a (eO 1 [.ref w, .int (nI (szR f)), .int ((nI (tbR f) - nI 1) + nI 1), .int (nI (lsR f)), .int (grR f), .int (svR f)])) w (eI 64 (upd f (k) v))) a (eO 1 [.ref w, .int (nI (szR f)), .int ((nI (tbR f) - nI 1) + nI 1), .int ((if nI k < nI (lsR f) then nI k else nI (lsR f))), .int ((if (grR f) < nI k then nI k else (grR f))), .int ((svR f) ||| (nI 1 <<< (nI (k % 8) &&& 31)))])) a = some (eO 1 [.ref w, .int (nI (szR f)), .int ((nI (tbR f) - nI 1) + nI 1), .int ((if nI k < nI (lsR f) then nI k else nI (lsR f))), .int ((if (grR f) < nI k then nI k else (grR f))), .int ((svR f) ||| (nI 1 <<< (nI (k % 8) &&& 31)))]) := hput_s _ _ _
        have he38 : (hput (hput (hput hp a (eO 1 [.ref w, .int (nI (szR f)), .int ((nI (tbR f) - nI 1) + nI 1), .int (nI (lsR f)), .int (grR f), .int (svR f)])) w (eI 64 (upd f (k) v))) a (eO 1 [.ref w, .int (nI (szR f)), .int ((nI (tbR f) - nI 1) + nI 1), .int ((if nI k < nI (lsR f) then nI k else nI (lsR f))), .int ((if (grR f) < nI k then nI k else (grR f))), .int ((svR f) ||| (nI 1 <<< (nI (k % 8) &&& 31)))])) w = some (eI 64 (upd f (k) v)) := (hput_n _ _ (Ne.symm hne)).trans ((by first | exact he36 | exact (hput_n _ _ (Ne.symm hne)).symm.trans he36))
        exact W.vret hx hb hr (h_qW ⟨rfl, by (try rw [hput_mid]); rw [slO_gen (w := w) hk hv (sz_2 hk hv c_21) (tb_yb hk c_36 c_51)]; rfl⟩ hV0 hA0 hS) hS.2.2 dX1_put_110 hlocks
  · refine lv_aload_n hx hb dX1_put_24 rfl (lv_at hl 1 rfl) ?_
    refine lv_dup hx hb dX1_put_25 rfl ?_
    refine h_get (v := .int (nI (szR f))) hx hb hts hi1 hown hK0 hV0 he.1 rfl 1 (by decide) hw12 rfl dX1_put_26 ?_
    refine lv_iconst (v := nI 1) hx hb dX1_put_29 (by decide) ?_
    refine lv_iadd hx hb dX1_put_30 ?_
    refine h_put (v := .int (nI (szR f) + nI 1)) hx hb hts hi1 tyX1 tyX1_ok nmX1 hown hK0 hV0 hA0 hS he.1 rfl 1 (by decide) hw12 rfl (by rfl) (by rfl) (Nat.le_of_ble_eq_true rfl) dX1_put_31 (fun H locs hV0 hA0 hS => ?_)
    have he39 : (hput hp a (eO 1 [.ref w, .int (nI (szR f) + nI 1), .int (nI (tbR f)), .int (nI (lsR f)), .int (grR f), .int (svR f)])) a = some (eO 1 [.ref w, .int (nI (szR f) + nI 1), .int (nI (tbR f)), .int (nI (lsR f)), .int (grR f), .int (svR f)]) := hput_s _ _ _
    have he40 : (hput hp a (eO 1 [.ref w, .int (nI (szR f) + nI 1), .int (nI (tbR f)), .int (nI (lsR f)), .int (grR f), .int (svR f)])) w = some (eI 64 f) := (hput_n _ _ (Ne.symm hne)).trans ((by first | exact he.2 | exact (hput_n _ _ (Ne.symm hne)).symm.trans he.2))
    refine lv_iload_n hx hb dX1_put_34 rfl (lv_at hl 0 rfl) ?_
    refine lv_iconst (v := (-1)) hx hb dX1_put_35 (by decide) ?_
    refine lv_icmp_ne (tgt := 49) hx hb dX1_put_36 (by decide) (fun c_36 => ?_) (fun c_36 => absurd (c_21.symm.trans c_36) (by decide))
    refine lv_iload_n hx hb dX1_put_49 rfl (lv_at hl 3 rfl) ?_
    refine lv_iconst (v := (-1)) hx hb dX1_put_50 (by decide) ?_
    refine lv_icmp_ne (tgt := 64) hx hb dX1_put_51 (by decide) (fun c_51 => ?_) (fun c_51 => ?_)
    · refine lv_aload_n hx hb dX1_put_64 rfl (lv_at hl 1 rfl) ?_
      refine h_get (v := .ref w) hx hb hts hi1 hown hK0 hV0 he39 rfl 0 (by decide) hw0 rfl dX1_put_65 ?_
      refine lv_iload_n hx hb dX1_put_68 rfl (lv_at hl 2 rfl) ?_
      refine lv_iload_n hx hb dX1_put_69 rfl (lv_at hl 3 rfl) ?_
      refine h_iast (i := k) (x := v) hx hb hK0 hV0 hA0 hS he40 (by omega) (by omega) dX1_put_70 (fun H locs hV0 hA0 hS => ?_)
      have he41 : (hput (hput hp a (eO 1 [.ref w, .int (nI (szR f) + nI 1), .int (nI (tbR f)), .int (nI (lsR f)), .int (grR f), .int (svR f)])) w (eI 64 (upd f (k) v))) w = some (eI 64 (upd f (k) v)) := hput_s _ _ _
      have he42 : (hput (hput hp a (eO 1 [.ref w, .int (nI (szR f) + nI 1), .int (nI (tbR f)), .int (nI (lsR f)), .int (grR f), .int (svR f)])) w (eI 64 (upd f (k) v))) a = some (eO 1 [.ref w, .int (nI (szR f) + nI 1), .int (nI (tbR f)), .int (nI (lsR f)), .int (grR f), .int (svR f)]) := (hput_n _ _ hne).trans ((by first | exact he39 | exact (hput_n _ _ hne).symm.trans he39))
      refine lv_aload_n hx hb dX1_put_71 rfl (lv_at hl 1 rfl) ?_
      refine lv_aload_n hx hb dX1_put_72 rfl (lv_at hl 1 rfl) ?_
      refine h_get (v := .int (nI (lsR f))) hx hb hts hi1 hown hK0 hV0 he42 rfl 3 (by decide) hw1 rfl dX1_put_73 ?_
      refine lv_iload_n hx hb dX1_put_76 rfl (lv_at hl 2 rfl) ?_
      refine va_mmin hx hb (hml.trans hl.1.symm) hown hw2 hw3 hw4 hw5 (Nat.le_of_ble_eq_true rfl) (Nat.le_of_ble_eq_true rfl) (Nat.le_of_ble_eq_true rfl) (Nat.le_of_ble_eq_true rfl) dX1_put_77 ?_
      refine h_put (v := .int ((if nI k < nI (lsR f) then nI k else nI (lsR f)))) hx hb hts hi1 tyX1 tyX1_ok nmX1 hown hK0 hV0 hA0 hS he42 rfl 3 (by decide) hw1 rfl (by rfl) (by rfl) (Nat.le_of_ble_eq_true rfl) dX1_put_80 (fun H locs hV0 hA0 hS => ?_)
      have he43 : (hput (hput (hput hp a (eO 1 [.ref w, .int (nI (szR f) + nI 1), .int (nI (tbR f)), .int (nI (lsR f)), .int (grR f), .int (svR f)])) w (eI 64 (upd f (k) v))) a (eO 1 [.ref w, .int (nI (szR f) + nI 1), .int (nI (tbR f)), .int ((if nI k < nI (lsR f) then nI k else nI (lsR f))), .int (grR f), .int (svR f)])) a = some (eO 1 [.ref w, .int (nI (szR f) + nI 1), .int (nI (tbR f)), .int ((if nI k < nI (lsR f) then nI k else nI (lsR f))), .int (grR f), .int (svR f)]) := hput_s _ _ _
      have he44 : (hput (hput (hput hp a (eO 1 [.ref w, .int (nI (szR f) + nI 1), .int (nI (tbR f)), .int (nI (lsR f)), .int (grR f), .int (svR f)])) w (eI 64 (upd f (k) v))) a (eO 1 [.ref w, .int (nI (szR f) + nI 1), .int (nI (tbR f)), .int ((if nI k < nI (lsR f) then nI k else nI (lsR f))), .int (grR f), .int (svR f)])) w = some (eI 64 (upd f (k) v)) := (hput_n _ _ (Ne.symm hne)).trans ((by first | exact he41 | exact (hput_n _ _ (Ne.symm hne)).symm.trans he41))
      refine lv_aload_n hx hb dX1_put_83 rfl (lv_at hl 1 rfl) ?_
      refine lv_aload_n hx hb dX1_put_84 rfl (lv_at hl 1 rfl) ?_
      refine h_get (v := .int (grR f)) hx hb hts hi1 hown hK0 hV0 he43 rfl 4 (by decide) hw6 rfl dX1_put_85 ?_
      refine lv_iload_n hx hb dX1_put_88 rfl (lv_at hl 2 rfl) ?_
      refine va_mmax hx hb (hml.trans hl.1.symm) hown hw7 hw8 hw4 hw9 (Nat.le_of_ble_eq_true rfl) (Nat.le_of_ble_eq_true rfl) (Nat.le_of_ble_eq_true rfl) (Nat.le_of_ble_eq_true rfl) dX1_put_89 ?_
      refine h_put (v := .int ((if (grR f) < nI k then nI k else (grR f)))) hx hb hts hi1 tyX1 tyX1_ok nmX1 hown hK0 hV0 hA0 hS he43 rfl 4 (by decide) hw6 rfl (by rfl) (by rfl) (Nat.le_of_ble_eq_true rfl) dX1_put_92 (fun H locs hV0 hA0 hS => ?_)
      rw [hput_hput] at hV0 hA0
      have he45 : (hput (hput (hput hp a (eO 1 [.ref w, .int (nI (szR f) + nI 1), .int (nI (tbR f)), .int (nI (lsR f)), .int (grR f), .int (svR f)])) w (eI 64 (upd f (k) v))) a (eO 1 [.ref w, .int (nI (szR f) + nI 1), .int (nI (tbR f)), .int ((if nI k < nI (lsR f) then nI k else nI (lsR f))), .int ((if (grR f) < nI k then nI k else (grR f))), .int (svR f)])) a = some (eO 1 [.ref w, .int (nI (szR f) + nI 1), .int (nI (tbR f)), .int ((if nI k < nI (lsR f) then nI k else nI (lsR f))), .int ((if (grR f) < nI k then nI k else (grR f))), .int (svR f)]) := hput_s _ _ _
      have he46 : (hput (hput (hput hp a (eO 1 [.ref w, .int (nI (szR f) + nI 1), .int (nI (tbR f)), .int (nI (lsR f)), .int (grR f), .int (svR f)])) w (eI 64 (upd f (k) v))) a (eO 1 [.ref w, .int (nI (szR f) + nI 1), .int (nI (tbR f)), .int ((if nI k < nI (lsR f) then nI k else nI (lsR f))), .int ((if (grR f) < nI k then nI k else (grR f))), .int (svR f)])) w = some (eI 64 (upd f (k) v)) := (hput_n _ _ (Ne.symm hne)).trans ((by first | exact he44 | exact (hput_n _ _ (Ne.symm hne)).symm.trans he44))
      refine lv_aload_n hx hb dX1_put_95 rfl (lv_at hl 1 rfl) ?_
      refine lv_dup hx hb dX1_put_96 rfl ?_
      refine h_get (v := .int (svR f)) hx hb hts hi1 hown hK0 hV0 he45 rfl 5 (by decide) hw10 rfl dX1_put_97 ?_
      refine lv_iconst (v := nI 1) hx hb dX1_put_100 (by decide) ?_
      refine lv_iload_n hx hb dX1_put_101 rfl (lv_at hl 2 rfl) ?_
      refine lv_bipush (v := nI 8) hx hb dX1_put_102 (by decide) ?_
      refine h_iremN hx hb (by omega) (by decide) (by decide) dX1_put_104 ?_
      refine lv_ishl hx hb dX1_put_105 ?_
      refine lv_ior hx hb dX1_put_106 ?_
      refine h_put (v := .int ((svR f) ||| (nI 1 <<< (nI (k % 8) &&& 31)))) hx hb hts hi1 tyX1 tyX1_ok nmX1 hown hK0 hV0 hA0 hS he45 rfl 5 (by decide) hw10 rfl (by rfl) (by rfl) (Nat.le_of_ble_eq_true rfl) dX1_put_107 (fun H locs hV0 hA0 hS => ?_)
      rw [hput_hput] at hV0 hA0
      have he47 : (hput (hput (hput hp a (eO 1 [.ref w, .int (nI (szR f) + nI 1), .int (nI (tbR f)), .int (nI (lsR f)), .int (grR f), .int (svR f)])) w (eI 64 (upd f (k) v))) a (eO 1 [.ref w, .int (nI (szR f) + nI 1), .int (nI (tbR f)), .int ((if nI k < nI (lsR f) then nI k else nI (lsR f))), .int ((if (grR f) < nI k then nI k else (grR f))), .int ((svR f) ||| (nI 1 <<< (nI (k % 8) &&& 31)))])) a = some (eO 1 [.ref w, .int (nI (szR f) + nI 1), .int (nI (tbR f)), .int ((if nI k < nI (lsR f) then nI k else nI (lsR f))), .int ((if (grR f) < nI k then nI k else (grR f))), .int ((svR f) ||| (nI 1 <<< (nI (k % 8) &&& 31)))]) := hput_s _ _ _
      have he48 : (hput (hput (hput hp a (eO 1 [.ref w, .int (nI (szR f) + nI 1), .int (nI (tbR f)), .int (nI (lsR f)), .int (grR f), .int (svR f)])) w (eI 64 (upd f (k) v))) a (eO 1 [.ref w, .int (nI (szR f) + nI 1), .int (nI (tbR f)), .int ((if nI k < nI (lsR f) then nI k else nI (lsR f))), .int ((if (grR f) < nI k then nI k else (grR f))), .int ((svR f) ||| (nI 1 <<< (nI (k % 8) &&& 31)))])) w = some (eI 64 (upd f (k) v)) := (hput_n _ _ (Ne.symm hne)).trans ((by first | exact he46 | exact (hput_n _ _ (Ne.symm hne)).symm.trans he46))
      exact W.vret hx hb hr (h_qW ⟨rfl, by (try rw [hput_mid]); rw [slO_gen (w := w) hk hv (sz_1 hk hv c_21) (tb_na hk (ne_2_1 c_21) c_51)]; rfl⟩ hV0 hA0 hS) hS.2.2 dX1_put_110 hlocks
    · refine lv_aload_n hx hb dX1_put_54 rfl (lv_at hl 1 rfl) ?_
      refine lv_dup hx hb dX1_put_55 rfl ?_
      refine h_get (v := .int (nI (tbR f))) hx hb hts hi1 hown hK0 hV0 he39 rfl 2 (by decide) hw11 rfl dX1_put_56 ?_
      refine lv_iconst (v := nI 1) hx hb dX1_put_59 (by decide) ?_
      refine lv_iadd hx hb dX1_put_60 ?_
      refine h_put (v := .int (nI (tbR f) + nI 1)) hx hb hts hi1 tyX1 tyX1_ok nmX1 hown hK0 hV0 hA0 hS he39 rfl 2 (by decide) hw11 rfl (by rfl) (by rfl) (Nat.le_of_ble_eq_true rfl) dX1_put_61 (fun H locs hV0 hA0 hS => ?_)
      rw [hput_hput] at hV0 hA0
      have he49 : (hput hp a (eO 1 [.ref w, .int (nI (szR f) + nI 1), .int (nI (tbR f) + nI 1), .int (nI (lsR f)), .int (grR f), .int (svR f)])) a = some (eO 1 [.ref w, .int (nI (szR f) + nI 1), .int (nI (tbR f) + nI 1), .int (nI (lsR f)), .int (grR f), .int (svR f)]) := hput_s _ _ _
      have he50 : (hput hp a (eO 1 [.ref w, .int (nI (szR f) + nI 1), .int (nI (tbR f) + nI 1), .int (nI (lsR f)), .int (grR f), .int (svR f)])) w = some (eI 64 f) := (hput_n _ _ (Ne.symm hne)).trans ((by first | exact he40 | exact (hput_n _ _ (Ne.symm hne)).symm.trans he40))
      refine lv_aload_n hx hb dX1_put_64 rfl (lv_at hl 1 rfl) ?_
      refine h_get (v := .ref w) hx hb hts hi1 hown hK0 hV0 he49 rfl 0 (by decide) hw0 rfl dX1_put_65 ?_
      refine lv_iload_n hx hb dX1_put_68 rfl (lv_at hl 2 rfl) ?_
      refine lv_iload_n hx hb dX1_put_69 rfl (lv_at hl 3 rfl) ?_
      refine h_iast (i := k) (x := v) hx hb hK0 hV0 hA0 hS he50 (by omega) (by omega) dX1_put_70 (fun H locs hV0 hA0 hS => ?_)
      have he51 : (hput (hput hp a (eO 1 [.ref w, .int (nI (szR f) + nI 1), .int (nI (tbR f) + nI 1), .int (nI (lsR f)), .int (grR f), .int (svR f)])) w (eI 64 (upd f (k) v))) w = some (eI 64 (upd f (k) v)) := hput_s _ _ _
      have he52 : (hput (hput hp a (eO 1 [.ref w, .int (nI (szR f) + nI 1), .int (nI (tbR f) + nI 1), .int (nI (lsR f)), .int (grR f), .int (svR f)])) w (eI 64 (upd f (k) v))) a = some (eO 1 [.ref w, .int (nI (szR f) + nI 1), .int (nI (tbR f) + nI 1), .int (nI (lsR f)), .int (grR f), .int (svR f)]) := (hput_n _ _ hne).trans ((by first | exact he49 | exact (hput_n _ _ hne).symm.trans he49))
      refine lv_aload_n hx hb dX1_put_71 rfl (lv_at hl 1 rfl) ?_
      refine lv_aload_n hx hb dX1_put_72 rfl (lv_at hl 1 rfl) ?_
      refine h_get (v := .int (nI (lsR f))) hx hb hts hi1 hown hK0 hV0 he52 rfl 3 (by decide) hw1 rfl dX1_put_73 ?_
      refine lv_iload_n hx hb dX1_put_76 rfl (lv_at hl 2 rfl) ?_
      refine va_mmin hx hb (hml.trans hl.1.symm) hown hw2 hw3 hw4 hw5 (Nat.le_of_ble_eq_true rfl) (Nat.le_of_ble_eq_true rfl) (Nat.le_of_ble_eq_true rfl) (Nat.le_of_ble_eq_true rfl) dX1_put_77 ?_
      refine h_put (v := .int ((if nI k < nI (lsR f) then nI k else nI (lsR f)))) hx hb hts hi1 tyX1 tyX1_ok nmX1 hown hK0 hV0 hA0 hS he52 rfl 3 (by decide) hw1 rfl (by rfl) (by rfl) (Nat.le_of_ble_eq_true rfl) dX1_put_80 (fun H locs hV0 hA0 hS => ?_)
      have he53 : (hput (hput (hput hp a (eO 1 [.ref w, .int (nI (szR f) + nI 1), .int (nI (tbR f) + nI 1), .int (nI (lsR f)), .int (grR f), .int (svR f)])) w (eI 64 (upd f (k) v))) a (eO 1 [.ref w, .int (nI (szR f) + nI 1), .int (nI (tbR f) + nI 1), .int ((if nI k < nI (lsR f) then nI k else nI (lsR f))), .int (grR f), .int (svR f)])) a = some (eO 1 [.ref w, .int (nI (szR f) + nI 1), .int (nI (tbR f) + nI 1), .int ((if nI k < nI (lsR f) then nI k else nI (lsR f))), .int (grR f), .int (svR f)]) := hput_s _ _ _
      have he54 : (hput (hput (hput hp a (eO 1 [.ref w, .int (nI (szR f) + nI 1), .int (nI (tbR f) + nI 1), .int (nI (lsR f)), .int (grR f), .int (svR f)])) w (eI 64 (upd f (k) v))) a (eO 1 [.ref w, .int (nI (szR f) + nI 1), .int (nI (tbR f) + nI 1), .int ((if nI k < nI (lsR f) then nI k else nI (lsR f))), .int (grR f), .int (svR f)])) w = some (eI 64 (upd f (k) v)) := (hput_n _ _ (Ne.symm hne)).trans ((by first | exact he51 | exact (hput_n _ _ (Ne.symm hne)).symm.trans he51))
      refine lv_aload_n hx hb dX1_put_83 rfl (lv_at hl 1 rfl) ?_
      refine lv_aload_n hx hb dX1_put_84 rfl (lv_at hl 1 rfl) ?_
      refine h_get (v := .int (grR f)) hx hb hts hi1 hown hK0 hV0 he53 rfl 4 (by decide) hw6 rfl dX1_put_85 ?_
      refine lv_iload_n hx hb dX1_put_88 rfl (lv_at hl 2 rfl) ?_
      refine va_mmax hx hb (hml.trans hl.1.symm) hown hw7 hw8 hw4 hw9 (Nat.le_of_ble_eq_true rfl) (Nat.le_of_ble_eq_true rfl) (Nat.le_of_ble_eq_true rfl) (Nat.le_of_ble_eq_true rfl) dX1_put_89 ?_
      refine h_put (v := .int ((if (grR f) < nI k then nI k else (grR f)))) hx hb hts hi1 tyX1 tyX1_ok nmX1 hown hK0 hV0 hA0 hS he53 rfl 4 (by decide) hw6 rfl (by rfl) (by rfl) (Nat.le_of_ble_eq_true rfl) dX1_put_92 (fun H locs hV0 hA0 hS => ?_)
      rw [hput_hput] at hV0 hA0
      have he55 : (hput (hput (hput hp a (eO 1 [.ref w, .int (nI (szR f) + nI 1), .int (nI (tbR f) + nI 1), .int (nI (lsR f)), .int (grR f), .int (svR f)])) w (eI 64 (upd f (k) v))) a (eO 1 [.ref w, .int (nI (szR f) + nI 1), .int (nI (tbR f) + nI 1), .int ((if nI k < nI (lsR f) then nI k else nI (lsR f))), .int ((if (grR f) < nI k then nI k else (grR f))), .int (svR f)])) a = some (eO 1 [.ref w, .int (nI (szR f) + nI 1), .int (nI (tbR f) + nI 1), .int ((if nI k < nI (lsR f) then nI k else nI (lsR f))), .int ((if (grR f) < nI k then nI k else (grR f))), .int (svR f)]) := hput_s _ _ _
      have he56 : (hput (hput (hput hp a (eO 1 [.ref w, .int (nI (szR f) + nI 1), .int (nI (tbR f) + nI 1), .int (nI (lsR f)), .int (grR f), .int (svR f)])) w (eI 64 (upd f (k) v))) a (eO 1 [.ref w, .int (nI (szR f) + nI 1), .int (nI (tbR f) + nI 1), .int ((if nI k < nI (lsR f) then nI k else nI (lsR f))), .int ((if (grR f) < nI k then nI k else (grR f))), .int (svR f)])) w = some (eI 64 (upd f (k) v)) := (hput_n _ _ (Ne.symm hne)).trans ((by first | exact he54 | exact (hput_n _ _ (Ne.symm hne)).symm.trans he54))
      refine lv_aload_n hx hb dX1_put_95 rfl (lv_at hl 1 rfl) ?_
      refine lv_dup hx hb dX1_put_96 rfl ?_
      refine h_get (v := .int (svR f)) hx hb hts hi1 hown hK0 hV0 he55 rfl 5 (by decide) hw10 rfl dX1_put_97 ?_
      refine lv_iconst (v := nI 1) hx hb dX1_put_100 (by decide) ?_
      refine lv_iload_n hx hb dX1_put_101 rfl (lv_at hl 2 rfl) ?_
      refine lv_bipush (v := nI 8) hx hb dX1_put_102 (by decide) ?_
      refine h_iremN hx hb (by omega) (by decide) (by decide) dX1_put_104 ?_
      refine lv_ishl hx hb dX1_put_105 ?_
      refine lv_ior hx hb dX1_put_106 ?_
      refine h_put (v := .int ((svR f) ||| (nI 1 <<< (nI (k % 8) &&& 31)))) hx hb hts hi1 tyX1 tyX1_ok nmX1 hown hK0 hV0 hA0 hS he55 rfl 5 (by decide) hw10 rfl (by rfl) (by rfl) (Nat.le_of_ble_eq_true rfl) dX1_put_107 (fun H locs hV0 hA0 hS => ?_)
      rw [hput_hput] at hV0 hA0
      have he57 : (hput (hput (hput hp a (eO 1 [.ref w, .int (nI (szR f) + nI 1), .int (nI (tbR f) + nI 1), .int (nI (lsR f)), .int (grR f), .int (svR f)])) w (eI 64 (upd f (k) v))) a (eO 1 [.ref w, .int (nI (szR f) + nI 1), .int (nI (tbR f) + nI 1), .int ((if nI k < nI (lsR f) then nI k else nI (lsR f))), .int ((if (grR f) < nI k then nI k else (grR f))), .int ((svR f) ||| (nI 1 <<< (nI (k % 8) &&& 31)))])) a = some (eO 1 [.ref w, .int (nI (szR f) + nI 1), .int (nI (tbR f) + nI 1), .int ((if nI k < nI (lsR f) then nI k else nI (lsR f))), .int ((if (grR f) < nI k then nI k else (grR f))), .int ((svR f) ||| (nI 1 <<< (nI (k % 8) &&& 31)))]) := hput_s _ _ _
      have he58 : (hput (hput (hput hp a (eO 1 [.ref w, .int (nI (szR f) + nI 1), .int (nI (tbR f) + nI 1), .int (nI (lsR f)), .int (grR f), .int (svR f)])) w (eI 64 (upd f (k) v))) a (eO 1 [.ref w, .int (nI (szR f) + nI 1), .int (nI (tbR f) + nI 1), .int ((if nI k < nI (lsR f) then nI k else nI (lsR f))), .int ((if (grR f) < nI k then nI k else (grR f))), .int ((svR f) ||| (nI 1 <<< (nI (k % 8) &&& 31)))])) w = some (eI 64 (upd f (k) v)) := (hput_n _ _ (Ne.symm hne)).trans ((by first | exact he56 | exact (hput_n _ _ (Ne.symm hne)).symm.trans he56))
      exact W.vret hx hb hr (h_qW ⟨rfl, by (try rw [hput_mid]); rw [slO_gen (w := w) hk hv (sz_1 hk hv c_21) (tb_nb hk (ne_2_1 c_21) c_51)]; rfl⟩ hV0 hA0 hS) hS.2.2 dX1_put_110 hlocks

set_option maxHeartbeats 4000000 in
set_option maxRecDepth 100000 in
theorem c_X1_init (l : Launch) (G : hG) (A : Nat → Prop) (hp : HP) (a : Nat) (he : hp a = some (eO 1 [.null, .int 0, .int 0, .int 0, .int 0, .int 0])) (hA0 : hIn A hp) : hWr l yX1_init wsX1_init 2 43 1 64 G A hp [.ref a] (fun ro hp' => ro = none ∧ ∃ w, hp w = none ∧ hp' = hput (hput hp w (eI 64 emR)) a (eO 1 (slO w emR))) := by
  refine Met.ofW (cc := cX1_init) (maxL := 1) (ret := none) (by decide) rfl ?_
  intro p e s m args below meth c s₁ B hml hv
  obtain ⟨rfl, hV0, hK0, hA⟩ := hv
  have hx := B.exec
  have hb := B.bytes
  have hr := B.returns
  have hts := atoms_spec (ws := wsX1_init) B.pre
  have hown : s.vm.findClass RX1 = some m.cls := findClass_of_methodNamed B.named
  have hlocks := B.notSynchronized
  have hin0 : meth.name = "<init>" := (name_of_methodNamed B.named B.method).1
  have hF : CallFix p m c cX1_init 1 s [.ref a].toArray wsX1_init RX1 := ⟨hx, hb, hml, hown, hts⟩
  have hw0 := hts (.methodLink RX1 3 objectInit) (by decide +kernel)
  have hw1 := hts (.instanceMethod objectInit) (by decide +kernel)
  have hw2 := hts (.code objectInit ⟨#[0xb1]⟩ 1 none) (by decide +kernel)
  have hw3 := hts (.arrayClass .int) (by decide +kernel)
  have hw4 := hts (.fieldLink RX1 9 "SlipLevels$Slips" "words" "[I") (by decide +kernel)
  have hi1 : ∀ w ∈ u_ws RX1 TX1 6, w ∈ wsX1_init := by
    intro w h
    unfold wsX1_init
    simp only [List.mem_cons, List.mem_append, h, true_or, or_true]
  have hS : va_S A s.heap s.heap [] := va_S.rf
  have hl := lv_entry ([.ref a]) (n := 1) (Nat.le_of_ble_eq_true rfl)
  rw [lg_entry_eq]
  generalize (lg_sl ([.ref a]) ++ List.replicate (1 - (lg_sl ([.ref a])).length) Slot.unset).toArray = ls at hl ⊢
  replace hl : lv_has ls 1 [(0, .ref a)] := hl
  refine lv_aload_n hx hb dX1_init_0 rfl (lv_at hl 0 rfl) ?_
  refine W.objInit hx hb hown hw0 hw1 hw2 rfl (by rw [hml]; exact hl.1) rfl dX1_init_1 (Nat.le_of_ble_eq_true rfl) (Nat.le_of_ble_eq_true rfl) ?_
  refine W.eq (g2 := F0 m 4 ls []) rfl ?_
  refine lv_aload_n hx hb dX1_init_4 rfl (lv_at hl 0 rfl) ?_
  refine lv_bipush (v := nI 64) hx hb dX1_init_5 (by decide) ?_
  refine h_newI hx hb hw3 hK0 hV0 hA0 hS hA (n := 64) (by omega) (Nat.le_of_ble_eq_true rfl) (Nat.le_of_ble_eq_true rfl) dX1_init_7 (fun q1 H hqq1 hV0 hA0 hS => ?_)
  have hn_q1_a : a ≠ q1 := fun h => absurd ((he).symm.trans ((congrArg hp h).trans hqq1)) (fun h => by cases h)
  have he2 : (hput hp q1 (eI 64 (fun _ => 0))) q1 = some (eI 64 (fun _ => 0)) := hput_s _ _ _
  have he3 : (hput hp q1 (eI 64 (fun _ => 0))) a = some (eO 1 [.null, .int 0, .int 0, .int 0, .int 0, .int 0]) := (hput_n _ _ hn_q1_a).trans he
  refine h_putF (v := .ref q1) hx hb hts hi1 tyX1 tyX1_ok nmX1 hown hK0 hV0 hA0 hS he3 rfl 0 (by decide) hw4 rfl hin0 rfl (by rfl) (by rfl) (Nat.le_of_ble_eq_true rfl) dX1_init_9 (fun H locs hV0 hA0 hS => ?_)
  have he4 : (hput (hput hp q1 (eI 64 (fun _ => 0))) a (eO 1 [.ref q1, .int 0, .int 0, .int 0, .int 0, .int 0])) a = some (eO 1 [.ref q1, .int 0, .int 0, .int 0, .int 0, .int 0]) := hput_s _ _ _
  have he5 : (hput (hput hp q1 (eI 64 (fun _ => 0))) a (eO 1 [.ref q1, .int 0, .int 0, .int 0, .int 0, .int 0])) q1 = some (eI 64 (fun _ => 0)) := (hput_n _ _ (Ne.symm hn_q1_a)).trans ((by first | exact he2 | exact (hput_n _ _ (Ne.symm hn_q1_a)).symm.trans he2))
  refine lv_aload_n hx hb dX1_init_12 rfl (lv_at hl 0 rfl) ?_
  refine h_wrV (As := []) (rest := []) hF (c_X1_clear l G A (hput (hput hp q1 (eI 64 (fun _ => 0))) a (eO 1 [.ref q1, .int 0, .int 0, .int 0, .int 0, .int 0])) a q1 (fun _ => 0) 0 0 0 0 0 he4 he5 hA0) 0 gX1_init_X1_clear rfl (by decide +kernel) ⟨Nat.le_of_ble_eq_true rfl, Nat.le_of_ble_eq_true rfl⟩ hK0 hV0 hA hS he4 rfl rfl rfl hl.1 rfl (Nat.le_of_ble_eq_true rfl) ⟨Nat.le_of_ble_eq_true rfl, Nat.le_of_ble_eq_true rfl⟩ dX1_init_13 (fun ro hp1 H locs hP1 hV0 hA0 hS => ?_)
  obtain ⟨rfl, rfl⟩ := hP1
  exact W.vret hx hb hr (h_qW ⟨rfl, _, hqq1, init_eq _ _ _ _ _ _ _⟩ hV0 hA0 hS) hS.2.2 dX1_init_16 hlocks
