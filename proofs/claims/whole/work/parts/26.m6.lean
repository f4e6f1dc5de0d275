/-! the model: come, mergeOne, settle, bound, put -/
def mPk (X : Nat → Prop) (mo dk lv nb : Nat) (th : Int32) (d : Row) (V : BV) (rm dt : Int32) (hp0 hp : HP) : Prop := ∃ (lvl : Nat → Nat) (row : Nat → Nat → Nat), mA mo dk lv nb lvl row th d V rm dt hp ∧ mX X mo dk lv nb hp ∧ mD dk row V ∧ mKp X hp0 hp
theorem mPk.P {X : Nat → Prop} {mo dk lv nb : Nat} {th : Int32} {d : Row} {V : BV} {rm dt : Int32} {hp0 hp : HP} (h : mPk X mo dk lv nb th d V rm dt hp0 hp) : mP X mo th d V rm dt hp0 hp := by
  obtain ⟨lvl, row, h⟩ := h
  exact ⟨dk, lv, nb, lvl, row, h⟩
def rowC (row : Nat → Nat → Nat) (l q : Nat) : Nat → Nat → Nat := fun l2 => if l2 = l then (fun r => if r = 0 then q else row l (r - 1)) else row l2
theorem mD.come {dk : Nat} {row : Nat → Nat → Nat} {V : BV} (h : mD dk row V) {l q : Nat} {f : Row} (hl : l < 4) (hq : q ≠ dk) : mD dk (rowC row l q) (cmB V l f) := by
  intro l2 r h2 hr
  have hr2 : r < if l2 = l then bN V l + 1 else bN V l2 := hr
  unfold rowC
  by_cases e : l2 = l
  · rw [if_pos e] at hr2 ⊢
    show (if r = 0 then q else row l (r - 1)) ≠ dk
    by_cases e2 : r = 0
    · rw [if_pos e2]; exact hq
    · rw [if_neg e2]; exact h l (r - 1) hl (by omega)
  · rw [if_neg e] at hr2 ⊢
    exact h l2 r h2 hr2
theorem mD.come2 {dk : Nat} {row : Nat → Nat → Nat} {V : BV} {l q : Nat} {f : Row} {q9 : Nat} (h : mD q9 row V) (hl : l < 4) (hq : q ≠ q9) : mD q9 (rowC row l q) (cmB V l f) := h.come hl hq
theorem mD.clear {dk : Nat} {row : Nat → Nat → Nat} {V : BV} (h : mD dk row V) {l : Nat} {rw2 : Nat → Nat} : mD dk (fun l2 => if l2 = l then rw2 else row l2) (clB V l) := by
  intro l2 r h2 hr
  have hr2 : r < if l2 = l then 0 else bN V l2 := hr
  show (if l2 = l then rw2 else row l2) r ≠ dk
  by_cases e : l2 = l
  · rw [if_pos e] at hr2; omega
  · rw [if_neg e] at hr2 ⊢
    exact h l2 r h2 hr2
theorem mNe.clear {mo dk lv nb : Nat} {lvl : Nat → Nat} {row : Nat → Nat → Nat} {V : BV} {q q2 l : Nat} {rw2 : Nat → Nat} (h : mNe mo dk lv nb lvl row V q) (hq : q2 ≠ q) : mNe mo dk lv nb (fun l2 => if l2 = l then q2 else lvl l2) (fun l2 => if l2 = l then rw2 else row l2) (clB V l) q := by
  refine ⟨h.1, h.2.1, h.2.2.1, h.2.2.2.1, fun l2 hl => ?_, fun l2 r hl hr => ?_⟩
  · show (if l2 = l then q2 else lvl l2) ≠ q
    by_cases e : l2 = l
    · rw [if_pos e]; exact hq
    · rw [if_neg e]; exact h.2.2.2.2.1 l2 hl
  · have hr2 : r < if l2 = l then 0 else bN V l2 := hr
    show (if l2 = l then rw2 else row l2) r ≠ q
    by_cases e : l2 = l
    · rw [if_pos e] at hr2; omega
    · rw [if_neg e] at hr2 ⊢
      exact h.2.2.2.2.2 l2 r hl hr2
theorem cmF {RF : Nat → Option Nat} {row : Nat → Nat} {n q : Nat} (h : ∀ r, r < n → RF r = some (row r)) : ∀ i, i < n + 1 → va_up (va_cpy RF (fun _ => none) 0 1 n) 0 (some q) i = some (if i = 0 then q else row (i - 1)) := by
  intro i hi
  unfold va_up va_cpy
  by_cases e : i = 0
  · rw [if_pos e, if_pos e]
  · rw [if_neg e, if_neg e, if_pos ⟨by omega, by omega⟩, Nat.zero_add, h (i - 1) (by omega)]
theorem dn_e {n i : Nat} (h : i < n) : nI (n - i) - nI 1 = nI (n - i - 1) := by
  have h3 := nI_add (n - i - 1) 1
  rw [show n - i - 1 + 1 = n - i by omega] at h3
  rw [← h3]
  exact Int32.add_sub_cancel _ _
theorem dn_t {n i : Nat} (h : i ≤ n) (hn : n < 2 ^ 31) (hl : nI (n - i) - nI 1 < 0) : i = n := by
  rcases Nat.lt_or_ge i n with q | q
  · rw [dn_e q] at hl
    have h1 : (0 : Int32) ≤ nI (n - i - 1) := nI_pos' (by omega)
    exact absurd hl (Int32.not_lt.mpr h1)
  · omega
theorem dn_f {n i : Nat} (h : i ≤ n) (hl : ¬ nI (n - i) - nI 1 < 0) : i < n := by
  rcases Nat.lt_or_ge i n with q | q
  · exact q
  · exfalso
    rw [show n - i = 0 by omega] at hl
    exact hl (by decide)
theorem dn_b {n i : Nat} : nI (n - i - 1) + (-1) = nI (n - (i + 1)) - nI 1 := by
  rw [show n - (i + 1) = n - i - 1 by omega, Int32.sub_eq_add_neg]
  congr 1
theorem mg_w {F A C : Nat → Int32} {k : Nat} {v : Int32} (h : ∀ x, x < 64 → F x = if x < k then A x else C x) (hA : A k = v) : ∀ x, x < 64 → upd F k v x = if x < k + 1 then A x else C x := by
  intro x hx
  unfold upd
  by_cases e : x = k
  · rw [if_pos e, if_pos (by omega), e, hA]
  · rw [if_neg e, h x hx]
    by_cases e2 : x < k
    · rw [if_pos e2, if_pos (by omega)]
    · rw [if_neg e2, if_neg (by omega)]
theorem mg_s {F A C : Nat → Int32} {k : Nat} (h : ∀ x, x < 64 → F x = if x < k then A x else C x) (hA : A k = C k) : ∀ x, x < 64 → F x = if x < k + 1 then A x else C x := by
  intro x hx
  rw [h x hx]
  by_cases e : x = k
  · rw [if_neg (by omega), if_pos (by omega), e, hA]
  · by_cases e2 : x < k
    · rw [if_pos e2, if_pos (by omega)]
    · rw [if_neg e2, if_neg (by omega)]
theorem fs_y {g : Nat → Row} {n i k : Nat} (h : hasR (g (n - i - 1)) k = true) : fsL g k (i + 1) (n - i - 1) = g (n - i - 1) k := by
  unfold fsL
  rw [if_pos h]
theorem fs_n {g : Nat → Row} {n i k : Nat} (hi : i < n) (h : hasR (g (n - i - 1)) k = false) : fsL g k (i + 1) (n - i - 1) = fsL g k i (n - i) := by
  show (if hasR (g (n - i - 1)) k then _ else fsL g k i (n - i - 1 + 1)) = _
  rw [h, show n - i - 1 + 1 = n - i by omega]
  rfl
def alB (n : Nat → Nat) (l k : Nat) : Bool := decide (∀ j, j < k → l < j → n j = 0)
theorem nb_al {V : BV} {l : Nat} (hl : l < 4) : alB (bN (clB V l)) l 4 = nbA (bN V) l := by
  have hc : ∀ j, l < j → bN (clB V l) j = bN V j := fun j hj => if_neg (by omega)
  unfold alB
  by_cases h : ∀ j, j < 4 → l < j → bN (clB V l) j = 0
  · rw [decide_eq_true h]
    unfold nbA
    rw [nbR_t (fun l2 h1 h2 => by rw [← hc l2 (by omega)]; exact h l2 (by omega) (by omega))]
  · rw [decide_eq_false h]
    have h2 : ∃ j, l < j ∧ j < 4 ∧ ¬ bN V j = 0 := by
      apply Classical.byContradiction
      intro hne
      apply h
      intro j h3 h1
      rw [hc j h1]
      apply Classical.byContradiction
      intro h4
      exact hne ⟨j, h1, h3, h4⟩
    obtain ⟨j, h1, h3, h4⟩ := h2
    unfold nbA
    rw [nbR_f h4 (by omega) (by omega)]
theorem al_0 {n : Nat → Nat} {l : Nat} : alB n l (l + 1) = true := decide_eq_true (fun j h1 h2 => by omega)
theorem al_f {n : Nat → Nat} {l k : Nat} (h : alB n l k = false) : alB n l (k + 1) = false := decide_eq_false (fun z => absurd (fun j h1 h2 => z j (by omega) h2) (of_decide_eq_false h))
theorem al_g {n : Nat → Nat} {l k : Nat} (hk : l < k) (h : ¬ n k = 0) : alB n l (k + 1) = false := decide_eq_false (fun z => h (z k (Nat.lt_succ_self k) hk))
theorem al_t {n : Nat → Nat} {l k : Nat} (h : alB n l k = true) (h0 : n k = 0) : alB n l (k + 1) = true := decide_eq_true (fun j h1 h2 => by
  by_cases e : j = k
  · rw [e]; exact h0
  · exact of_decide_eq_true h j (by omega) h2)
theorem mk_R {V : BV} {l : Nat} {F : Nat → Int32} {hp : HP} {q : Nat} (hq : hp q = some (eI 64 F)) (h : ∀ x, x < 64 → F x = sw (gaW (bN V l) (bG V l) (nbA (bN V) l) x)) : mR hp q (mkB V l) := ⟨F, hq, fun x hx => by rw [h x hx]; unfold mkB gaP; rw [if_pos hx]⟩
theorem ga_f {n : Nat} {g : Nat → Row} {b : Bool} {F : Nat → Int32} {k : Nat} (hb : b = false) (h : ∀ x, x < 64 → F x = if x < k then sw (gaW n g b x) else sw (fsL g x n 0)) : ∀ x, x < 64 → F x = sw (gaW n g b x) := by
  intro x hx
  rw [h x hx, gaW_f hb]
  split <;> rfl

set_option maxHeartbeats 1000000 in
set_option maxRecDepth 100000 in
theorem c_X3_fail (l : Launch) (G : hG) (A : Nat → Prop) (hp : HP) (X : Nat → Prop) (mo dk lv nb : Nat) (lvl : Nat → Nat) (row : Nat → Nat → Nat) (th : Int32) (d : Row) (V : BV) (rm dt : Int32) (hm : mA mo dk lv nb lvl row th d V rm dt hp) (hX : mX X mo dk lv nb hp) (v : Nat) (hD : mD dk row V) (hA0 : hIn A hp) : hWr l yX3_fail wsX3_fail 0 0 0 0 G A hp [.ref mo, .int (nI v)] (fun ro hp' => ro = some (.int (nI 0)) ∧ mPk X mo dk lv nb (nI v) d V rm dt hp hp') := by
  refine Met.ofW (cc := cX3_fail) (maxL := 2) (ret := (some .int)) (by decide) rfl ?_
  intro p e s m args below meth c s₁ B hml hv
  obtain ⟨rfl, hV0, hK0, hA⟩ := hv
  have hx := B.exec
  have hb := B.bytes
  have hr := B.returns
  have hts := atoms_spec (ws := wsX3_fail) B.pre
  have hown : s.vm.findClass RX3 = some m.cls := findClass_of_methodNamed B.named
  have hlocks := B.notSynchronized
  have hF : CallFix p m c cX3_fail 2 s [.ref mo, .int (nI v)].toArray wsX3_fail RX3 := ⟨hx, hb, hml, hown, hts⟩
  have hw0 := hts (.fieldLink RX3 27 "SlipLevelsModel" "thrown" "I") (by decide +kernel)
  have hi3 : ∀ w ∈ u_ws RX3 TX3 4, w ∈ wsX3_fail := by
    intro w h
    unfold wsX3_fail
    simp only [List.mem_cons, List.mem_append, h, true_or, or_true]
  have hS : va_S A s.heap s.heap [] := va_S.rf
  have hl := lv_entry ([.ref mo, .int (nI v)]) (n := 2) (Nat.le_of_ble_eq_true rfl)
  rw [lg_entry_eq]
  generalize (lg_sl ([.ref mo, .int (nI v)]) ++ List.replicate (2 - (lg_sl ([.ref mo, .int (nI v)])).length) Slot.unset).toArray = ls at hl ⊢
  replace hl : lv_has ls 2 [(0, .ref mo), (1, .int (nI v))] := hl
  have hn := hm.le
  have hK : mKp X hp hp := mKp.rf
  refine lv_aload_n hx hb dX3_fail_0 rfl (lv_at hl 0 rfl) ?_
  refine lv_iload_n hx hb dX3_fail_1 rfl (lv_at hl 1 rfl) ?_
  refine h_put (v := .int (nI v)) hx hb hts hi3 tyX3 tyX3_ok nmX3 hown hK0 hV0 hA0 hS hm.cmo rfl 0 (by decide) hw0 rfl (by rfl) (by rfl) (Nat.le_of_ble_eq_true rfl) dX3_fail_2 (fun H locs hV0 hA0 hS => ?_)
  have hm : mA mo dk lv nb lvl row ((nI v)) d V rm dt (hput hp mo (eO 3 [.int (nI v), .ref dk, .ref lv, .ref nb])) := hm.setTh (nI v)
  have hX : mX X mo dk lv nb (hput hp mo (eO 3 [.int (nI v), .ref dk, .ref lv, .ref nb])) := hX.put _ _
  have hK : mKp X hp (hput hp mo (eO 3 [.int (nI v), .ref dk, .ref lv, .ref nb])) := hK.put hX.1.1
  have hn := hm.le
  refine lv_iconst (v := nI 0) hx hb dX3_fail_5 (by decide) ?_
  exact W.iret hx hb hr (h_qW ⟨rfl, _, _, hm, hX, hD, hK⟩ hV0 hA0 hS) hS.2.2 dX3_fail_6 hlocks

set_option maxHeartbeats 1000000 in
set_option maxRecDepth 100000 in
theorem c_X3_empty (l : Launch) (G : hG) (A : Nat → Prop) (hp : HP)  (hA0 : hIn A hp) : hWr l yX3_empty wsX3_empty 0 0 1 64 G A hp [] (fun ro hp' => ∃ q, ro = some (.ref q) ∧ hp q = none ∧ hp' = hput hp q (eI 64 (fun _ => -1))) := by
  refine Met.ofW (cc := cX3_empty) (maxL := 2) (ret := (some (.array .int))) (by decide) rfl ?_
  intro p e s m args below meth c s₁ B hml hv
  obtain ⟨rfl, hV0, hK0, hA⟩ := hv
  have hx := B.exec
  have hb := B.bytes
  have hr := B.returns
  have hts := atoms_spec (ws := wsX3_empty) B.pre
  have hown : s.vm.findClass RX3 = some m.cls := findClass_of_methodNamed B.named
  have hlocks := B.notSynchronized
  have hF : CallFix p m c cX3_empty 2 s [].toArray wsX3_empty RX3 := ⟨hx, hb, hml, hown, hts⟩
  have hw0 := hts (.arrayClass .int) (by decide +kernel)
  have hS : va_S A s.heap s.heap [] := va_S.rf
  have hl := lv_entry ([]) (n := 2) (Nat.le_of_ble_eq_true rfl)
  rw [lg_entry_eq]
  generalize (lg_sl ([]) ++ List.replicate (2 - (lg_sl ([])).length) Slot.unset).toArray = ls at hl ⊢
  replace hl : lv_has ls 2 [] := hl
  refine lv_bipush (v := nI 64) hx hb dX3_empty_0 (by decide) ?_
  refine h_newI hx hb hw0 hK0 hV0 hA0 hS hA (n := 64) (by omega) (Nat.le_of_ble_eq_true rfl) (Nat.le_of_ble_eq_true rfl) dX3_empty_2 (fun q1 H hqq1 hV0 hA0 hS => ?_)
  have he2 : (hput hp q1 (eI 64 (fun _ => 0))) q1 = some (eI 64 (fun _ => 0)) := hput_s _ _ _
  refine lv_astore_n (lv' := [(0, .ref q1)]) hx hb dX3_empty_4 rfl hl (by decide) rfl (fun ls hl => ?_)
  refine lv_iconst (v := nI 0) hx hb dX3_empty_5 (by decide) ?_
  refine lv_istore_n (lv' := [(1, .int (nI 0)), (0, .ref q1)]) hx hb dX3_empty_6 rfl hl (by decide) rfl (fun ls hl => ?_)
  replace hl : lv_has ls 2 [(1, .int (nI 0)), (0, .ref q1)] := lv_sub hl [0, 1] rfl
  rw [← fillF_0 (-1) (fun _ => 0)] at hV0 hA0
  refine h_loopW (G := G) (A := A) (H0 := s.heap) (Wf := fun i H locs ls => W p l e (headSpec wsX3_empty { frames := 0, cells := 1, slots := 64, locals := 0 }).room s m ([].toArray) below meth c H locs 1 64 (MQ below (hW G A (fun ro hp' => ∃ q, ro = some (.ref q) ∧ hp q = none ∧ hp' = hput hp q (eI 64 (fun _ => -1)))) ([].toArray) s 1 64 A) (F0 m 7 ls [])) 64 (fun i => [(1, .int (nI i)), (0, .ref q1)]) (fun i hp' => hp' = hput hp q1 (eI 64 (fillF (-1) (fun _ => 0) i))) (fun i hi7 hp' H locs hI hV0 hA0 hS ih7 ls hl => ?_) 0 (Nat.zero_le _) _ H [] rfl hV0 hA0 hS ls hl
  subst hI
  refine lv_iload_n hx hb dX3_empty_7 rfl (lv_at hl 0 rfl) ?_
  refine lv_bipush (v := nI 64) hx hb dX3_empty_8 (by decide) ?_
  refine h_icmp_ge (a := i) (b := 64) (tgt := 23) hx hb dX3_empty_10 (by decide) (by omega) (by omega) (fun c_10 => ?_) (fun c_10 => ?_)
  · refine lv_aload_n hx hb dX3_empty_23 rfl (lv_at hl 1 rfl) ?_
    obtain rfl : i = 64 := by omega
    replace hV0 : hV G (hput hp q1 (eI 64 (fun _ => -1))) H := hV0.reI (fun j hj => if_pos hj)
    replace hA0 : hIn A (hput hp q1 (eI 64 (fun _ => -1))) := hA0.re
    exact W.aret hx hb hr (by first | exact Or.inl ⟨_, rfl⟩ | exact Or.inr ⟨_, rfl⟩) (Or.inr ⟨_, rfl⟩) (h_qW ⟨_, rfl, hqq1, rfl⟩ hV0 hA0 hS) hS.2.2 dX3_empty_24 hlocks
  · refine lv_aload_n hx hb dX3_empty_13 rfl (lv_at hl 1 rfl) ?_
    refine lv_iload_n hx hb dX3_empty_14 rfl (lv_at hl 0 rfl) ?_
    refine lv_iconst (v := (-1)) hx hb dX3_empty_15 (by decide) ?_
    refine h_iast (i := i) (x := (-1)) hx hb hK0 hV0 hA0 hS (hput_s _ _ _) (by omega) (by omega) dX3_empty_16 (fun H locs hV0 hA0 hS => ?_)
    rw [hput_hput] at hV0 hA0
    have he3 : (hput hp q1 (eI 64 (upd (fillF (-1) (fun _ => 0) i) (i) (-1)))) q1 = some (eI 64 (upd (fillF (-1) (fun _ => 0) i) (i) (-1))) := hput_s _ _ _
    refine lv_iinc (v := nI (i + 1)) (lv' := [(1, .int (nI (i + 1))), (0, .ref q1)]) hx hb dX3_empty_17 hl (k := 0) rfl (nI_add (i) 1) (by decide) rfl (fun ls hl => ?_)
    refine lv_goto (tgt := 7) hx hb dX3_empty_20 (by decide) ?_
    rw [fillF_s] at hV0 hA0
    exact ih7 _ H locs (by omega) rfl hV0 hA0 hS ls (lv_sub hl [0, 1] rfl)
