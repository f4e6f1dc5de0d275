/-! what a call of the law does: the class' answer and the model's -/
def mS (mo : Nat) (th : Int32) (d : Row) (V : BV) (rm dt : Int32) (hp : HP) : Prop := ∃ (dk lv nb : Nat) (lvl : Nat → Nat) (row : Nat → Nat → Nat), mA mo dk lv nb lvl row th d V rm dt hp ∧ mD dk row V
abbrev nX0 : Nat → Prop := fun _ => False
theorem mX0 {mo dk lv nb : Nat} {hp : HP} : mX nX0 mo dk lv nb hp := ⟨⟨id, id, id, id⟩, fun _ h => h.elim⟩
theorem mS_of {mo : Nat} {th : Int32} {d : Row} {V : BV} {rm dt : Int32} {hp0 hp : HP} (h : mP nX0 mo th d V rm dt hp0 hp) : mS mo th d V rm dt hp := by
  obtain ⟨dk, lv, nb, lvl, row, h1, -, h3, -⟩ := h
  exact ⟨dk, lv, nb, lvl, row, h1, h3⟩
def cvI (b : Int32) : Int64 := b.toInt64
def cvZ (b : Int32) : Int64 := if b = 0 then 0 else 1
def csH (l : Launch) (G : hG) (ad : Nat → Nat) (q mo : Nat) (hpX hpM : HP) (yh : MethodName) (wsh : List Cond) (ah : List Value) (ym : MethodName) (wsm : List Cond) (am : List Value) (cv : Int32 → Int64) : Prop :=
  ∃ (k : Nat) (v : Int64) (bb : Int32) (S2 : CS), k < 3 ∧ cI S2 ∧ (k = 0 → v = cv bb) ∧
    (∀ A, hIn A hpX → hWt l yh wsh 10 330 1 6 G A hpX ah (fun ro hp' => ro = some (.int (nI k)) ∧ cW ad S2 hp' ∧ ∃ f, hp' q = some (eJ 1 f) ∧ (k = 0 → f 0 = v))) ∧
    (∀ A, hIn A hpM → ∃ fr lo mc ms, fr ≤ 10 ∧ lo ≤ 330 ∧ mc ≤ 68 ∧ ms ≤ 1372 ∧ hWr l ym wsm fr lo mc ms G A hpM am (fun ro hp' => ro = some (.int bb) ∧ mS mo (nI k) (sF S2 0) (vw S2 0) (sR S2) (sD S2) hp'))
def csD (l : Launch) (G : hG) (ad : Nat → Nat) (q mo : Nat) (hpX hpM : HP) (yx : MethodName) (wsx : List Cond) (ym : MethodName) (wsm : List Cond) (gd : Value → Prop) : Prop :=
  ∃ (v : Value) (S2 : CS) (th2 : Int32), gd v ∧ cI S2 ∧
    (∀ A, hIn A hpX → ∃ fr lo, fr ≤ 10 ∧ lo ≤ 330 ∧ hWr l yx wsx fr lo 0 0 G A hpX [.ref (aX ad)] (fun ro hp' => ro = some v ∧ cW ad S2 hp' ∧ ∃ f, hp' q = some (eJ 1 f))) ∧
    (∀ A, hIn A hpM → ∃ fr lo mc ms, fr ≤ 10 ∧ lo ≤ 330 ∧ mc ≤ 68 ∧ ms ≤ 1372 ∧ hWr l ym wsm fr lo mc ms G A hpM [.ref mo] (fun ro hp' => ro = some v ∧ mS mo th2 (sF S2 0) (vw S2 0) (sR S2) (sD S2) hp'))
def gdI (v : Value) : Prop := ∃ r, v = .int r
def gdJ (v : Value) : Prop := ∃ r, v = .long r
def gdD (v : Value) : Prop := ∃ k, k ≤ 768 ∧ v = .double (mnV k)
theorem cW.putq {ad : Nat → Nat} {S : CS} {hp : HP} (h : cW ad S hp) {q : Nat} (hqk : ∀ key, key < 61 → q ≠ ad key) (e : hE) : cW ad S (hput hp q e) := ⟨h.1, h.2.1, fun key hk => (hput_n _ _ (hqk key hk).symm).trans (h.2.2 key hk)⟩
section CSB
variable {l : Launch} {G : hG} {ad : Nat → Nat} {S S2 : CS} {q mo : Nat} {hpX hpM : HP} {yh ym yx : MethodName} {wsh wsm wsx : List Cond} {ah am : List Value} {cv : Int32 → Int64} {fr lo mc ms k : Nat} {bb : Int32} {d2 : Row} {V2 : BV} {rm2 dt2 : Int32} {R1 : HP → Prop} {w : Int64}
theorem csH_thr (hh : ∀ A, hIn A hpX → hWt l yh wsh 10 330 1 6 G A hpX ah (fun ro hp' => ro = some (.int (nI k)) ∧ hp' = hpX)) (hk : k < 3) (hk0 : k ≠ 0)
    (hm : ∀ A, hIn A hpM → hWr l ym wsm fr lo mc ms G A hpM am (fun ro hp' => ro = some (.int bb) ∧ mP nX0 mo (nI k) (sF S 0) (vw S 0) (sR S) (sD S) hpM hp')) (hn : fr ≤ 10 ∧ lo ≤ 330 ∧ mc ≤ 68 ∧ ms ≤ 1372) (hC : cW ad S hpX) (hI : cI S) (hq : ∃ f, hpX q = some (eJ 1 f)) : csH l G ad q mo hpX hpM yh wsh ah ym wsm am cv := by
  obtain ⟨f, hf⟩ := hq
  exact ⟨k, 0, bb, S, hk, hI, fun z => absurd z hk0, fun A hA => hWt_imp (hh A hA) (fun ro hp' h => ⟨h.1, by rw [h.2]; exact hC, f, by rw [h.2]; exact hf, fun z => absurd z hk0⟩), fun A hA => ⟨fr, lo, mc, ms, hn.1, hn.2.1, hn.2.2.1, hn.2.2.2, hWr_imp (hm A hA) (fun ro hp' h => ⟨h.1, mS_of h.2⟩)⟩⟩
theorem csH_ok (hh : ∀ A, hIn A hpX → hWt l yh wsh 10 330 1 6 G A hpX ah (fun ro hp' => ro = some (.int (nI 0)) ∧ ∃ (hp1 : HP) (f1 : Nat → Int64), R1 hp1 ∧ hp' = hput hp1 q (eJ 1 f1) ∧ f1 0 = w)) (hR : ∀ hp1, R1 hp1 → cW ad S2 hp1) (hqk : ∀ key, key < 61 → q ≠ ad key) (hw : w = cv bb) (hI2 : cI S2)
    (hm : ∀ A, hIn A hpM → hWr l ym wsm fr lo mc ms G A hpM am (fun ro hp' => ro = some (.int bb) ∧ mP nX0 mo (nI 0) d2 V2 rm2 dt2 hpM hp')) (hn : fr ≤ 10 ∧ lo ≤ 330 ∧ mc ≤ 68 ∧ ms ≤ 1372) (he : d2 = sF S2 0 ∧ V2 = vw S2 0 ∧ rm2 = sR S2 ∧ dt2 = sD S2) : csH l G ad q mo hpX hpM yh wsh ah ym wsm am cv := by
  obtain ⟨rfl, rfl, rfl, rfl⟩ := he
  refine ⟨0, w, bb, S2, by decide, hI2, fun _ => hw, fun A hA => hWt_imp (hh A hA) (fun ro hp' h => ?_), fun A hA => ⟨fr, lo, mc, ms, hn.1, hn.2.1, hn.2.2.1, hn.2.2.2, hWr_imp (hm A hA) (fun ro hp' h => ⟨h.1, mS_of h.2⟩)⟩⟩
  obtain ⟨h1, hp1, f1, h2, rfl, h3⟩ := h
  exact ⟨h1, (hR _ h2).putq hqk _, f1, hput_s _ _ _, fun _ => h3⟩
theorem csD_of {frx lox : Nat} {v v2 : Value} {th2 : Int32} {gd : Value → Prop} (hg : gd v) (hI2 : cI S2) (hx : ∀ A, hIn A hpX → hWr l yx wsx frx lox 0 0 G A hpX [.ref (aX ad)] (fun ro hp' => ro = some v ∧ R1 hp')) (hnx : frx ≤ 10 ∧ lox ≤ 330) (hR : ∀ hp1, R1 hp1 → cW ad S2 hp1) (hRq : ∀ hp1, R1 hp1 → ∃ f, hp1 q = some (eJ 1 f))
    (hm : ∀ A, hIn A hpM → hWr l ym wsm fr lo mc ms G A hpM [.ref mo] (fun ro hp' => ro = some v2 ∧ mP nX0 mo th2 d2 V2 rm2 dt2 hpM hp')) (hn : fr ≤ 10 ∧ lo ≤ 330 ∧ mc ≤ 68 ∧ ms ≤ 1372) (he : v2 = v ∧ d2 = sF S2 0 ∧ V2 = vw S2 0 ∧ rm2 = sR S2 ∧ dt2 = sD S2) : csD l G ad q mo hpX hpM yx wsx ym wsm gd := by
  obtain ⟨rfl, rfl, rfl, rfl, rfl⟩ := he
  exact ⟨v2, S2, th2, hg, hI2, fun A hA => ⟨frx, lox, hnx.1, hnx.2, hWr_imp (hx A hA) (fun ro hp' h => ⟨h.1, hR _ h.2, hRq _ h.2⟩)⟩, fun A hA => ⟨fr, lo, mc, ms, hn.1, hn.2.1, hn.2.2.1, hn.2.2.2, hWr_imp (hm A hA) (fun ro hp' h => ⟨h.1, mS_of h.2⟩)⟩⟩
theorem cT_q {hp1 : HP} (h : cT ad hpX S2 hp1) (hqk : ∀ key, key < 61 → q ≠ ad key) (hq : ∃ f, hpX q = some (eJ 1 f)) : ∃ f, hp1 q = some (eJ 1 f) := by
  obtain ⟨f, hf⟩ := hq
  exact ⟨f, (h.2 q hqk).trans hf⟩
end CSB
theorem sw_v {v : Nat} (hv : v < 100) : sw (nI v) = nI v := sw_e (nIne2 hv) (fun z => by
  have h9 : (0 : Int32) ≤ nI v := nI_pos' (by omega)
  rw [z] at h9
  exact absurd h9 (by decide))
theorem sw_s : sw (-2) = -1 := by decide
theorem nok_wr {S : CS} (h : nOk S) (x : Nat) (v : Int32) : nOk (wrS S x v) := h
theorem ci_wr {S : CS} (h : cI S) (x : Nat) (v : Int32) : cI (wrS S x v) := h
theorem vw_wr (S : CS) (x : Nat) (v : Int32) : vw (wrS S x v) 0 = vw S 0 := uF0_N S _
theorem sF_wr (S : CS) (x : Nat) (v : Int32) : sF (wrS S x v) 0 = upd (sF S 0) x v := sF_uF _ _ _
theorem lk_put {S : CS} (hn : nOk S) (hI : cI S) {x : Nat} {v : Int32} (hz : ¬ szR (upd (sF S 0) x v) = 0) : emR = sF (bfS (wrS S x v)) 0 ∧ stB (cmB (vw S 0) 0 (upd (sF S 0) x v)) 4 = vw (bfS (wrS S x v)) 0 ∧ sR S = sR (bfS (wrS S x v)) ∧ sD S = sD (bfS (wrS S x v)) ∧ cI (bfS (wrS S x v)) := by
  obtain ⟨-, a2, a3, a4, a5, a6⟩ := lk_bf (nok_wr hn x v) (ci_wr hI x v) (by rw [sF_wr]; exact hz)
  rw [sF_wr, vw_wr] at a2
  exact ⟨a3.symm, a2.symm, a4.symm, a5.symm, a6⟩
theorem lk_mg {S : CS} (hn : nOk S) (hI : cI S) {l : Nat} (hl : l < 4) : sF S 0 = sF (stS (mgS S 0 l) 0 4) 0 ∧ stB (mgB (vw S 0) l) 4 = vw (stS (mgS S 0 l) 0 4) 0 ∧ sR S = sR (stS (mgS S 0 l) 0 4) ∧ sD S = sD (stS (mgS S 0 l) 0 4) ∧ cI (stS (mgS S 0 l) 0 4) := by
  have ho : oneB (sN S 0) l := oneB_all hI l
  obtain ⟨-, a2, a3, a4, a5, -⟩ := lk_st (k := 0) (by decide) (nok_mg hn hl ho) (mg_one hl ho) 4 (Nat.le_refl _)
  have hm := sF_mg (S := S) 0 l
  rw [vw_mg hn hl ho] at a2
  refine ⟨(a3.trans hm.1).symm, a2.symm, (a4.trans hm.2.1).symm, (a5.trans hm.2.2).symm, fun l2 h2 => ?_⟩
  have h6 := stB_two (V := mgB (vw S 0) l) (mgB_one (V := vw S 0) hl ho) l2 h2
  rw [← a2] at h6
  exact h6
theorem rngR (x : Int32) : (x < nI 1 ∨ nI 8 < x) ∨ ∃ r : Nat, 1 ≤ r ∧ r ≤ 8 ∧ x = nI r := by
  rcases Int32.lt_or_le x (nI 1) with h | h
  · exact Or.inl (Or.inl h)
  · rcases Int32.lt_or_le (nI 8) x with h2 | h2
    · exact Or.inl (Or.inr h2)
    · rcases rngI 9 (by decide) x with h3 | ⟨r, h3, rfl⟩
      · exfalso
        rcases h3 with h3 | h3
        · exact absurd (Int32.lt_of_le_of_lt h h3) (by decide)
        · exact absurd (Int32.le_trans h3 h2) (by decide)
      · exact Or.inr ⟨r, (nI_leI (by decide) (by omega)).mp h, by omega, rfl⟩

theorem gZ_spares_X3_fail : GoodIn wsZ_spares (wsV RX3 77 RX3 yX3_fail wsX3_fail) := gZl gX3_spares_X3_fail

set_option maxHeartbeats 1000000 in
set_option maxRecDepth 100000 in
theorem c_X3_sparesLz (l : Launch) (G : hG) (A : Nat → Prop) (hp : HP) (X : Nat → Prop) (mo dk lv nb : Nat) (lvl : Nat → Nat) (row : Nat → Nat → Nat) (th : Int32) (d : Row) (V : BV) (rm dt : Int32) (hm : mA mo dk lv nb lvl row th d V rm dt hp) (hX : mX X mo dk lv nb hp) (hD : mD dk row V) (x : Int32) (hb0 : x < 0 ∨ nI 4 ≤ x) (hA0 : hIn A hp) : hWr l yX3_spares wsZ_spares 2 42 0 0 G A hp [.ref mo, .int x] (fun ro hp' => ro = some (.int (nI 0)) ∧ mP X mo (nI 1) d V rm dt hp hp') := by
  refine Met.ofW (cc := cX3_spares) (maxL := 2) (ret := (some .int)) (by decide) rfl ?_
  intro p e s m args below meth c s₁ B hml hv
  obtain ⟨rfl, hV0, hK0, hA⟩ := hv
  have hx := B.exec
  have hb := B.bytes
  have hr := B.returns
  have hts := atoms_spec (ws := wsZ_spares) B.pre
  have hown : s.vm.findClass RX3 = some m.cls := findClass_of_methodNamed B.named
  have hlocks := B.notSynchronized
  have hF : CallFix p m c cX3_spares 2 s [.ref mo, .int x].toArray wsZ_spares RX3 := ⟨hx, hb, hml, hown, hts⟩
  have hw0 := hts (.fieldLink RX3 27 "SlipLevelsModel" "thrown" "I") (by decide +kernel)
  have hi3 : ∀ w ∈ u_ws RX3 TX3 4, w ∈ wsZ_spares := by
    intro w h
    unfold wsZ_spares wsX3_spares
    simp only [List.mem_cons, List.mem_append, h, true_or, or_true]
  have hS : va_S A s.heap s.heap [] := va_S.rf
  have hl := lv_entry ([.ref mo, .int x]) (n := 2) (Nat.le_of_ble_eq_true rfl)
  rw [lg_entry_eq]
  generalize (lg_sl ([.ref mo, .int x]) ++ List.replicate (2 - (lg_sl ([.ref mo, .int x])).length) Slot.unset).toArray = ls at hl ⊢
  replace hl : lv_has ls 2 [(0, .ref mo), (1, .int x)] := hl
  have hn := hm.le
  have hK : mKp X hp hp := mKp.rf
  refine lv_aload_n hx hb dX3_spares_0 rfl (lv_at hl 0 rfl) ?_
  refine lv_iconst (v := nI 0) hx hb dX3_spares_1 (by decide) ?_
  refine h_put (v := .int (nI 0)) hx hb hts hi3 tyX3 tyX3_ok nmX3 hown hK0 hV0 hA0 hS hm.cmo rfl 0 (by decide) hw0 rfl (by rfl) (by rfl) (Nat.le_of_ble_eq_true rfl) dX3_spares_2 (fun H locs hV0 hA0 hS => ?_)
  have hm : mA mo dk lv nb lvl row ((nI 0)) d V rm dt (hput hp mo (eO 3 [.int (nI 0), .ref dk, .ref lv, .ref nb])) := hm.setTh (nI 0)
  have hX : mX X mo dk lv nb (hput hp mo (eO 3 [.int (nI 0), .ref dk, .ref lv, .ref nb])) := hX.put _ _
  have hK : mKp X hp (hput hp mo (eO 3 [.int (nI 0), .ref dk, .ref lv, .ref nb])) := hK.put hX.1.1
  have hn := hm.le
  refine lv_iload_n hx hb dX3_spares_5 rfl (lv_at hl 1 rfl) ?_
  refine h_rdS (As := [.int x]) (rest := []) hF (c_X3_isLevel l G (hput hp mo (eO 3 [.int (nI 0), .ref dk, .ref lv, .ref nb])) (x)) 1 gZ_spares_X3_isLevel rfl (by decide +kernel) ⟨Nat.le_of_ble_eq_true rfl, Nat.le_of_ble_eq_true rfl⟩ hK0 hV0 rfl hl.1 rfl (Nat.le_of_ble_eq_true rfl) (Nat.le_of_ble_eq_true rfl) (Nat.le_of_ble_eq_true rfl) dX3_spares_6 ?_
  refine h_if_neB (tgt := 18) hx hb dX3_spares_9 (by decide) (fun c_9 => absurd ((isN_n (c := 3) hb0 (by omega)).symm.trans c_9) (by decide)) (fun c_9 => ?_)
  refine lv_aload_n hx hb dX3_spares_12 rfl (lv_at hl 0 rfl) ?_
  refine lv_iconst (v := nI 1) hx hb dX3_spares_13 (by decide) ?_
  refine h_wrV (As := [.int (nI 1)]) (rest := []) hF (c_X3_fail l G A (hput hp mo (eO 3 [.int (nI 0), .ref dk, .ref lv, .ref nb])) X mo dk lv nb lvl row ((nI 0)) d V rm dt hm hX 1 hD hA0) 1 gZ_spares_X3_fail rfl (by decide +kernel) ⟨Nat.le_of_ble_eq_true rfl, Nat.le_of_ble_eq_true rfl⟩ hK0 hV0 hA hS hm.cmo rfl rfl rfl hl.1 rfl (Nat.le_of_ble_eq_true rfl) ⟨Nat.le_of_ble_eq_true rfl, Nat.le_of_ble_eq_true rfl⟩ dX3_spares_14 (fun ro hp1 H locs hP1 hV0 hA0 hS => ?_)
  obtain ⟨rfl, lvl2, row2, hm2, hX2, hD2, hK2⟩ := hP1
  exact W.iret hx hb hr (h_qW ⟨rfl, dk, lv, nb, lvl2, row2, hm2, hX2, hD2, hK.tr hK2⟩ hV0 hA0 hS) hS.2.2 dX3_spares_17 hlocks

set_option maxHeartbeats 1000000 in
set_option maxRecDepth 100000 in
theorem c_X3_sparesNz (l : Launch) (G : hG) (A : Nat → Prop) (hp : HP) (X : Nat → Prop) (mo dk lv nb : Nat) (lvl : Nat → Nat) (row : Nat → Nat → Nat) (th : Int32) (d : Row) (V : BV) (rm dt : Int32) (hm : mA mo dk lv nb lvl row th d V rm dt hp) (hX : mX X mo dk lv nb hp) (hD : mD dk row V) (lz : Nat) (hl4 : lz < 4) (hz : bN V lz = 0) (hA0 : hIn A hp) : hWr l yX3_spares wsZ_spares 2 42 0 0 G A hp [.ref mo, .int (nI lz)] (fun ro hp' => ro = some (.int (-1)) ∧ mP X mo (nI 0) d V rm dt hp hp') := by
  refine Met.ofW (cc := cX3_spares) (maxL := 2) (ret := (some .int)) (by decide) rfl ?_
  intro p e s m args below meth c s₁ B hml hv
  obtain ⟨rfl, hV0, hK0, hA⟩ := hv
  have hx := B.exec
  have hb := B.bytes
  have hr := B.returns
  have hts := atoms_spec (ws := wsZ_spares) B.pre
  have hown : s.vm.findClass RX3 = some m.cls := findClass_of_methodNamed B.named
  have hlocks := B.notSynchronized
  have hF : CallFix p m c cX3_spares 2 s [.ref mo, .int (nI lz)].toArray wsZ_spares RX3 := ⟨hx, hb, hml, hown, hts⟩
  have hw0 := hts (.fieldLink RX3 27 "SlipLevelsModel" "thrown" "I") (by decide +kernel)
  have hw1 := hts (.fieldLink RX3 20 "SlipLevelsModel" "levels" "[[[I") (by decide +kernel)
  have hi3 : ∀ w ∈ u_ws RX3 TX3 4, w ∈ wsZ_spares := by
    intro w h
    unfold wsZ_spares wsX3_spares
    simp only [List.mem_cons, List.mem_append, h, true_or, or_true]
  have hS : va_S A s.heap s.heap [] := va_S.rf
  have hl := lv_entry ([.ref mo, .int (nI lz)]) (n := 2) (Nat.le_of_ble_eq_true rfl)
  rw [lg_entry_eq]
  generalize (lg_sl ([.ref mo, .int (nI lz)]) ++ List.replicate (2 - (lg_sl ([.ref mo, .int (nI lz)])).length) Slot.unset).toArray = ls at hl ⊢
  replace hl : lv_has ls 2 [(0, .ref mo), (1, .int (nI lz))] := hl
  have hn := hm.le
  have hK : mKp X hp hp := mKp.rf
  have hnl := hn lz
  refine lv_aload_n hx hb dX3_spares_0 rfl (lv_at hl 0 rfl) ?_
  refine lv_iconst (v := nI 0) hx hb dX3_spares_1 (by decide) ?_
  refine h_put (v := .int (nI 0)) hx hb hts hi3 tyX3 tyX3_ok nmX3 hown hK0 hV0 hA0 hS hm.cmo rfl 0 (by decide) hw0 rfl (by rfl) (by rfl) (Nat.le_of_ble_eq_true rfl) dX3_spares_2 (fun H locs hV0 hA0 hS => ?_)
  have hm : mA mo dk lv nb lvl row ((nI 0)) d V rm dt (hput hp mo (eO 3 [.int (nI 0), .ref dk, .ref lv, .ref nb])) := hm.setTh (nI 0)
  have hX : mX X mo dk lv nb (hput hp mo (eO 3 [.int (nI 0), .ref dk, .ref lv, .ref nb])) := hX.put _ _
  have hK : mKp X hp (hput hp mo (eO 3 [.int (nI 0), .ref dk, .ref lv, .ref nb])) := hK.put hX.1.1
  have hn := hm.le
  refine lv_iload_n hx hb dX3_spares_5 rfl (lv_at hl 1 rfl) ?_
  refine h_rdS (As := [.int (nI lz)]) (rest := []) hF (c_X3_isLevel l G (hput hp mo (eO 3 [.int (nI 0), .ref dk, .ref lv, .ref nb])) (nI lz)) 1 gZ_spares_X3_isLevel rfl (by decide +kernel) ⟨Nat.le_of_ble_eq_true rfl, Nat.le_of_ble_eq_true rfl⟩ hK0 hV0 rfl hl.1 rfl (Nat.le_of_ble_eq_true rfl) (Nat.le_of_ble_eq_true rfl) (Nat.le_of_ble_eq_true rfl) dX3_spares_6 ?_
  refine h_if_neB (tgt := 18) hx hb dX3_spares_9 (by decide) (fun c_9 => ?_) (fun c_9 => absurd ((isN_y (x := lz) (c := 3) (by omega) (by omega)).symm.trans c_9) (by decide))
  refine lv_aload_n hx hb dX3_spares_18 rfl (lv_at hl 0 rfl) ?_
  refine h_get (v := .ref lv) hx hb hts hi3 hown hK0 hV0 hm.cmo rfl 2 (by decide) hw1 rfl dX3_spares_19 ?_
  refine lv_iload_n hx hb dX3_spares_22 rfl (lv_at hl 1 rfl) ?_
  refine h_aaldE (i := lz) hm.clv hx hb hK0 hV0 rfl rfl (by omega) (by omega) dX3_spares_23 ?_
  refine h_alenQ (hm.clvl (l := lz) (by omega)) hx hb hK0 hV0 rfl dX3_spares_24 ?_
  refine h_if_ne (a := bN V lz) (tgt := 32) hx hb dX3_spares_25 (by decide) (by omega) (fun c_25 => absurd hz c_25) (fun c_25 => ?_)
  refine lv_iconst (v := (-1)) hx hb dX3_spares_28 (by decide) ?_
  refine lv_goto (tgt := 43) hx hb dX3_spares_29 (by decide) ?_
  exact W.iret hx hb hr (h_qW ⟨rfl, dk, lv, nb, lvl, row, hm, hX, hD, hK⟩ hV0 hA0 hS) hS.2.2 dX3_spares_43 hlocks

set_option maxHeartbeats 2000000 in
theorem cs_detours {l : Launch} (hlt : l.stackTraces = false) {G : hG} {ad : Nat → Nat} {S : CS} {q mo : Nat} {hpX hpM : HP} {th : Int32} (hC : cW ad S hpX) (hI : cI S) (hq : ∃ f, hpX q = some (eJ 1 f)) (hqk : ∀ key, key < 61 → q ≠ ad key) (hM : mS mo th (sF S 0) (vw S 0) (sR S) (sD S) hpM) (x : Int32) : csH l G ad q mo hpX hpM yL_detours wsL_detours [.ref (aX ad), .int x, .ref q] yX3_detours wsX3_detours [.ref mo, .int x] cvI := by
  obtain ⟨dk, lv, nb, lvl, row, hm, hD⟩ := hM
  rcases rngI 64 (by decide) x with h | ⟨n, hn, rfl⟩
  · exact csH_thr (k := 1) (fun A hA => hL_detours_IOE l G A hpX hA (aX ad) q x _ hC.xo 7 102 (by decide) (by decide) (t_detours l hlt G A hpX ad S hC x h)) (by decide) (by decide) (fun A hA => c_X3_detoursN l G A hpM nX0 mo dk lv nb lvl row th _ _ _ _ hm mX0 hD  x h hA) (by decide) hC hI hq
  · exact csH_ok (S2 := S) (fun A hA => hL_detours l G A hpX hA (aX ad) q (nI n) _ hC.xo 4 89 (by decide) (by decide) (fun hp1 => hp1 = hpX) _ (fun hp1 e => by rw [e]; exact hq) (rd_wr (c_X2_detours l G hpX ad S hC n hn) hA)) (fun hp1 e => by rw [e]; exact hC) hqk rfl hI (fun A hA => c_X3_detours l G A hpM nX0 mo dk lv nb lvl row th _ _ _ _ hm mX0 hD  n hn hA) (by decide) ⟨rfl, rfl, rfl, rfl⟩

set_option maxHeartbeats 2000000 in
theorem cs_next {l : Launch} (hlt : l.stackTraces = false) {G : hG} {ad : Nat → Nat} {S : CS} {q mo : Nat} {hpX hpM : HP} {th : Int32} (hC : cW ad S hpX) (hI : cI S) (hq : ∃ f, hpX q = some (eJ 1 f)) (hqk : ∀ key, key < 61 → q ≠ ad key) (hM : mS mo th (sF S 0) (vw S 0) (sR S) (sD S) hpM) (x : Int32) : csH l G ad q mo hpX hpM yL_next wsL_next [.ref (aX ad), .int x, .ref q] yX3_next wsX3_next [.ref mo, .int x] cvI := by
  obtain ⟨dk, lv, nb, lvl, row, hm, hD⟩ := hM
  rcases rngI 64 (by decide) x with h | ⟨n, hn, rfl⟩
  · exact csH_thr (k := 1) (fun A hA => hL_next_IOE l G A hpX hA (aX ad) q x _ hC.xo 7 102 (by decide) (by decide) (t_next l hlt G A hpX ad S hC x h)) (by decide) (by decide) (fun A hA => c_X3_nextN l G A hpM nX0 mo dk lv nb lvl row th _ _ _ _ hm mX0 hD  x h hA) (by decide) hC hI hq
  · exact csH_ok (S2 := S) (fun A hA => hL_next l G A hpX hA (aX ad) q (nI n) _ hC.xo 4 92 (by decide) (by decide) (fun hp1 => hp1 = hpX) _ (fun hp1 e => by rw [e]; exact hq) (rd_wr (c_X2_next l G hpX ad S hC n hn) hA)) (fun hp1 e => by rw [e]; exact hC) hqk rfl hI (fun A hA => c_X3_next l G A hpM nX0 mo dk lv nb lvl row th _ _ _ _ hm mX0 hD  n hn hA) (by decide) ⟨rfl, rfl, rfl, rfl⟩

set_option maxHeartbeats 2000000 in
theorem cs_sum {l : Launch} (hlt : l.stackTraces = false) {G : hG} {ad : Nat → Nat} {S : CS} {q mo : Nat} {hpX hpM : HP} {th : Int32} (hC : cW ad S hpX) (hI : cI S) (hq : ∃ f, hpX q = some (eJ 1 f)) (hqk : ∀ key, key < 61 → q ≠ ad key) (hM : mS mo th (sF S 0) (vw S 0) (sR S) (sD S) hpM) (x y : Int32) : csH l G ad q mo hpX hpM yL_sum wsL_sum [.ref (aX ad), .int x , .int y, .ref q] yX3_sum wsX3_sum [.ref mo, .int x , .int y] cvI := by
  obtain ⟨dk, lv, nb, lvl, row, hm, hD⟩ := hM
  rcases rngI 64 (by decide) x with h | ⟨n, hn, rfl⟩
  · exact csH_thr (k := 1) (fun A hA => hL_sum_IOE l G A hpX hA (aX ad) q x y _ hC.xo 7 102 (by decide) (by decide) (t_sumA l hlt G A hpX ad S hC y x h)) (by decide) (by decide) (fun A hA => c_X3_sumA l G A hpM nX0 mo dk lv nb lvl row th _ _ _ _ hm mX0 hD  y x h hA) (by decide) hC hI hq
  · rcases rngI 64 (by decide) y with h | ⟨n2, hn2, rfl⟩
    · exact csH_thr (k := 1) (fun A hA => hL_sum_IOE l G A hpX hA (aX ad) q (nI n) y _ hC.xo 7 102 (by decide) (by decide) (t_sumB l hlt G A hpX ad S hC n hn y h)) (by decide) (by decide) (fun A hA => c_X3_sumB l G A hpM nX0 mo dk lv nb lvl row th _ _ _ _ hm mX0 hD  n hn y h hA) (by decide) hC hI hq
    · rcases Nat.lt_or_ge n2 n with h | h
      · exact csH_thr (k := 2) (fun A hA => hL_sum_IAE l G A hpX hA (aX ad) q (nI n) (nI n2) _ hC.xo 6 82 (by decide) (by decide) (t_sumC l hlt G A hpX ad S hC n n2 hn hn2 h)) (by decide) (by decide) (fun A hA => c_X3_sumC l G A hpM nX0 mo dk lv nb lvl row th _ _ _ _ hm mX0 hD  n n2 hn hn2 h hA) (by decide) hC hI hq
      · exact csH_ok (S2 := S) (fun A hA => hL_sum l G A hpX hA (aX ad) q (nI n) (nI n2) _ hC.xo 4 92 (by decide) (by decide) (fun hp1 => hp1 = hpX) _ (fun hp1 e => by rw [e]; exact hq) (rd_wr (c_X2_sum l G hpX ad S hC n n2 h hn2) hA)) (fun hp1 e => by rw [e]; exact hC) hqk rfl hI (fun A hA => c_X3_sum l G A hpM nX0 mo dk lv nb lvl row th _ _ _ _ hm mX0 hD  n n2 h hn2 hA) (by decide) ⟨rfl, rfl, rfl, rfl⟩

set_option maxHeartbeats 2000000 in
theorem cs_run {l : Launch} (hlt : l.stackTraces = false) {G : hG} {ad : Nat → Nat} {S : CS} {q mo : Nat} {hpX hpM : HP} {th : Int32} (hC : cW ad S hpX) (hI : cI S) (hq : ∃ f, hpX q = some (eJ 1 f)) (hqk : ∀ key, key < 61 → q ≠ ad key) (hM : mS mo th (sF S 0) (vw S 0) (sR S) (sD S) hpM) (x y z : Int32) : csH l G ad q mo hpX hpM yL_run wsL_run [.ref (aX ad), .int x , .int y , .int z, .ref q] yX3_run wsX3_run [.ref mo, .int x , .int y , .int z] cvI := by
  obtain ⟨dk, lv, nb, lvl, row, hm, hD⟩ := hM
  rcases rngI 4 (by decide) x with h | ⟨n, hn, rfl⟩
  · exact csH_thr (k := 1) (fun A hA => hL_run_IOE l G A hpX hA (aX ad) q x y z _ hC.xo 7 102 (by decide) (by decide) (t_run l hlt G A hpX ad S hC y z x h)) (by decide) (by decide) (fun A hA => c_X3_runL l G A hpM nX0 mo dk lv nb lvl row th _ _ _ _ hm mX0 hD  y z x h hA) (by decide) hC hI hq
  · have hr31 : sN S 0 n < 2 ^ 31 := by have := hC.ok.2.1 0 n; omega
    rcases rngI (sN S 0 n) hr31 y with h | ⟨r, hr, rfl⟩
    · exact csH_thr (k := 1) (fun A hA => hL_run_IOE l G A hpX hA (aX ad) q (nI n) y z _ hC.xo 6 82 (by decide) (by decide) (t_runR l hlt G A hpX ad S hC n hn y z h)) (by decide) (by decide) (fun A hA => c_X3_runR l G A hpM nX0 mo dk lv nb lvl row th _ _ _ _ hm mX0 hD  n hn y z h hA) (by decide) hC hI hq
    · rcases rngI 6 (by decide) z with h | ⟨w, hw, rfl⟩
      · exact csH_thr (k := 1) (fun A hA => hL_run_IOE l G A hpX hA (aX ad) q (nI n) (nI r) z _ hC.xo 6 82 (by decide) (by decide) (t_runW l hlt G A hpX ad S hC n hn r hr z h)) (by decide) (by decide) (fun A hA => c_X3_runW l G A hpM nX0 mo dk lv nb lvl row th _ _ _ _ hm mX0 hD  n hn r hr z h hA) (by decide) hC hI hq
      · exact csH_ok (S2 := S) (fun A hA => hL_run l G A hpX hA (aX ad) q (nI n) (nI r) (nI w) _ hC.xo 5 120 (by decide) (by decide) (fun hp1 => hp1 = hpX) _ (fun hp1 e => by rw [e]; exact hq) (rd_wr (c_X2_run l G hpX ad S hC n hn r hr w hw) hA)) (fun hp1 e => by rw [e]; exact hC) hqk rfl hI (fun A hA => c_X3_run l G A hpM nX0 mo dk lv nb lvl row th _ _ _ _ hm mX0 hD  n hn r hr w hw hA) (by decide) ⟨rfl, rfl, rfl, rfl⟩

set_option maxHeartbeats 2000000 in
theorem cs_slip {l : Launch} (hlt : l.stackTraces = false) {G : hG} {ad : Nat → Nat} {S : CS} {q mo : Nat} {hpX hpM : HP} {th : Int32} (hC : cW ad S hpX) (hI : cI S) (hq : ∃ f, hpX q = some (eJ 1 f)) (hqk : ∀ key, key < 61 → q ≠ ad key) (hM : mS mo th (sF S 0) (vw S 0) (sR S) (sD S) hpM) (x y z : Int32) : csH l G ad q mo hpX hpM yL_slip wsL_slip [.ref (aX ad), .int x , .int y , .int z, .ref q] yX3_slip wsX3_slip [.ref mo, .int x , .int y , .int z] cvI := by
  obtain ⟨dk, lv, nb, lvl, row, hm, hD⟩ := hM
  rcases rngI 4 (by decide) x with h | ⟨n, hn, rfl⟩
  · exact csH_thr (k := 1) (fun A hA => hL_slip_IOE l G A hpX hA (aX ad) q x y z _ hC.xo 7 102 (by decide) (by decide) (t_slip l hlt G A hpX ad S hC y z x h)) (by decide) (by decide) (fun A hA => c_X3_slipL l G A hpM nX0 mo dk lv nb lvl row th _ _ _ _ hm mX0 hD  y z x h hA) (by decide) hC hI hq
  · have hr31 : sN S 0 n < 2 ^ 31 := by have := hC.ok.2.1 0 n; omega
    rcases rngI (sN S 0 n) hr31 y with h | ⟨r, hr, rfl⟩
    · exact csH_thr (k := 1) (fun A hA => hL_slip_IOE l G A hpX hA (aX ad) q (nI n) y z _ hC.xo 6 82 (by decide) (by decide) (t_slipR l hlt G A hpX ad S hC n hn y z h)) (by decide) (by decide) (fun A hA => c_X3_slipR l G A hpM nX0 mo dk lv nb lvl row th _ _ _ _ hm mX0 hD  n hn y z h hA) (by decide) hC hI hq
    · have hz9 := szR_le (gC S 0 n r)
      rcases rngI (szR (gC S 0 n r)) (by omega) z with h | ⟨w, hw, rfl⟩
      · exact csH_thr (k := 1) (fun A hA => hL_slip_IOE l G A hpX hA (aX ad) q (nI n) (nI r) z _ hC.xo 7 104 (by decide) (by decide) (t_slipP l hlt G A hpX ad S hC n hn r hr z h)) (by decide) (by decide) (fun A hA => c_X3_slipP l G A hpM nX0 mo dk lv nb lvl row th _ _ _ _ hm mX0 hD  n hn r hr z h hA) (by decide) hC hI hq
      · exact csH_ok (S2 := S) (fun A hA => hL_slip l G A hpX hA (aX ad) q (nI n) (nI r) (nI w) _ hC.xo 4 87 (by decide) (by decide) (fun hp1 => hp1 = hpX) _ (fun hp1 e => by rw [e]; exact hq) (rd_wr (c_X2_slip l G hpX ad S hC n hn r hr w hw) hA)) (fun hp1 e => by rw [e]; exact hC) hqk rfl hI (fun A hA => c_X3_slip l G A hpM nX0 mo dk lv nb lvl row th _ _ _ _ hm mX0 hD  n hn r hr w hw hA) (by decide) ⟨rfl, rfl, rfl, rfl⟩

set_option maxHeartbeats 2000000 in
theorem cs_desk {l : Launch} (hlt : l.stackTraces = false) {G : hG} {ad : Nat → Nat} {S : CS} {q mo : Nat} {hpX hpM : HP} {th : Int32} (hC : cW ad S hpX) (hI : cI S) (hq : ∃ f, hpX q = some (eJ 1 f)) (hqk : ∀ key, key < 61 → q ≠ ad key) (hM : mS mo th (sF S 0) (vw S 0) (sR S) (sD S) hpM) (x : Int32) : csH l G ad q mo hpX hpM yL_desk wsL_desk [.ref (aX ad), .int x, .ref q] yX3_desk wsX3_desk [.ref mo, .int x] cvI := by
  obtain ⟨dk, lv, nb, lvl, row, hm, hD⟩ := hM
  have hz9 := szR_le (sF S 0)
  rcases rngI (szR (sF S 0)) (by omega) x with h | ⟨n, hn, rfl⟩
  · exact csH_thr (k := 1) (fun A hA => hL_desk_IOE l G A hpX hA (aX ad) q x _ hC.xo 7 104 (by decide) (by decide) (t_desk l hlt G A hpX ad S hC x h)) (by decide) (by decide) (fun A hA => c_X3_deskN l G A hpM nX0 mo dk lv nb lvl row th _ _ _ _ hm mX0 hD  x h hA) (by decide) hC hI hq
  · exact csH_ok (S2 := S) (fun A hA => hL_desk l G A hpX hA (aX ad) q (nI n) _ hC.xo 4 87 (by decide) (by decide) (fun hp1 => hp1 = hpX) _ (fun hp1 e => by rw [e]; exact hq) (rd_wr (c_X2_desk l G hpX ad S hC n hn) hA)) (fun hp1 e => by rw [e]; exact hC) hqk rfl hI (fun A hA => c_X3_desk l G A hpM nX0 mo dk lv nb lvl row th _ _ _ _ hm mX0 hD  n hn hA) (by decide) ⟨rfl, rfl, rfl, rfl⟩

set_option maxHeartbeats 2000000 in
theorem cs_level {l : Launch} (hlt : l.stackTraces = false) {G : hG} {ad : Nat → Nat} {S : CS} {q mo : Nat} {hpX hpM : HP} {th : Int32} (hC : cW ad S hpX) (hI : cI S) (hq : ∃ f, hpX q = some (eJ 1 f)) (hqk : ∀ key, key < 61 → q ≠ ad key) (hM : mS mo th (sF S 0) (vw S 0) (sR S) (sD S) hpM) (x y : Int32) : csH l G ad q mo hpX hpM yL_level wsL_level [.ref (aX ad), .int x , .int y, .ref q] yX3_level wsX3_level [.ref mo, .int x , .int y] cvI := by
  obtain ⟨dk, lv, nb, lvl, row, hm, hD⟩ := hM
  rcases rngI 4 (by decide) x with h | ⟨n, hn, rfl⟩
  · exact csH_thr (k := 1) (fun A hA => hL_level_IOE l G A hpX hA (aX ad) q x y _ hC.xo 7 102 (by decide) (by decide) (t_level l hlt G A hpX ad S hC y x h)) (by decide) (by decide) (fun A hA => c_X3_levelL l G A hpM nX0 mo dk lv nb lvl row th _ _ _ _ hm mX0 hD  y x h hA) (by decide) hC hI hq
  · rcases rngI 3 (by decide) y with h | ⟨w, hw, rfl⟩
    · exact csH_thr (k := 1) (fun A hA => hL_level_IOE l G A hpX hA (aX ad) q (nI n) y _ hC.xo 6 82 (by decide) (by decide) (t_levelW l hlt G A hpX ad S hC n hn y h)) (by decide) (by decide) (fun A hA => c_X3_levelW l G A hpM nX0 mo dk lv nb lvl row th _ _ _ _ hm mX0 hD  n hn y h hA) (by decide) hC hI hq
    · rcases (show w = 0 ∨ w = 1 ∨ w = 2 by omega) with e | e | e <;> subst e
      · exact csH_ok (S2 := S) (fun A hA => hL_level l G A hpX hA (aX ad) q (nI n) (nI 0) _ hC.xo 2 47 (by decide) (by decide) (fun hp1 => hp1 = hpX) _ (fun hp1 e => by rw [e]; exact hq) (rd_wr (c_X2_level l G hpX ad S hC n hn 0 (by decide)) hA)) (fun hp1 e => by rw [e]; exact hC) hqk rfl hI (fun A hA => c_X3_level0 l G A hpM nX0 mo dk lv nb lvl row th _ _ _ _ hm mX0 hD  n hn hA) (by decide) ⟨rfl, rfl, rfl, rfl⟩
      · exact csH_ok (S2 := S) (fun A hA => hL_level l G A hpX hA (aX ad) q (nI n) (nI 1) _ hC.xo 2 47 (by decide) (by decide) (fun hp1 => hp1 = hpX) _ (fun hp1 e => by rw [e]; exact hq) (rd_wr (c_X2_level l G hpX ad S hC n hn 1 (by decide)) hA)) (fun hp1 e => by rw [e]; exact hC) hqk rfl hI (fun A hA => c_X3_level1 l G A hpM nX0 mo dk lv nb lvl row th _ _ _ _ hm mX0 hD  n hn hA) (by decide) ⟨rfl, rfl, rfl, rfl⟩
      · exact csH_ok (S2 := S) (fun A hA => hL_level l G A hpX hA (aX ad) q (nI n) (nI 2) _ hC.xo 2 47 (by decide) (by decide) (fun hp1 => hp1 = hpX) _ (fun hp1 e => by rw [e]; exact hq) (rd_wr (c_X2_level l G hpX ad S hC n hn 2 (by decide)) hA)) (fun hp1 e => by rw [e]; exact hC) hqk rfl hI (fun A hA => c_X3_level2 l G A hpM nX0 mo dk lv nb lvl row th _ _ _ _ hm mX0 hD  n hn hA) (by decide) ⟨rfl, rfl, rfl, rfl⟩

set_option maxHeartbeats 2000000 in
theorem cs_count {l : Launch} (hlt : l.stackTraces = false) {G : hG} {ad : Nat → Nat} {S : CS} {q mo : Nat} {hpX hpM : HP} {th : Int32} (hC : cW ad S hpX) (hI : cI S) (hq : ∃ f, hpX q = some (eJ 1 f)) (hqk : ∀ key, key < 61 → q ≠ ad key) (hM : mS mo th (sF S 0) (vw S 0) (sR S) (sD S) hpM) (x : Int32) : csH l G ad q mo hpX hpM yL_count wsL_count [.ref (aX ad), .int x, .ref q] yX3_count wsX3_count [.ref mo, .int x] cvI := by
  obtain ⟨dk, lv, nb, lvl, row, hm, hD⟩ := hM
  rcases rngI 7 (by decide) x with h | ⟨n, hn, rfl⟩
  · exact csH_thr (k := 1) (fun A hA => hL_count_IOE l G A hpX hA (aX ad) q x _ hC.xo 6 82 (by decide) (by decide) (t_count l hlt G A hpX ad S hC x h)) (by decide) (by decide) (fun A hA => c_X3_countN l G A hpM nX0 mo dk lv nb lvl row th _ _ _ _ hm mX0 hD  x h hA) (by decide) hC hI hq
  · exact csH_ok (S2 := S) (fun A hA => hL_count l G A hpX hA (aX ad) q (nI n) _ hC.xo 6 135 (by decide) (by decide) (fun hp1 => hp1 = hpX) _ (fun hp1 e => by rw [e]; exact hq) (rd_wr (c_X2_count l G hpX ad S hC n hn) hA)) (fun hp1 e => by rw [e]; exact hC) hqk rfl hI (fun A hA => c_X3_count l G A hpM nX0 mo dk lv nb lvl row th _ _ _ _ hm mX0 hD  n hn hA) (by decide) ⟨rfl, rfl, rfl, rfl⟩

set_option maxHeartbeats 2000000 in
theorem cs_read {l : Launch} (hlt : l.stackTraces = false) {G : hG} {ad : Nat → Nat} {S : CS} {q mo : Nat} {hpX hpM : HP} {th : Int32} (hC : cW ad S hpX) (hI : cI S) (hq : ∃ f, hpX q = some (eJ 1 f)) (hqk : ∀ key, key < 61 → q ≠ ad key) (hM : mS mo th (sF S 0) (vw S 0) (sR S) (sD S) hpM) (x : Int32) : csH l G ad q mo hpX hpM yL_read wsL_read [.ref (aX ad), .int x, .ref q] yX3_read wsX3_read [.ref mo, .int x] cvI := by
  obtain ⟨dk, lv, nb, lvl, row, hm, hD⟩ := hM
  rcases rngI 64 (by decide) x with h | ⟨n, hn, rfl⟩
  · exact csH_thr (k := 1) (fun A hA => hL_read_IOE l G A hpX hA (aX ad) q x _ hC.xo 7 102 (by decide) (by decide) (t_read l hlt G A hpX ad S hC x h)) (by decide) (by decide) (fun A hA => c_X3_readN l G A hpM nX0 mo dk lv nb lvl row th _ _ _ _ hm mX0 hD  x h hA) (by decide) hC hI hq
  · exact csH_ok (S2 := uD S (sD S + nI (dtS (sF S 0) (sN S 0) (gC S 0) n))) (fun A hA => hL_read l G A hpX hA (aX ad) q (nI n) _ hC.xo 4 92 (by decide) (by decide) (fun hp1 => cT ad hpX (uD S (sD S + nI (dtS (sF S 0) (sN S 0) (gC S 0) n))) hp1) _ (fun hp1 e => cT_q e hqk hq) (hWr_imp (c_X2_read l G A hpX ad S hC hI n hn hA) (fun ro hp' h => h))) (fun hp1 e => e.1) hqk rfl hI (fun A hA => c_X3_read l G A hpM nX0 mo dk lv nb lvl row th _ _ _ _ hm mX0 hD  n hn hA) (by decide) ⟨rfl, rfl, rfl, rfl⟩

set_option maxHeartbeats 2000000 in
theorem cs_spares {l : Launch} (hlt : l.stackTraces = false) {G : hG} {ad : Nat → Nat} {S : CS} {q mo : Nat} {hpX hpM : HP} {th : Int32} (hC : cW ad S hpX) (hI : cI S) (hq : ∃ f, hpX q = some (eJ 1 f)) (hqk : ∀ key, key < 61 → q ≠ ad key) (hM : mS mo th (sF S 0) (vw S 0) (sR S) (sD S) hpM) (x : Int32) : csH l G ad q mo hpX hpM yL_spares wsL_spares [.ref (aX ad), .int x, .ref q] yX3_spares wsZ_spares [.ref mo, .int x] cvI := by
  obtain ⟨dk, lv, nb, lvl, row, hm, hD⟩ := hM
  have hn := hC.ok.n
  rcases rngI 4 (by decide) x with h | ⟨n, hn4, rfl⟩
  · exact csH_thr (k := 1) (fun A hA => hL_spares_IOE l G A hpX hA (aX ad) q x _ hC.xo 7 102 (by decide) (by decide) (t_spares l hlt G A hpX ad S hC x h)) (by decide) (by decide) (fun A hA => c_X3_sparesLz l G A hpM nX0 mo dk lv nb lvl row th _ _ _ _ hm mX0 hD  x h hA) (by decide) hC hI hq
  · by_cases hz : sN S 0 n = 0
    · exact csH_ok (S2 := S) (fun A hA => hL_spares l G A hpX hA (aX ad) q (nI n) _ hC.xo 1 21 (by decide) (by decide) (fun hp1 => cT ad hpX (S) hp1) _ (fun hp1 e => cT_q e hqk hq) (hWr_imp (c_X2_sparesN l G A hpX ad S hC hI n hn4 hz hA) (fun ro hp' h => h))) (fun hp1 e => e.1) hqk rfl hI (fun A hA => c_X3_sparesNz l G A hpM nX0 mo dk lv nb lvl row th _ _ _ _ hm mX0 hD n hn4 hz hA) (by decide) ⟨rfl, rfl, rfl, rfl⟩
    · obtain ⟨-, a2, a3, a4, a5, a6, -⟩ := lk_tm hn hI hn4
      exact csH_ok (S2 := tmS S n) (fun A hA => hL_spares l G A hpX hA (aX ad) q (nI n) _ hC.xo 6 134 (by decide) (by decide) (fun hp1 => cT ad hpX (tmS S n) hp1) _ (fun hp1 e => cT_q e hqk hq) (hWr_imp (c_X2_spares l G A hpX ad S hC hI n hn4 hz hA) (fun ro hp' h => h))) (fun hp1 e => e.1) hqk (by rw [lk_sl0 hn hI hn4, lk_sl1 hn hI hn4]; rfl) a6 (fun A hA => c_X3_spares l G A hpM nX0 mo dk lv nb lvl row th _ _ _ _ hm mX0 hD hI n hn4 hz hA) (by decide) ⟨a3.symm, a2.symm, a4.symm, a5.symm⟩

set_option maxHeartbeats 2000000 in
theorem cs_write {l : Launch} (hlt : l.stackTraces = false) {G : hG} {ad : Nat → Nat} {S : CS} {q mo : Nat} {hpX hpM : HP} {th : Int32} (hC : cW ad S hpX) (hI : cI S) (hq : ∃ f, hpX q = some (eJ 1 f)) (hqk : ∀ key, key < 61 → q ≠ ad key) (hM : mS mo th (sF S 0) (vw S 0) (sR S) (sD S) hpM) (x y : Int32) : csH l G ad q mo hpX hpM yL_write wsL_write [.ref (aX ad), .int x , .int y, .ref q] yX3_write wsX3_write [.ref mo, .int x , .int y] cvZ := by
  obtain ⟨dk, lv, nb, lvl, row, hm, hD⟩ := hM
  rcases rngI 64 (by decide) x with h | ⟨n, hn4, rfl⟩
  · exact csH_thr (k := 1) (fun A hA => hL_write_IOE l G A hpX hA (aX ad) q x y _ hC.xo 7 102 (by decide) (by decide) (t_write l hlt G A hpX ad S hC y x h)) (by decide) (by decide) (fun A hA => c_X3_writeN l G A hpM nX0 mo dk lv nb lvl row th _ _ _ _ hm mX0 hD  y x h hA) (by decide) hC hI hq
  · rcases rngI 100 (by decide) y with h | ⟨w, hw, rfl⟩
    · exact csH_thr (k := 2) (fun A hA => hL_write_IAE l G A hpX hA (aX ad) q (nI n) y _ hC.xo 6 82 (by decide) (by decide) (t_writeW l hlt G A hpX ad S hC n hn4 y h)) (by decide) (by decide) (fun A hA => c_X3_writeW l G A hpM nX0 mo dk lv nb lvl row th _ _ _ _ hm mX0 hD  n hn4 y h hA) (by decide) hC hI hq
    · have hF9 : upd (sF S 0) n (sw (nI w)) = (upd (sF S 0) n (nI w)) := by rw [sw_v hw]
      have hz9 : ¬ szR (upd (sF S 0) n (nI w)) = 0 := by have := szR_put (f := sF S 0) (x := n) (v := (nI w)) hn4 (nIne2 hw); omega
      by_cases hlt2 : nI (szR (upd (sF S 0) n (nI w))) < sR S
      · have hle2 : ¬ sR S ≤ nI (szR (upd (sF S 0) n (sw (nI w)))) := by rw [hF9]; exact Int32.not_le.mpr hlt2
        exact csH_ok (S2 := wrS S n (nI w)) (fun A hA => hL_write l G A hpX hA (aX ad) q (nI n) (nI w) _ hC.xo 6 135 (by decide) (by decide) (fun hp1 => cT ad hpX (wrS S n (nI w)) hp1) false (fun hp1 e => cT_q e hqk hq) (hWr_imp (c_X2_write l G A hpX ad S hC hI n w hn4 hw hA) (fun ro hp' h => by rw [sF_wr] at h; obtain ⟨h1, h2⟩ := h; rw [if_pos hlt2] at h1 h2; exact ⟨h1, h2⟩))) (fun hp1 e => e.1) hqk (by rw [decide_eq_false hle2]; rfl) (ci_wr hI _ _) (fun A hA => c_X3_write l G A hpM nX0 mo dk lv nb lvl row th _ _ _ _ hm mX0 hD hI n w hn4 hw hA) (by decide) ⟨by rw [if_neg hle2, hF9, sF_wr], by rw [if_neg hle2, vw_wr], rfl, rfl⟩
      · have hle2 : sR S ≤ nI (szR (upd (sF S 0) n (sw (nI w)))) := by rw [hF9]; exact Int32.not_lt.mp hlt2
        obtain ⟨b1, b2, b3, b4, b5⟩ := lk_put (x := n) (v := (nI w)) hC.ok.n hI hz9
        exact csH_ok (S2 := bfS (wrS S n (nI w))) (fun A hA => hL_write l G A hpX hA (aX ad) q (nI n) (nI w) _ hC.xo 6 135 (by decide) (by decide) (fun hp1 => cT ad hpX (bfS (wrS S n (nI w))) hp1) true (fun hp1 e => cT_q e hqk hq) (hWr_imp (c_X2_write l G A hpX ad S hC hI n w hn4 hw hA) (fun ro hp' h => by rw [sF_wr] at h; obtain ⟨h1, h2⟩ := h; rw [if_neg hlt2] at h1 h2; exact ⟨h1, h2⟩))) (fun hp1 e => e.1) hqk (by rw [decide_eq_true hle2]; rfl) b5 (fun A hA => c_X3_write l G A hpM nX0 mo dk lv nb lvl row th _ _ _ _ hm mX0 hD hI n w hn4 hw hA) (by decide) ⟨by rw [if_pos hle2]; exact b1, by rw [if_pos hle2, hF9]; exact b2, b3, b4⟩

set_option maxHeartbeats 2000000 in
theorem cs_strike {l : Launch} (hlt : l.stackTraces = false) {G : hG} {ad : Nat → Nat} {S : CS} {q mo : Nat} {hpX hpM : HP} {th : Int32} (hC : cW ad S hpX) (hI : cI S) (hq : ∃ f, hpX q = some (eJ 1 f)) (hqk : ∀ key, key < 61 → q ≠ ad key) (hM : mS mo th (sF S 0) (vw S 0) (sR S) (sD S) hpM) (x : Int32) : csH l G ad q mo hpX hpM yL_strike wsL_strike [.ref (aX ad), .int x, .ref q] yX3_strike wsX3_strike [.ref mo, .int x] cvZ := by
  obtain ⟨dk, lv, nb, lvl, row, hm, hD⟩ := hM
  rcases rngI 64 (by decide) x with h | ⟨n, hn4, rfl⟩
  · exact csH_thr (k := 1) (fun A hA => hL_strike_IOE l G A hpX hA (aX ad) q x _ hC.xo 7 102 (by decide) (by decide) (t_strike l hlt G A hpX ad S hC x h)) (by decide) (by decide) (fun A hA => c_X3_strikeN l G A hpM nX0 mo dk lv nb lvl row th _ _ _ _ hm mX0 hD  x h hA) (by decide) hC hI hq
  · have hF9 : upd (sF S 0) n (sw (-2)) = (upd (sF S 0) n (-1)) := by rw [sw_s]
    have hz9 : ¬ szR (upd (sF S 0) n (-1)) = 0 := by have := szR_put (f := sF S 0) (x := n) (v := (-1)) hn4 (by decide); omega
    by_cases hlt2 : nI (szR (upd (sF S 0) n (-1))) < sR S
    · have hle2 : ¬ sR S ≤ nI (szR (upd (sF S 0) n (sw (-2)))) := by rw [hF9]; exact Int32.not_le.mpr hlt2
      exact csH_ok (S2 := wrS S n (-1)) (fun A hA => hL_strike l G A hpX hA (aX ad) q (nI n) _ hC.xo 6 135 (by decide) (by decide) (fun hp1 => cT ad hpX (wrS S n (-1)) hp1) false (fun hp1 e => cT_q e hqk hq) (hWr_imp (c_X2_strike l G A hpX ad S hC hI n hn4 hA) (fun ro hp' h => by rw [sF_wr] at h; obtain ⟨h1, h2⟩ := h; rw [if_pos hlt2] at h1 h2; exact ⟨h1, h2⟩))) (fun hp1 e => e.1) hqk (by rw [decide_eq_false hle2]; rfl) (ci_wr hI _ _) (fun A hA => c_X3_strike l G A hpM nX0 mo dk lv nb lvl row th _ _ _ _ hm mX0 hD hI n hn4 hA) (by decide) ⟨by rw [if_neg hle2, hF9, sF_wr], by rw [if_neg hle2, vw_wr], rfl, rfl⟩
    · have hle2 : sR S ≤ nI (szR (upd (sF S 0) n (sw (-2)))) := by rw [hF9]; exact Int32.not_lt.mp hlt2
      obtain ⟨b1, b2, b3, b4, b5⟩ := lk_put (x := n) (v := (-1)) hC.ok.n hI hz9
      exact csH_ok (S2 := bfS (wrS S n (-1))) (fun A hA => hL_strike l G A hpX hA (aX ad) q (nI n) _ hC.xo 6 135 (by decide) (by decide) (fun hp1 => cT ad hpX (bfS (wrS S n (-1))) hp1) true (fun hp1 e => cT_q e hqk hq) (hWr_imp (c_X2_strike l G A hpX ad S hC hI n hn4 hA) (fun ro hp' h => by rw [sF_wr] at h; obtain ⟨h1, h2⟩ := h; rw [if_neg hlt2] at h1 h2; exact ⟨h1, h2⟩))) (fun hp1 e => e.1) hqk (by rw [decide_eq_true hle2]; rfl) b5 (fun A hA => c_X3_strike l G A hpM nX0 mo dk lv nb lvl row th _ _ _ _ hm mX0 hD hI n hn4 hA) (by decide) ⟨by rw [if_pos hle2]; exact b1, by rw [if_pos hle2, hF9]; exact b2, b3, b4⟩

set_option maxHeartbeats 2000000 in
theorem cs_setRoom {l : Launch} (hlt : l.stackTraces = false) {G : hG} {ad : Nat → Nat} {S : CS} {q mo : Nat} {hpX hpM : HP} {th : Int32} (hC : cW ad S hpX) (hI : cI S) (hq : ∃ f, hpX q = some (eJ 1 f)) (hqk : ∀ key, key < 61 → q ≠ ad key) (hM : mS mo th (sF S 0) (vw S 0) (sR S) (sD S) hpM) (x : Int32) : csH l G ad q mo hpX hpM yL_setRoom wsL_setRoom [.ref (aX ad), .int x, .ref q] yX3_setRoom wsX3_setRoom [.ref mo, .int x] cvI := by
  obtain ⟨dk, lv, nb, lvl, row, hm, hD⟩ := hM
  rcases rngR x with h | ⟨r, h1, h8, rfl⟩
  · exact csH_thr (k := 1) (fun A hA => hL_setRoom_IAE l G A hpX hA (aX ad) q x _ hC.xo 6 82 (by decide) (by decide) (t_setRoom l hlt G A hpX ad S hC x h)) (by decide) (by decide) (fun A hA => c_X3_setRoomN l G A hpM nX0 mo dk lv nb lvl row th _ _ _ _ hm mX0 hD  x h hA) (by decide) hC hI hq
  · have hz9 := szR_le (sF S 0)
    by_cases hlt2 : nI (szR (sF S 0)) < nI r
    · have hlt3 : szR (sF S 0) < r := (nI_ltI (by omega) (by omega)).mp hlt2
      exact csH_ok (S2 := uR S (nI r)) (fun A hA => hL_setRoom l G A hpX hA (aX ad) q (nI r) _ hC.xo 6 135 (by decide) (by decide) (fun hp1 => cT ad hpX (uR S (nI r)) hp1) _ (fun hp1 e => cT_q e hqk hq) (hWr_imp (c_X2_setRoom l G A hpX ad S hC hI r h1 h8 hA) (fun ro hp' h => by rw [if_pos hlt2] at h; exact h))) (fun hp1 e => e.1) hqk rfl hI (fun A hA => c_X3_setRoom l G A hpM nX0 mo dk lv nb lvl row th _ _ _ _ hm mX0 hD hI r h1 h8 hA) (by decide) ⟨by rw [if_pos hlt3]; rfl, by rw [if_pos hlt3]; rfl, rfl, rfl⟩
    · have hlt3 : ¬ szR (sF S 0) < r := fun z => hlt2 ((nI_ltI (by omega) (by omega)).mpr z)
      obtain ⟨-, a2, a3, a4, a5, a6⟩ := lk_bf (S := uR S (nI r)) hC.ok.n hI (show ¬ szR (sF S 0) = 0 by omega)
      exact csH_ok (S2 := bfS (uR S (nI r))) (fun A hA => hL_setRoom l G A hpX hA (aX ad) q (nI r) _ hC.xo 6 135 (by decide) (by decide) (fun hp1 => cT ad hpX (bfS (uR S (nI r))) hp1) _ (fun hp1 e => cT_q e hqk hq) (hWr_imp (c_X2_setRoom l G A hpX ad S hC hI r h1 h8 hA) (fun ro hp' h => by rw [if_neg hlt2] at h; exact h))) (fun hp1 e => e.1) hqk rfl a6 (fun A hA => c_X3_setRoom l G A hpM nX0 mo dk lv nb lvl row th _ _ _ _ hm mX0 hD hI r h1 h8 hA) (by decide) ⟨by rw [if_neg hlt3]; exact a3.symm, by rw [if_neg hlt3]; exact a2.symm, a4.symm, a5.symm⟩

set_option maxHeartbeats 2000000 in
theorem cs_merge {l : Launch} (hlt : l.stackTraces = false) {G : hG} {ad : Nat → Nat} {S : CS} {q mo : Nat} {hpX hpM : HP} {th : Int32} (hC : cW ad S hpX) (hI : cI S) (hq : ∃ f, hpX q = some (eJ 1 f)) (hqk : ∀ key, key < 61 → q ≠ ad key) (hM : mS mo th (sF S 0) (vw S 0) (sR S) (sD S) hpM) (x : Int32) : csH l G ad q mo hpX hpM yL_merge wsL_merge [.ref (aX ad), .int x, .ref q] yX3_merge wsX3_merge [.ref mo, .int x] cvI := by
  obtain ⟨dk, lv, nb, lvl, row, hm, hD⟩ := hM
  rcases rngI 4 (by decide) x with h | ⟨n, hn4, rfl⟩
  · exact csH_thr (k := 1) (fun A hA => hL_merge_IOE l G A hpX hA (aX ad) q x _ hC.xo 7 102 (by decide) (by decide) (t_merge l hlt G A hpX ad S hC x h)) (by decide) (by decide) (fun A hA => c_X3_mergeL l G A hpM nX0 mo dk lv nb lvl row th _ _ _ _ hm mX0 hD  x h hA) (by decide) hC hI hq
  · by_cases hz : sN S 0 n = 0
    · exact csH_thr (k := 2) (fun A hA => hL_merge_ISE l G A hpX hA (aX ad) q (nI n) _ hC.xo 6 82 (by decide) (by decide) (t_mergeN l hlt G A hpX ad S hC n hn4 hz)) (by decide) (by decide) (fun A hA => c_X3_mergeN l G A hpM nX0 mo dk lv nb lvl row th _ _ _ _ hm mX0 hD  n hn4 hz hA) (by decide) hC hI hq
    · obtain ⟨b1, b2, b3, b4, b5⟩ := lk_mg hC.ok.n hI hn4
      have hv9 : sV (stS (mgS S 0 n) 0 4) 0 = bM (stB (mgB (vw S 0) n) 4) := by rw [b2, vw_M]
      exact csH_ok (S2 := stS (mgS S 0 n) 0 4) (fun A hA => hL_merge l G A hpX hA (aX ad) q (nI n) _ hC.xo 5 113 (by decide) (by decide) (fun hp1 => cT ad hpX (stS (mgS S 0 n) 0 4) hp1) _ (fun hp1 e => cT_q e hqk hq) (hWr_imp (c_X2_merge l G A hpX ad S hC hI n hn4 hz hA) (fun ro hp' h => h))) (fun hp1 e => e.1) hqk (by rw [hv9]; rfl) b5 (fun A hA => c_X3_merge l G A hpM nX0 mo dk lv nb lvl row th _ _ _ _ hm mX0 hD hI n hn4 hz hA) (by decide) ⟨b1, b2, b3, b4⟩

set_option maxHeartbeats 2000000 in
theorem cs_bind {l : Launch} (hlt : l.stackTraces = false) {G : hG} {ad : Nat → Nat} {S : CS} {q mo : Nat} {hpX hpM : HP} {th : Int32} (hC : cW ad S hpX) (hI : cI S) (hq : ∃ f, hpX q = some (eJ 1 f)) (hqk : ∀ key, key < 61 → q ≠ ad key) (hM : mS mo th (sF S 0) (vw S 0) (sR S) (sD S) hpM) : csD l G ad q mo hpX hpM yX2_bind wsX2_bind yX3_bind wsX3_bind gdI := by
  obtain ⟨dk, lv, nb, lvl, row, hm, hD⟩ := hM
  by_cases hz : szR (sF S 0) = 0
  · exact csD_of (v := .int 0) (S2 := S) (R1 := fun hp1 => cT ad hpX (S) hp1) ⟨0, rfl⟩ hI (fun A hA => hWr_imp (c_X2_bind l G A hpX ad S hC hI hA) (fun ro hp' h => by rw [if_pos hz, if_pos hz] at h; exact h)) (by decide) (fun hp1 e => e.1) (fun hp1 e => cT_q e hqk hq) (fun A hA => c_X3_bindN l G A hpM nX0 mo dk lv nb lvl row th _ _ _ _ hm mX0 hD hz hA) (by decide) ⟨rfl, rfl, rfl, rfl, rfl⟩
  · obtain ⟨-, a2, a3, a4, a5, a6⟩ := lk_bf hC.ok.n hI hz
    have hv9 : sV (bfS S) 0 = bM (stB (cmB (vw S 0) 0 (sF S 0)) 4) := by rw [← a2, vw_M]
    exact csD_of (v := .int (sV (bfS S) 0 - sV S 0)) (S2 := bfS S) (R1 := fun hp1 => cT ad hpX (bfS S) hp1) ⟨_, rfl⟩ a6 (fun A hA => hWr_imp (c_X2_bind l G A hpX ad S hC hI hA) (fun ro hp' h => by rw [if_neg hz, if_neg hz] at h; exact h)) (by decide) (fun hp1 e => e.1) (fun hp1 e => cT_q e hqk hq) (fun A hA => c_X3_bind l G A hpM nX0 mo dk lv nb lvl row th _ _ _ _ hm mX0 hD hI hz hA) (by decide) ⟨by rw [hv9]; rfl, a3.symm, a2.symm, a4.symm, a5.symm⟩

set_option maxHeartbeats 2000000 in
theorem cs_advise {l : Launch} (hlt : l.stackTraces = false) {G : hG} {ad : Nat → Nat} {S : CS} {q mo : Nat} {hpX hpM : HP} {th : Int32} (hC : cW ad S hpX) (hI : cI S) (hq : ∃ f, hpX q = some (eJ 1 f)) (hqk : ∀ key, key < 61 → q ≠ ad key) (hM : mS mo th (sF S 0) (vw S 0) (sR S) (sD S) hpM) : csD l G ad q mo hpX hpM yX2_advise wsX2_advise yX3_advise wsZ_advise gdI := by
  obtain ⟨dk, lv, nb, lvl, row, hm, hD⟩ := hM
  obtain ⟨-, a2, a3, a4, a5, a6, -, -⟩ := lk_av hC.ok.n hI 4 (Nat.le_refl _)
  exact csD_of (v := .int (avS S 4).2.1) (S2 := (avS S 4).1) (R1 := fun hp1 => cT ad hpX ((avS S 4).1) hp1) ⟨_, rfl⟩ (cI_avS hI 4) (fun A hA => hWr_imp (c_X2_advise l G A hpX ad S hC hI hA) (fun ro hp' h => h)) (by decide) (fun hp1 e => e.1) (fun hp1 e => cT_q e hqk hq) (fun A hA => c_X3_advise l G A hpM nX0 mo dk lv nb lvl row th _ _ _ _ hm mX0 hD hI hA) (by decide) ⟨by rw [a6], a3.symm, a2.symm, a4.symm, a5.symm⟩

set_option maxHeartbeats 2000000 in
theorem cs_mean {l : Launch} (hlt : l.stackTraces = false) {G : hG} {ad : Nat → Nat} {S : CS} {q mo : Nat} {hpX hpM : HP} {th : Int32} (hC : cW ad S hpX) (hI : cI S) (hq : ∃ f, hpX q = some (eJ 1 f)) (hqk : ∀ key, key < 61 → q ≠ ad key) (hM : mS mo th (sF S 0) (vw S 0) (sR S) (sD S) hpM) : csD l G ad q mo hpX hpM yX2_mean wsX2_mean yX3_mean wsX3_mean gdD := by
  obtain ⟨dk, lv, nb, lvl, row, hm, hD⟩ := hM
  exact csD_of (S2 := S) (R1 := fun hp1 => hp1 = hpX) ⟨_, allD_le (d := sF S 0) (g := gC S 0) (fun l => hC.ok.2.1 0 l), rfl⟩ hI (fun A hA => rd_wr (c_X2_mean l G hpX ad S hC) hA) (by decide) (fun hp1 e => by rw [e]; exact hC) (fun hp1 e => by rw [e]; exact hq) (fun A hA => c_X3_mean l G A hpM nX0 mo dk lv nb lvl row th _ _ _ _ hm mX0 hD   hA) (by decide) ⟨rfl, rfl, rfl, rfl, rfl⟩

set_option maxHeartbeats 2000000 in
theorem cs_digest {l : Launch} (hlt : l.stackTraces = false) {G : hG} {ad : Nat → Nat} {S : CS} {q mo : Nat} {hpX hpM : HP} {th : Int32} (hC : cW ad S hpX) (hI : cI S) (hq : ∃ f, hpX q = some (eJ 1 f)) (hqk : ∀ key, key < 61 → q ≠ ad key) (hM : mS mo th (sF S 0) (vw S 0) (sR S) (sD S) hpM) : csD l G ad q mo hpX hpM yX2_digest wsX2_digest yX3_digest wsX3_digest gdJ := by
  obtain ⟨dk, lv, nb, lvl, row, hm, hD⟩ := hM
  exact csD_of (S2 := S) (R1 := fun hp1 => hp1 = hpX) ⟨_, rfl⟩ hI (fun A hA => rd_wr (c_X2_digest l G hpX ad S hC) hA) (by decide) (fun hp1 e => by rw [e]; exact hC) (fun hp1 e => by rw [e]; exact hq) (fun A hA => c_X3_digest l G A hpM nX0 mo dk lv nb lvl row th _ _ _ _ hm mX0 hD   hA) (by decide) ⟨rfl, rfl, rfl, rfl, rfl⟩
