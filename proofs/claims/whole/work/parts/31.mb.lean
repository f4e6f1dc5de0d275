/-! the model: tried, spares, advise, its making -/
theorem fit_arr {c : ClassId} {n : Nat} {g : Nat → Value} {ty : FieldType} (h : ∀ i, fits ty (g i) = true) : ∀ (i : Nat) (v : Value), (arrV c n g).slots[i]? = some v → fits ty v = true := fun i v hv => by
  have hi : i < n := by
    have h1 := (Array.getElem?_eq_some_iff.mp hv).1
    rwa [arrV_size] at h1
  rw [arrV_read _ _ hi] at hv
  cases hv
  exact h i
theorem fitI (c : ClassId) (n : Nat) (f : Nat → Int32) : ∀ (i : Nat) (v : Value), (vp_cell c (n, .inl f)).slots[i]? = some v → fits .int v = true := fit_arr (c := c) (n := n) (g := fun j => .int (f j)) (fun _ => rfl)
theorem fitQ (c : ClassId) (n : Nat) (f : Nat → Option Nat) : ∀ (i : Nat) (v : Value), (vp_cell c (n, .inr (.inr (.inr (.inr f))))).slots[i]? = some v → fits (.array (.array .int)) v = true := fit_arr (c := c) (n := n) (g := fun j => va_rf (f j)) (fun i => by
  show fits _ (va_rf (f i)) = true
  cases f i <;> rfl)
def trX (X : Nat → Prop) (lvl : Nat → Nat) (row : Nat → Nat → Nat) (V : BV) (k1 k2 : Nat) : Nat → Prop := fun q => X q ∨ q = k1 ∨ q = k2 ∨ (∃ l, l < 4 ∧ q = lvl l) ∨ ∃ l r, l < 4 ∧ r < bN V l ∧ q = row l r
section TRD
variable {X : Nat → Prop} {mo dk lv nb k1 k2 : Nat} {lvl lvl9 : Nat → Nat} {row row9 : Nat → Nat → Nat} {th : Int32} {d : Row} {V V9 : BV} {rm dt : Int32} {hp hp9 : HP}
theorem trX_m (h : mA mo dk lv nb lvl row th d V rm dt hp) (hX : mX X mo dk lv nb hp) (hD : mD dk row V) (n1 : mNe mo dk lv nb lvl row V k1) (n2 : mNe mo dk lv nb lvl row V k2) (e1 : ∃ e, hp k1 = some e) (e2 : ∃ e, hp k2 = some e) : mX (trX X lvl row V k1 k2) mo dk lv nb hp := by
  have key : ∀ q, ¬ X q → q ≠ k1 → q ≠ k2 → (∀ l, l < 4 → q ≠ lvl l) → (∀ l r, l < 4 → r < bN V l → q ≠ row l r) → ¬ trX X lvl row V k1 k2 q := fun q a b c d e h => by
    rcases h with h | h | h | ⟨l, hl, h⟩ | ⟨l, r, hl, hr, h⟩
    · exact a h
    · exact b h
    · exact c h
    · exact d l hl h
    · exact e l r hl hr h
  refine ⟨⟨key mo hX.1.1 n1.1 n2.1 (fun l hl => ne_OQ h.cmo (h.clvl hl)) (fun l r hl hr => ne_OR h.cmo (h.crow hl hr)), key dk hX.1.2.1 n1.2.1 n2.2.1 (fun l hl => (ne_QR (h.clvl hl) h.cdk).symm) (fun l r hl hr => (hD l r hl hr).symm), key lv hX.1.2.2.1 n1.2.2.1 n2.2.2.1 (fun l hl => ne_QQ h.clv (h.clvl hl)) (fun l r hl hr => ne_QR h.clv (h.crow hl hr)), key nb hX.1.2.2.2 n1.2.2.2.1 n2.2.2.2.1 (fun l hl => ne_NQ h.cnb (h.clvl hl)) (fun l r hl hr => ne_NR h.cnb (h.crow hl hr))⟩, fun q hq => ?_⟩
  rcases hq with hq | hq | hq | ⟨l, hl, hq⟩ | ⟨l, r, hl, hr, hq⟩
  · exact hX.2 q hq
  · rw [hq]; exact e1
  · rw [hq]; exact e2
  · rw [hq]
    obtain ⟨F, g, -⟩ := h.clvl hl
    exact ⟨_, g⟩
  · rw [hq]
    obtain ⟨F, g, -⟩ := h.crow hl hr
    exact ⟨_, g⟩
theorem mR.mv {a : Nat} {f : Row} (h : mR hp a f) (e : hp9 a = hp a) : mR hp9 a f := by
  obtain ⟨F, g, g2⟩ := h
  exact ⟨F, e.trans g, g2⟩
theorem mQ.mv {a t n : Nat} {x : Nat → Nat} (h : mQ hp a t n x) (e : hp9 a = hp a) : mQ hp9 a t n x := by
  obtain ⟨F, g, g2⟩ := h
  exact ⟨F, e.trans g, g2⟩
theorem mN.mv {a : Nat} {r2 mv2 dt2 mg2 : Int32} (h : mN hp a r2 mv2 dt2 mg2) (e : hp9 a = hp a) : mN hp9 a r2 mv2 dt2 mg2 := by
  obtain ⟨F, g, g2⟩ := h
  exact ⟨F, e.trans g, g2⟩
theorem tr_back (h : mA mo dk lv nb lvl row th d V rm dt hp) (n1 : mNe mo dk lv nb lvl row V k1) (n2 : mNe mo dk lv nb lvl row V k2) (hk1 : mQ hp k1 4 4 lvl) (hk2 : mN hp k2 rm (bM V) dt (bK V)) (h9 : mA mo dk lv nb lvl9 row9 th d V9 rm dt hp9) (hK : mKp (trX X lvl row V k1 k2) hp hp9) :
    mA mo dk k1 k2 lvl row th d V rm dt (hput hp9 mo (eO 3 [.int th, .ref dk, .ref k1, .ref k2])) :=
  ⟨hput_s _ _ _, h9.cdk.put _ (ne_OR h9.cmo h9.cdk).symm, (hk1.mv (hK k1 (Or.inr (Or.inl rfl)))).put _ n1.1.symm, (hk2.mv (hK k2 (Or.inr (Or.inr (Or.inl rfl))))).put _ n2.1.symm,
    fun l hl => ((h.clvl hl).mv (hK _ (Or.inr (Or.inr (Or.inr (Or.inl ⟨l, hl, rfl⟩)))))).put _ (ne_OQ h.cmo (h.clvl hl)).symm,
    fun l r hl hr => ⟨((h.crow hl hr).mv (hK _ (Or.inr (Or.inr (Or.inr (Or.inr ⟨l, r, hl, hr, rfl⟩)))))).put _ (ne_OR h.cmo (h.crow hl hr)).symm, h.pos hl hr⟩, h.le⟩
theorem mKp.tr_sub {h1 h2 : HP} (h : mKp (trX X lvl row V k1 k2) h1 h2) : mKp X h1 h2 := fun q hq => h q (Or.inl hq)
theorem tr_X (hX : mX X mo dk lv nb hp) (h1 : ¬ X k1) (h2 : ¬ X k2) {e : hE} (h9 : mX (trX X lvl row V k1 k2) mo dk lv nb hp9) : mX X mo dk k1 k2 (hput hp9 mo e) := ⟨⟨hX.1.1, hX.1.2.1, h1, h2⟩, fun q hq => hput_some (h9.2 q (Or.inl hq))⟩
end TRD
/-- the words of tried, with those of the clone of int[][][] -/
def wsZw : List Cond := [.methodLink RX3 127 ⟨"[[[I", "clone", "()Ljava/lang/Object;"⟩, .sameMethod "[[[I" "java/lang/Object" "clone" "()Ljava/lang/Object;", .selects "[[[I" ⟨"[[[I", "clone", "()Ljava/lang/Object;"⟩ ⟨"java/lang/Object", "clone", "()Ljava/lang/Object;"⟩, .classLink RX3 17 "[[I"]
theorem gZw : GoodIn wsZw wsZw := goodIn_of _ (by decide +kernel)
def wsZ_tried : List Cond := wsX3_tried ++ wsZw
def wsZ_spares : List Cond := wsX3_spares ++ wsZw
def wsZ_advise : List Cond := wsX3_advise ++ wsZw
def wsZ_init : List Cond := wsX3_init ++ wsZw
theorem gZl {a b ws : List Cond} (h : GoodIn a ws) : GoodIn (a ++ b) ws := fun w hw => ⟨List.mem_append_left _ (h w hw).1, (h w hw).2⟩
theorem gZr {a b ws : List Cond} (h : GoodIn b ws) : GoodIn (a ++ b) ws := fun w hw => ⟨List.mem_append_right _ (h w hw).1, (h w hw).2⟩
theorem gZ_tried_X3_mergeOne : GoodIn wsZ_tried (wsV RX3 59 RX3 yX3_mergeOne wsX3_mergeOne) := gZl gX3_tried_X3_mergeOne
theorem gZ_tried_X3_settle : GoodIn wsZ_tried (wsV RX3 63 RX3 yX3_settle wsX3_settle) := gZl gX3_tried_X3_settle
theorem gZ_tried_X3_slips : GoodIn wsZ_tried (wsV RX3 121 RX3 yX3_slips wsX3_slips) := gZl gX3_tried_X3_slips
theorem gZ_tried_X3_allOpened : GoodIn wsZ_tried (wsV RX3 133 RX3 yX3_allOpened wsX3_allOpened) := gZl gX3_tried_X3_allOpened
theorem gZ_V {idx : Nat} {y : MethodName} {own : String} {a ws : List Cond} (h : GoodIn a (wsV own idx own y ws)) : GoodIn (a ++ wsZw) (wsV own idx own y (ws ++ wsZw)) := by
  intro w hw
  have hw2 : w ∈ wsV own idx own y ws ∨ w ∈ wsZw := by
    unfold wsV at hw ⊢
    simp only [List.mem_append] at hw ⊢
    rcases hw with hw | hw | hw
    · exact Or.inl (Or.inl hw)
    · exact Or.inl (Or.inr hw)
    · exact Or.inr hw
  rcases hw2 with hw2 | hw2
  · exact gZl h w hw2
  · exact gZr gZw w hw2
theorem gZ_init_X3_empty : GoodIn wsZ_init (va_wsS RX3 7 yX3_empty wsX3_empty) := gZl gX3_init_X3_empty
theorem gZ_spares_X3_tried : GoodIn wsZ_spares (wsV RX3 136 RX3 yX3_tried wsZ_tried) := gZ_V gX3_spares_X3_tried
theorem gZ_spares_X3_isLevel : GoodIn wsZ_spares (va_wsS RX3 35 yX3_isLevel wsX3_isLevel) := gZl gX3_spares_X3_isLevel
theorem gZ_spares_X3_slips : GoodIn wsZ_spares (wsV RX3 121 RX3 yX3_slips wsX3_slips) := gZl gX3_spares_X3_slips
theorem gZ_advise_X3_tried : GoodIn wsZ_advise (wsV RX3 136 RX3 yX3_tried wsZ_tried) := gZ_V gX3_advise_X3_tried
/-! advise -/
def trB (V : BV) (l : Nat) : BV := stB (mgB V l) 4
theorem mdA_ex : ∃ f : Row → BV → Nat → Int32, ∀ d V i, f d V i = nI (allD d (bN (trB V i)) (bG (trB V i))) := ⟨fun d V i => nI (allD d (bN (trB V i)) (bG (trB V i))), fun _ _ _ => rfl⟩
noncomputable def mdA : Row → BV → Nat → Int32 := Classical.choose mdA_ex
theorem mdA_e (d : Row) (V : BV) (i : Nat) : mdA d V i = nI (allD d (bN (trB V i)) (bG (trB V i))) := Classical.choose_spec mdA_ex d V i
noncomputable def avB (d : Row) (V : BV) : Nat → Int32 × Int32
  | 0 => (-1, 0)
  | i + 1 => if bN V i = 0 then avB d V i else if (avB d V i).1 = -1 ∨ mdA d V i < (avB d V i).2 then (nI i, mdA d V i) else avB d V i
theorem avB_n {d : Row} {V : BV} {i : Nat} (h : bN V i = 0) : avB d V (i + 1) = avB d V i := if_pos h
theorem avB_y {d : Row} {V : BV} {i : Nat} (h : ¬ bN V i = 0) (h2 : (avB d V i).1 = -1 ∨ mdA d V i < (avB d V i).2) : avB d V (i + 1) = (nI i, mdA d V i) := (if_neg h).trans (if_pos h2)
theorem avB_k {d : Row} {V : BV} {i : Nat} (h : ¬ bN V i = 0) (h1 : ¬ (avB d V i).1 = -1) (h2 : ¬ mdA d V i < (avB d V i).2) : avB d V (i + 1) = avB d V i := (if_neg h).trans (if_neg (fun z => z.elim h1 h2))
theorem bI2 {V : BV} (hI : ∀ l, l < 4 → bN V l ≤ 2) (l : Nat) (hl : l < 4) : ∀ l2, l2 < 4 → bN (trB V l) l2 ≤ 2 := stB_two (mgB_one hl (oneB_all hI l))
/-! a new model -/
def V0 : BV := (fun _ => 0, fun _ _ => emR, 0, 0)
def lv0 (a b c d : Nat) : Nat → Nat := fun l => if l = 0 then a else if l = 1 then b else if l = 2 then c else d
theorem nX {X : Nat → Prop} {hp : HP} (h : ∀ q, X q → ∃ e, hp q = some e) {q : Nat} (hq : hp q = none) : ¬ X q := fun z => by
  obtain ⟨e, he⟩ := h q z
  rw [hq] at he
  cases he

set_option maxHeartbeats 1000000 in
set_option maxRecDepth 100000 in
theorem c_X3_tried1 (l : Launch) (G : hG) (A : Nat → Prop) (hp : HP) (X : Nat → Prop) (mo dk lv nb : Nat) (lvl : Nat → Nat) (row : Nat → Nat → Nat) (th : Int32) (d : Row) (V : BV) (rm dt : Int32) (hm : mA mo dk lv nb lvl row th d V rm dt hp) (hX : mX X mo dk lv nb hp) (hD : mD dk row V) (hI : ∀ l, l < 4 → bN V l ≤ 2) (lz : Nat) (hl4 : lz < 4) (hA0 : hIn A hp) : hWr l yX3_tried wsZ_tried 4 94 17 343 G A hp [.ref mo, .int (nI lz), .int (nI 1)] (fun ro hp' => ro = some (.int (nI (snA (fun l => ltS ((trB V lz)) l 1) 4))) ∧ mP X mo th d V rm dt hp hp') := by
  refine Met.ofW (cc := cX3_tried) (maxL := 6) (ret := (some .int)) (by decide) rfl ?_
  intro p e s m args below meth c s₁ B hml hv
  obtain ⟨rfl, hV0, hK0, hA⟩ := hv
  have hx := B.exec
  have hb := B.bytes
  have hr := B.returns
  have hts := atoms_spec (ws := wsZ_tried) B.pre
  have hown : s.vm.findClass RX3 = some m.cls := findClass_of_methodNamed B.named
  have hlocks := B.notSynchronized
  have hF : CallFix p m c cX3_tried 6 s [.ref mo, .int (nI lz), .int (nI 1)].toArray wsZ_tried RX3 := ⟨hx, hb, hml, hown, hts⟩
  have hw0 := hts (.fieldLink RX3 20 "SlipLevelsModel" "levels" "[[[I") (by decide +kernel)
  have hw1 := hts (.methodLink RX3 127 ⟨"[[[I", "clone", "()Ljava/lang/Object;"⟩) (by decide +kernel)
  have hw2 := hts (.sameMethod "[[[I" "java/lang/Object" "clone" "()Ljava/lang/Object;") (by decide +kernel)
  have hw3 := hts (.native ⟨"java/lang/Object", "clone", "()Ljava/lang/Object;"⟩) (by decide +kernel)
  have hw4 := hts (.instanceMethod ⟨"java/lang/Object", "clone", "()Ljava/lang/Object;"⟩) (by decide +kernel)
  have hw5 := hts (.selects "[[[I" ⟨"[[[I", "clone", "()Ljava/lang/Object;"⟩ ⟨"java/lang/Object", "clone", "()Ljava/lang/Object;"⟩) (by decide +kernel)
  have hw6 := hts (.classLink RX3 128 "[[[I") (by decide +kernel)
  have hw7 := hts (.fieldLink RX3 24 "SlipLevelsModel" "numbers" "[I") (by decide +kernel)
  have hw8 := hts (.methodLink RX3 132 ⟨"[I", "clone", "()Ljava/lang/Object;"⟩) (by decide +kernel)
  have hw9 := hts (.sameMethod "[I" "java/lang/Object" "clone" "()Ljava/lang/Object;") (by decide +kernel)
  have hw10 := hts (.selects "[I" ⟨"[I", "clone", "()Ljava/lang/Object;"⟩ ⟨"java/lang/Object", "clone", "()Ljava/lang/Object;"⟩) (by decide +kernel)
  have hw11 := hts (.classLink RX3 19 "[I") (by decide +kernel)
  have hi3 : ∀ w ∈ u_ws RX3 TX3 4, w ∈ wsZ_tried := by
    intro w h
    unfold wsZ_tried wsX3_tried
    simp only [List.mem_cons, List.mem_append, h, true_or, or_true]
  have hS : va_S A s.heap s.heap [] := va_S.rf
  have hl := lv_entry ([.ref mo, .int (nI lz), .int (nI 1)]) (n := 6) (Nat.le_of_ble_eq_true rfl)
  rw [lg_entry_eq]
  generalize (lg_sl ([.ref mo, .int (nI lz), .int (nI 1)]) ++ List.replicate (6 - (lg_sl ([.ref mo, .int (nI lz), .int (nI 1)])).length) Slot.unset).toArray = ls at hl ⊢
  replace hl : lv_has ls 6 [(0, .ref mo), (1, .int (nI lz)), (2, .int (nI 1))] := hl
  have hn := hm.le
  have hK : mKp X hp hp := mKp.rf
  refine lv_aload_n hx hb dX3_tried_0 rfl (lv_at hl 0 rfl) ?_
  refine h_get (v := .ref lv) hx hb hts hi3 hown hK0 hV0 hm.cmo rfl 2 (by decide) hw0 rfl dX3_tried_1 ?_
  obtain ⟨LF, hLF, hLs⟩ := hm.clv
  refine h_clone (t := 4) (x := (4, .inr (.inr (.inr (.inr LF))))) (ty := .array (.array .int)) hx hb (hml.trans hl.1.symm) hown hw1 hw2 hw3 hw4 hw5 hK0.2.2.2.2.2 hK0 hV0 hA0 hS hA hLF rfl (hnmB hK0) (fitQ _ _ _) (Nat.le_of_ble_eq_true rfl) (Nat.le_of_ble_eq_true rfl) (Nat.le_of_ble_eq_true rfl) (Nat.le_of_ble_eq_true rfl) dX3_tried_4 (fun k1 H hqqk1 hV0 hA0 hS => ?_)
  have hnek1 := hm.ne hqqk1
  have hnXk1 := hX.new hqqk1
  have hm : mA mo dk lv nb lvl row th d V rm dt (hput hp k1 (eQ 4 4 LF)) := hm.put hnek1 _
  have hX : mX X mo dk lv nb (hput hp k1 (eQ 4 4 LF)) := hX.put _ _
  have hK : mKp X hp (hput hp k1 (eQ 4 4 LF)) := hK.put hnXk1
  have hn := hm.le
  refine h_castA (t := 4) hx hb hown hw6 hV0 (hput_s _ _ _) (hnmB hK0) dX3_tried_7 ?_
  refine lv_astore_n (lv' := [(3, .ref k1), (0, .ref mo), (1, .int (nI lz)), (2, .int (nI 1))]) hx hb dX3_tried_10 rfl hl (by decide) rfl (fun ls hl => ?_)
  refine lv_aload_n hx hb dX3_tried_11 rfl (lv_at hl 1 rfl) ?_
  refine h_get (v := .ref nb) hx hb hts hi3 hown hK0 hV0 hm.cmo rfl 3 (by decide) hw7 rfl dX3_tried_12 ?_
  obtain ⟨NF, hNF, n0, n1, n2, n3⟩ := hm.cnb
  refine h_clone (t := 0) (x := (4, .inl NF)) (ty := .int) hx hb (hml.trans hl.1.symm) hown hw8 hw9 hw3 hw4 hw10 hK0.2.2.2.2.1 hK0 hV0 hA0 hS hA hNF rfl (hnmI hK0) (fitI _ _ _) (Nat.le_of_ble_eq_true rfl) (Nat.le_of_ble_eq_true rfl) (Nat.le_of_ble_eq_true rfl) (Nat.le_of_ble_eq_true rfl) dX3_tried_15 (fun k2 H hqqk2 hV0 hA0 hS => ?_)
  have hnek2 := hm.ne hqqk2
  have hnXk2 := hX.new hqqk2
  have hnk12 : k1 ≠ k2 := hp_ne (hput_s _ _ _) hqqk2
  have hm : mA mo dk lv nb lvl row th d V rm dt (hput (hput hp k1 (eQ 4 4 LF)) k2 (eI 4 NF)) := hm.put hnek2 _
  have hX : mX X mo dk lv nb (hput (hput hp k1 (eQ 4 4 LF)) k2 (eI 4 NF)) := hX.put _ _
  have hK : mKp X hp (hput (hput hp k1 (eQ 4 4 LF)) k2 (eI 4 NF)) := hK.put hnXk2
  have hn := hm.le
  have he1 : (hput (hput hp k1 (eQ 4 4 LF)) k2 (eI 4 NF)) k1 = some (eQ 4 4 LF) := (hput_n _ _ hnk12).trans (hput_s _ _ _)
  refine h_castA (t := 0) hx hb hown hw11 hV0 (hput_s _ _ _) (hnmI hK0) dX3_tried_18 ?_
  refine lv_astore (lv' := [(4, .ref k2), (3, .ref k1), (0, .ref mo), (1, .int (nI lz)), (2, .int (nI 1))]) hx hb dX3_tried_21 hl (by decide) rfl (fun ls hl => ?_)
  have hm0 := hm
  have hX0 := hX
  have hK9 := hK
  have hk1 : mQ (hput (hput hp k1 (eQ 4 4 LF)) k2 (eI 4 NF)) k1 4 4 lvl := ⟨LF, he1, hLs⟩
  have hk2 : mN (hput (hput hp k1 (eQ 4 4 LF)) k2 (eI 4 NF)) k2 rm (bM V) dt (bK V) := ⟨NF, (hput_s _ _ _), n0, n1, n2, n3⟩
  replace hX : mX (trX X lvl row V k1 k2) mo dk lv nb (hput (hput hp k1 (eQ 4 4 LF)) k2 (eI 4 NF)) := trX_m hm hX hD hnek1 hnek2 ⟨_, he1⟩ ⟨_, (hput_s _ _ _)⟩
  refine lv_aload_n hx hb dX3_tried_23 rfl (lv_at hl 2 rfl) ?_
  refine lv_iload_n hx hb dX3_tried_24 rfl (lv_at hl 3 rfl) ?_
  refine h_wrV (As := [.int (nI lz)]) (rest := []) hF (c_X3_mergeOne l G A (hput (hput hp k1 (eQ 4 4 LF)) k2 (eI 4 NF)) (trX X lvl row V k1 k2) mo dk lv nb lvl row th d V rm dt hm hX lz (by omega) hD (oneB_all hI lz) hA0) 1 gZ_tried_X3_mergeOne rfl (by decide +kernel) ⟨Nat.le_of_ble_eq_true rfl, Nat.le_of_ble_eq_true rfl⟩ hK0 hV0 hA hS hm.cmo rfl rfl rfl hl.1 rfl (Nat.le_of_ble_eq_true rfl) ⟨Nat.le_of_ble_eq_true rfl, Nat.le_of_ble_eq_true rfl⟩ dX3_tried_25 (fun ro hp1 H locs hP1 hV0 hA0 hS => ?_)
  obtain ⟨rfl, lvl2, row2, hm2, hX2, hD2, hK2⟩ := hP1
  have hn := hm2.le
  refine lv_aload_n hx hb dX3_tried_28 rfl (lv_at hl 2 rfl) ?_
  refine h_wrV (As := []) (rest := []) hF (c_X3_settle l G A hp1 (trX X lvl row V k1 k2) mo dk lv nb lvl2 row2 th d ((mgB V lz)) rm dt hm2 hX2 hD2 (lz + 1) (mgB_one hl4 (oneB_all hI lz)) hA0) 0 gZ_tried_X3_settle rfl (by decide +kernel) ⟨Nat.le_of_ble_eq_true rfl, Nat.le_of_ble_eq_true rfl⟩ hK0 hV0 hA hS hm2.cmo rfl rfl rfl hl.1 rfl (Nat.le_of_ble_eq_true rfl) ⟨Nat.le_of_ble_eq_true rfl, Nat.le_of_ble_eq_true rfl⟩ dX3_tried_29 (fun ro hp1 H locs hP1 hV0 hA0 hS => ?_)
  obtain ⟨rfl, lvl3, row3, hm3, hX3, hD3, hK3⟩ := hP1
  have hn := hm3.le
  refine lv_iload_n hx hb dX3_tried_32 rfl (lv_at hl 4 rfl) ?_
  refine h_if_eq (a := 1) (tgt := 43) hx hb dX3_tried_33 (by decide) (by omega) (fun c_33 => absurd c_33 (by decide)) (fun c_33 => ?_)
  refine lv_aload_n hx hb dX3_tried_36 rfl (lv_at hl 2 rfl) ?_
  refine h_rdV (As := []) (rest := []) hF (c_X3_slips l G hp1 mo dk lv nb lvl3 row3 th d ((stB ((mgB V lz)) 4)) rm dt hm3) 0 gZ_tried_X3_slips rfl (by decide +kernel) ⟨Nat.le_of_ble_eq_true rfl, Nat.le_of_ble_eq_true rfl⟩ hK0 hV0 hm3.cmo rfl rfl rfl hl.1 rfl (Nat.le_of_ble_eq_true rfl) (Nat.le_of_ble_eq_true rfl) (Nat.le_of_ble_eq_true rfl) dX3_tried_37 ?_
  refine lv_goto (tgt := 47) hx hb dX3_tried_40 (by decide) ?_
  refine lv_istore (lv' := [(5, .int (nI (snA (fun l => ltS ((stB ((mgB V lz)) 4)) l 1) 4))), (4, .ref k2), (3, .ref k1), (0, .ref mo), (1, .int (nI lz)), (2, .int (nI 1))]) hx hb dX3_tried_47 hl (by decide) rfl (fun ls hl => ?_)
  refine lv_aload_n hx hb dX3_tried_49 rfl (lv_at hl 3 rfl) ?_
  refine lv_aload_n hx hb dX3_tried_50 rfl (lv_at hl 2 rfl) ?_
  refine h_put (v := .ref k1) hx hb hts hi3 tyX3 tyX3_ok nmX3 hown hK0 hV0 hA0 hS hm3.cmo rfl 2 (by decide) hw0 rfl (by rfl) (by rfl) (Nat.le_of_ble_eq_true rfl) dX3_tried_51 (fun H locs hV0 hA0 hS => ?_)
  replace hV0 : hV G (hput hp1 mo (eO 3 [.int th, .ref dk, .ref k1, .ref nb])) H := hV0
  replace hA0 : hIn A (hput hp1 mo (eO 3 [.int th, .ref dk, .ref k1, .ref nb])) := hA0
  have hp7 : hput hp1 mo (eO 3 [.int th, .ref dk, .ref k1, .ref nb]) mo = some (eO 3 [.int th, .ref dk, .ref k1, .ref nb]) := hput_s _ _ _
  refine lv_aload_n hx hb dX3_tried_54 rfl (lv_at hl 3 rfl) ?_
  refine lv_aload hx hb dX3_tried_55 (lv_at hl 1 rfl) ?_
  refine h_put (v := .ref k2) hx hb hts hi3 tyX3 tyX3_ok nmX3 hown hK0 hV0 hA0 hS hp7 rfl 3 (by decide) hw7 rfl (by rfl) (by rfl) (Nat.le_of_ble_eq_true rfl) dX3_tried_57 (fun H locs hV0 hA0 hS => ?_)
  rw [hput_hput] at hV0 hA0
  replace hV0 : hV G (hput hp1 mo (eO 3 [.int th, .ref dk, .ref k1, .ref k2])) H := hV0
  replace hA0 : hIn A (hput hp1 mo (eO 3 [.int th, .ref dk, .ref k1, .ref k2])) := hA0
  refine lv_iload hx hb dX3_tried_60 (lv_at hl 0 rfl) ?_
  exact W.iret hx hb hr (h_qW ⟨by first | rfl | exact congrArg (fun z => some (Value.int z)) (mdA_e d V lz).symm, dk, k1, k2, lvl, row, tr_back hm0 hnek1 hnek2 hk1 hk2 hm3 (hK2.tr hK3), tr_X hX0 hnXk1 hnXk2 hX3, hD, ((hK9.tr (hK2.tr hK3).tr_sub).put hX0.1.1)⟩ hV0 hA0 hS) hS.2.2 dX3_tried_62 hlocks

set_option maxHeartbeats 1000000 in
set_option maxRecDepth 100000 in
theorem c_X3_tried0 (l : Launch) (G : hG) (A : Nat → Prop) (hp : HP) (X : Nat → Prop) (mo dk lv nb : Nat) (lvl : Nat → Nat) (row : Nat → Nat → Nat) (th : Int32) (d : Row) (V : BV) (rm dt : Int32) (hm : mA mo dk lv nb lvl row th d V rm dt hp) (hX : mX X mo dk lv nb hp) (hD : mD dk row V) (hI : ∀ l, l < 4 → bN V l ≤ 2) (lz : Nat) (hl4 : lz < 4) (hA0 : hIn A hp) : hWr l yX3_tried wsZ_tried 4 94 17 343 G A hp [.ref mo, .int (nI lz), .int (nI 0)] (fun ro hp' => ro = some (.int (mdA d V lz)) ∧ mP X mo th d V rm dt hp hp') := by
  refine Met.ofW (cc := cX3_tried) (maxL := 6) (ret := (some .int)) (by decide) rfl ?_
  intro p e s m args below meth c s₁ B hml hv
  obtain ⟨rfl, hV0, hK0, hA⟩ := hv
  have hx := B.exec
  have hb := B.bytes
  have hr := B.returns
  have hts := atoms_spec (ws := wsZ_tried) B.pre
  have hown : s.vm.findClass RX3 = some m.cls := findClass_of_methodNamed B.named
  have hlocks := B.notSynchronized
  have hF : CallFix p m c cX3_tried 6 s [.ref mo, .int (nI lz), .int (nI 0)].toArray wsZ_tried RX3 := ⟨hx, hb, hml, hown, hts⟩
  have hw0 := hts (.fieldLink RX3 20 "SlipLevelsModel" "levels" "[[[I") (by decide +kernel)
  have hw1 := hts (.methodLink RX3 127 ⟨"[[[I", "clone", "()Ljava/lang/Object;"⟩) (by decide +kernel)
  have hw2 := hts (.sameMethod "[[[I" "java/lang/Object" "clone" "()Ljava/lang/Object;") (by decide +kernel)
  have hw3 := hts (.native ⟨"java/lang/Object", "clone", "()Ljava/lang/Object;"⟩) (by decide +kernel)
  have hw4 := hts (.instanceMethod ⟨"java/lang/Object", "clone", "()Ljava/lang/Object;"⟩) (by decide +kernel)
  have hw5 := hts (.selects "[[[I" ⟨"[[[I", "clone", "()Ljava/lang/Object;"⟩ ⟨"java/lang/Object", "clone", "()Ljava/lang/Object;"⟩) (by decide +kernel)
  have hw6 := hts (.classLink RX3 128 "[[[I") (by decide +kernel)
  have hw7 := hts (.fieldLink RX3 24 "SlipLevelsModel" "numbers" "[I") (by decide +kernel)
  have hw8 := hts (.methodLink RX3 132 ⟨"[I", "clone", "()Ljava/lang/Object;"⟩) (by decide +kernel)
  have hw9 := hts (.sameMethod "[I" "java/lang/Object" "clone" "()Ljava/lang/Object;") (by decide +kernel)
  have hw10 := hts (.selects "[I" ⟨"[I", "clone", "()Ljava/lang/Object;"⟩ ⟨"java/lang/Object", "clone", "()Ljava/lang/Object;"⟩) (by decide +kernel)
  have hw11 := hts (.classLink RX3 19 "[I") (by decide +kernel)
  have hi3 : ∀ w ∈ u_ws RX3 TX3 4, w ∈ wsZ_tried := by
    intro w h
    unfold wsZ_tried wsX3_tried
    simp only [List.mem_cons, List.mem_append, h, true_or, or_true]
  have hS : va_S A s.heap s.heap [] := va_S.rf
  have hl := lv_entry ([.ref mo, .int (nI lz), .int (nI 0)]) (n := 6) (Nat.le_of_ble_eq_true rfl)
  rw [lg_entry_eq]
  generalize (lg_sl ([.ref mo, .int (nI lz), .int (nI 0)]) ++ List.replicate (6 - (lg_sl ([.ref mo, .int (nI lz), .int (nI 0)])).length) Slot.unset).toArray = ls at hl ⊢
  replace hl : lv_has ls 6 [(0, .ref mo), (1, .int (nI lz)), (2, .int (nI 0))] := hl
  have hn := hm.le
  have hK : mKp X hp hp := mKp.rf
  refine lv_aload_n hx hb dX3_tried_0 rfl (lv_at hl 0 rfl) ?_
  refine h_get (v := .ref lv) hx hb hts hi3 hown hK0 hV0 hm.cmo rfl 2 (by decide) hw0 rfl dX3_tried_1 ?_
  obtain ⟨LF, hLF, hLs⟩ := hm.clv
  refine h_clone (t := 4) (x := (4, .inr (.inr (.inr (.inr LF))))) (ty := .array (.array .int)) hx hb (hml.trans hl.1.symm) hown hw1 hw2 hw3 hw4 hw5 hK0.2.2.2.2.2 hK0 hV0 hA0 hS hA hLF rfl (hnmB hK0) (fitQ _ _ _) (Nat.le_of_ble_eq_true rfl) (Nat.le_of_ble_eq_true rfl) (Nat.le_of_ble_eq_true rfl) (Nat.le_of_ble_eq_true rfl) dX3_tried_4 (fun k1 H hqqk1 hV0 hA0 hS => ?_)
  have hnek1 := hm.ne hqqk1
  have hnXk1 := hX.new hqqk1
  have hm : mA mo dk lv nb lvl row th d V rm dt (hput hp k1 (eQ 4 4 LF)) := hm.put hnek1 _
  have hX : mX X mo dk lv nb (hput hp k1 (eQ 4 4 LF)) := hX.put _ _
  have hK : mKp X hp (hput hp k1 (eQ 4 4 LF)) := hK.put hnXk1
  have hn := hm.le
  refine h_castA (t := 4) hx hb hown hw6 hV0 (hput_s _ _ _) (hnmB hK0) dX3_tried_7 ?_
  refine lv_astore_n (lv' := [(3, .ref k1), (0, .ref mo), (1, .int (nI lz)), (2, .int (nI 0))]) hx hb dX3_tried_10 rfl hl (by decide) rfl (fun ls hl => ?_)
  refine lv_aload_n hx hb dX3_tried_11 rfl (lv_at hl 1 rfl) ?_
  refine h_get (v := .ref nb) hx hb hts hi3 hown hK0 hV0 hm.cmo rfl 3 (by decide) hw7 rfl dX3_tried_12 ?_
  obtain ⟨NF, hNF, n0, n1, n2, n3⟩ := hm.cnb
  refine h_clone (t := 0) (x := (4, .inl NF)) (ty := .int) hx hb (hml.trans hl.1.symm) hown hw8 hw9 hw3 hw4 hw10 hK0.2.2.2.2.1 hK0 hV0 hA0 hS hA hNF rfl (hnmI hK0) (fitI _ _ _) (Nat.le_of_ble_eq_true rfl) (Nat.le_of_ble_eq_true rfl) (Nat.le_of_ble_eq_true rfl) (Nat.le_of_ble_eq_true rfl) dX3_tried_15 (fun k2 H hqqk2 hV0 hA0 hS => ?_)
  have hnek2 := hm.ne hqqk2
  have hnXk2 := hX.new hqqk2
  have hnk12 : k1 ≠ k2 := hp_ne (hput_s _ _ _) hqqk2
  have hm : mA mo dk lv nb lvl row th d V rm dt (hput (hput hp k1 (eQ 4 4 LF)) k2 (eI 4 NF)) := hm.put hnek2 _
  have hX : mX X mo dk lv nb (hput (hput hp k1 (eQ 4 4 LF)) k2 (eI 4 NF)) := hX.put _ _
  have hK : mKp X hp (hput (hput hp k1 (eQ 4 4 LF)) k2 (eI 4 NF)) := hK.put hnXk2
  have hn := hm.le
  have he1 : (hput (hput hp k1 (eQ 4 4 LF)) k2 (eI 4 NF)) k1 = some (eQ 4 4 LF) := (hput_n _ _ hnk12).trans (hput_s _ _ _)
  refine h_castA (t := 0) hx hb hown hw11 hV0 (hput_s _ _ _) (hnmI hK0) dX3_tried_18 ?_
  refine lv_astore (lv' := [(4, .ref k2), (3, .ref k1), (0, .ref mo), (1, .int (nI lz)), (2, .int (nI 0))]) hx hb dX3_tried_21 hl (by decide) rfl (fun ls hl => ?_)
  have hm0 := hm
  have hX0 := hX
  have hK9 := hK
  have hk1 : mQ (hput (hput hp k1 (eQ 4 4 LF)) k2 (eI 4 NF)) k1 4 4 lvl := ⟨LF, he1, hLs⟩
  have hk2 : mN (hput (hput hp k1 (eQ 4 4 LF)) k2 (eI 4 NF)) k2 rm (bM V) dt (bK V) := ⟨NF, (hput_s _ _ _), n0, n1, n2, n3⟩
  replace hX : mX (trX X lvl row V k1 k2) mo dk lv nb (hput (hput hp k1 (eQ 4 4 LF)) k2 (eI 4 NF)) := trX_m hm hX hD hnek1 hnek2 ⟨_, he1⟩ ⟨_, (hput_s _ _ _)⟩
  refine lv_aload_n hx hb dX3_tried_23 rfl (lv_at hl 2 rfl) ?_
  refine lv_iload_n hx hb dX3_tried_24 rfl (lv_at hl 3 rfl) ?_
  refine h_wrV (As := [.int (nI lz)]) (rest := []) hF (c_X3_mergeOne l G A (hput (hput hp k1 (eQ 4 4 LF)) k2 (eI 4 NF)) (trX X lvl row V k1 k2) mo dk lv nb lvl row th d V rm dt hm hX lz (by omega) hD (oneB_all hI lz) hA0) 1 gZ_tried_X3_mergeOne rfl (by decide +kernel) ⟨Nat.le_of_ble_eq_true rfl, Nat.le_of_ble_eq_true rfl⟩ hK0 hV0 hA hS hm.cmo rfl rfl rfl hl.1 rfl (Nat.le_of_ble_eq_true rfl) ⟨Nat.le_of_ble_eq_true rfl, Nat.le_of_ble_eq_true rfl⟩ dX3_tried_25 (fun ro hp1 H locs hP1 hV0 hA0 hS => ?_)
  obtain ⟨rfl, lvl2, row2, hm2, hX2, hD2, hK2⟩ := hP1
  have hn := hm2.le
  refine lv_aload_n hx hb dX3_tried_28 rfl (lv_at hl 2 rfl) ?_
  refine h_wrV (As := []) (rest := []) hF (c_X3_settle l G A hp1 (trX X lvl row V k1 k2) mo dk lv nb lvl2 row2 th d ((mgB V lz)) rm dt hm2 hX2 hD2 (lz + 1) (mgB_one hl4 (oneB_all hI lz)) hA0) 0 gZ_tried_X3_settle rfl (by decide +kernel) ⟨Nat.le_of_ble_eq_true rfl, Nat.le_of_ble_eq_true rfl⟩ hK0 hV0 hA hS hm2.cmo rfl rfl rfl hl.1 rfl (Nat.le_of_ble_eq_true rfl) ⟨Nat.le_of_ble_eq_true rfl, Nat.le_of_ble_eq_true rfl⟩ dX3_tried_29 (fun ro hp1 H locs hP1 hV0 hA0 hS => ?_)
  obtain ⟨rfl, lvl3, row3, hm3, hX3, hD3, hK3⟩ := hP1
  have hn := hm3.le
  refine lv_iload_n hx hb dX3_tried_32 rfl (lv_at hl 4 rfl) ?_
  refine h_if_eq (a := 0) (tgt := 43) hx hb dX3_tried_33 (by decide) (by omega) (fun c_33 => ?_) (fun c_33 => absurd rfl c_33)
  refine lv_aload_n hx hb dX3_tried_43 rfl (lv_at hl 2 rfl) ?_
  refine h_rdV (As := []) (rest := []) hF (c_X3_allOpened l G hp1 mo dk lv nb lvl3 row3 th d ((stB ((mgB V lz)) 4)) rm dt hm3) 0 gZ_tried_X3_allOpened rfl (by decide +kernel) ⟨Nat.le_of_ble_eq_true rfl, Nat.le_of_ble_eq_true rfl⟩ hK0 hV0 hm3.cmo rfl rfl rfl hl.1 rfl (Nat.le_of_ble_eq_true rfl) (Nat.le_of_ble_eq_true rfl) (Nat.le_of_ble_eq_true rfl) dX3_tried_44 ?_
  refine lv_istore (lv' := [(5, .int (nI (allD d (bN ((stB ((mgB V lz)) 4))) (bG ((stB ((mgB V lz)) 4)))))), (4, .ref k2), (3, .ref k1), (0, .ref mo), (1, .int (nI lz)), (2, .int (nI 0))]) hx hb dX3_tried_47 hl (by decide) rfl (fun ls hl => ?_)
  refine lv_aload_n hx hb dX3_tried_49 rfl (lv_at hl 3 rfl) ?_
  refine lv_aload_n hx hb dX3_tried_50 rfl (lv_at hl 2 rfl) ?_
  refine h_put (v := .ref k1) hx hb hts hi3 tyX3 tyX3_ok nmX3 hown hK0 hV0 hA0 hS hm3.cmo rfl 2 (by decide) hw0 rfl (by rfl) (by rfl) (Nat.le_of_ble_eq_true rfl) dX3_tried_51 (fun H locs hV0 hA0 hS => ?_)
  replace hV0 : hV G (hput hp1 mo (eO 3 [.int th, .ref dk, .ref k1, .ref nb])) H := hV0
  replace hA0 : hIn A (hput hp1 mo (eO 3 [.int th, .ref dk, .ref k1, .ref nb])) := hA0
  have hp7 : hput hp1 mo (eO 3 [.int th, .ref dk, .ref k1, .ref nb]) mo = some (eO 3 [.int th, .ref dk, .ref k1, .ref nb]) := hput_s _ _ _
  refine lv_aload_n hx hb dX3_tried_54 rfl (lv_at hl 3 rfl) ?_
  refine lv_aload hx hb dX3_tried_55 (lv_at hl 1 rfl) ?_
  refine h_put (v := .ref k2) hx hb hts hi3 tyX3 tyX3_ok nmX3 hown hK0 hV0 hA0 hS hp7 rfl 3 (by decide) hw7 rfl (by rfl) (by rfl) (Nat.le_of_ble_eq_true rfl) dX3_tried_57 (fun H locs hV0 hA0 hS => ?_)
  rw [hput_hput] at hV0 hA0
  replace hV0 : hV G (hput hp1 mo (eO 3 [.int th, .ref dk, .ref k1, .ref k2])) H := hV0
  replace hA0 : hIn A (hput hp1 mo (eO 3 [.int th, .ref dk, .ref k1, .ref k2])) := hA0
  refine lv_iload hx hb dX3_tried_60 (lv_at hl 0 rfl) ?_
  exact W.iret hx hb hr (h_qW ⟨by first | rfl | exact congrArg (fun z => some (Value.int z)) (mdA_e d V lz).symm, dk, k1, k2, lvl, row, tr_back hm0 hnek1 hnek2 hk1 hk2 hm3 (hK2.tr hK3), tr_X hX0 hnXk1 hnXk2 hX3, hD, ((hK9.tr (hK2.tr hK3).tr_sub).put hX0.1.1)⟩ hV0 hA0 hS) hS.2.2 dX3_tried_62 hlocks

set_option maxHeartbeats 1000000 in
set_option maxRecDepth 100000 in
theorem c_X3_sparesL (l : Launch) (G : hG) (A : Nat → Prop) (hp : HP) (X : Nat → Prop) (mo dk lv nb : Nat) (lvl : Nat → Nat) (row : Nat → Nat → Nat) (th : Int32) (d : Row) (V : BV) (rm dt : Int32) (hm : mA mo dk lv nb lvl row th d V rm dt hp) (hX : mX X mo dk lv nb hp) (hD : mD dk row V) (x : Int32) (hb0 : x < 0 ∨ nI 4 ≤ x) (hA0 : hIn A hp) : hWr l yX3_spares wsX3_spares 2 42 0 0 G A hp [.ref mo, .int x] (fun ro hp' => ro = some (.int (nI 0)) ∧ mP X mo (nI 1) d V rm dt hp hp') := by
  refine Met.ofW (cc := cX3_spares) (maxL := 2) (ret := (some .int)) (by decide) rfl ?_
  intro p e s m args below meth c s₁ B hml hv
  obtain ⟨rfl, hV0, hK0, hA⟩ := hv
  have hx := B.exec
  have hb := B.bytes
  have hr := B.returns
  have hts := atoms_spec (ws := wsX3_spares) B.pre
  have hown : s.vm.findClass RX3 = some m.cls := findClass_of_methodNamed B.named
  have hlocks := B.notSynchronized
  have hF : CallFix p m c cX3_spares 2 s [.ref mo, .int x].toArray wsX3_spares RX3 := ⟨hx, hb, hml, hown, hts⟩
  have hw0 := hts (.fieldLink RX3 27 "SlipLevelsModel" "thrown" "I") (by decide +kernel)
  have hi3 : ∀ w ∈ u_ws RX3 TX3 4, w ∈ wsX3_spares := by
    intro w h
    unfold wsX3_spares
    simp only [List.mem_cons, List.mem_append, h, true_or, or_true]
  have hS : va_S A s.heap s.heap [] := va_S.rf
  have hl := lv_entry ([.ref mo, .int x]) (n := 2) (Nat.le_of_ble_eq_true rfl)
  rw [lg_entry_eq]
  generalize (lg_sl ([.ref mo, .int x]) ++ List.replicate (2 - (lg_sl ([.ref mo, .int x])).length) Slot.unset).toArray = ls at hl ⊢
  replace hl : lv_has ls 2 [(0, .ref mo), (1, .int x)] := hl
  have hn := hm.le
  have hK : mKp X hp hp := mKp.rf
  refine lv_aload_n hx hb dX3_spares_0 rfl (lv_at hl 0 rfl) ?_
  refine lv_iconst (v := nI 0) hx hb dX3_spares_1 (by decide) ?_
  refine h_put (v := .int (nI 0)) hx hb hts hi3 tyX3 tyX3_ok nmX3 hown hK0 hV0 hA0 hS hm.cmo rfl 0 (by decide) hw0 rfl (by rfl) (by rfl) (Nat.le_of_ble_eq_true rfl) dX3_spares_2 (fun H locs hV0 hA0 hS => ?_)
  have hm : mA mo dk lv nb lvl row ((nI 0)) d V rm dt (hput hp mo (eO 3 [.int (nI 0), .ref dk, .ref lv, .ref nb])) := hm.setTh (nI 0)
  have hX : mX X mo dk lv nb (hput hp mo (eO 3 [.int (nI 0), .ref dk, .ref lv, .ref nb])) := hX.put _ _
  have hK : mKp X hp (hput hp mo (eO 3 [.int (nI 0), .ref dk, .ref lv, .ref nb])) := hK.put hX.1.1
  have hn := hm.le
  refine lv_iload_n hx hb dX3_spares_5 rfl (lv_at hl 1 rfl) ?_
  refine h_rdS (As := [.int x]) (rest := []) hF (c_X3_isLevel l G (hput hp mo (eO 3 [.int (nI 0), .ref dk, .ref lv, .ref nb])) (x)) 1 gX3_spares_X3_isLevel rfl (by decide +kernel) ⟨Nat.le_of_ble_eq_true rfl, Nat.le_of_ble_eq_true rfl⟩ hK0 hV0 rfl hl.1 rfl (Nat.le_of_ble_eq_true rfl) (Nat.le_of_ble_eq_true rfl) (Nat.le_of_ble_eq_true rfl) dX3_spares_6 ?_
  refine h_if_neB (tgt := 18) hx hb dX3_spares_9 (by decide) (fun c_9 => absurd ((isN_n (c := 3) hb0 (by omega)).symm.trans c_9) (by decide)) (fun c_9 => ?_)
  refine lv_aload_n hx hb dX3_spares_12 rfl (lv_at hl 0 rfl) ?_
  refine lv_iconst (v := nI 1) hx hb dX3_spares_13 (by decide) ?_
  refine h_wrV (As := [.int (nI 1)]) (rest := []) hF (c_X3_fail l G A (hput hp mo (eO 3 [.int (nI 0), .ref dk, .ref lv, .ref nb])) X mo dk lv nb lvl row ((nI 0)) d V rm dt hm hX 1 hD hA0) 1 gX3_spares_X3_fail rfl (by decide +kernel) ⟨Nat.le_of_ble_eq_true rfl, Nat.le_of_ble_eq_true rfl⟩ hK0 hV0 hA hS hm.cmo rfl rfl rfl hl.1 rfl (Nat.le_of_ble_eq_true rfl) ⟨Nat.le_of_ble_eq_true rfl, Nat.le_of_ble_eq_true rfl⟩ dX3_spares_14 (fun ro hp1 H locs hP1 hV0 hA0 hS => ?_)
  obtain ⟨rfl, lvl2, row2, hm2, hX2, hD2, hK2⟩ := hP1
  exact W.iret hx hb hr (h_qW ⟨rfl, dk, lv, nb, lvl2, row2, hm2, hX2, hD2, hK.tr hK2⟩ hV0 hA0 hS) hS.2.2 dX3_spares_17 hlocks

set_option maxHeartbeats 1000000 in
set_option maxRecDepth 100000 in
theorem c_X3_sparesN (l : Launch) (G : hG) (A : Nat → Prop) (hp : HP) (X : Nat → Prop) (mo dk lv nb : Nat) (lvl : Nat → Nat) (row : Nat → Nat → Nat) (th : Int32) (d : Row) (V : BV) (rm dt : Int32) (hm : mA mo dk lv nb lvl row th d V rm dt hp) (hX : mX X mo dk lv nb hp) (hD : mD dk row V) (lz : Nat) (hl4 : lz < 4) (hz : bN V lz = 0) (hA0 : hIn A hp) : hWr l yX3_spares wsX3_spares 2 42 0 0 G A hp [.ref mo, .int (nI lz)] (fun ro hp' => ro = some (.int (-1)) ∧ mP X mo (nI 0) d V rm dt hp hp') := by
  refine Met.ofW (cc := cX3_spares) (maxL := 2) (ret := (some .int)) (by decide) rfl ?_
  intro p e s m args below meth c s₁ B hml hv
  obtain ⟨rfl, hV0, hK0, hA⟩ := hv
  have hx := B.exec
  have hb := B.bytes
  have hr := B.returns
  have hts := atoms_spec (ws := wsX3_spares) B.pre
  have hown : s.vm.findClass RX3 = some m.cls := findClass_of_methodNamed B.named
  have hlocks := B.notSynchronized
  have hF : CallFix p m c cX3_spares 2 s [.ref mo, .int (nI lz)].toArray wsX3_spares RX3 := ⟨hx, hb, hml, hown, hts⟩
  have hw0 := hts (.fieldLink RX3 27 "SlipLevelsModel" "thrown" "I") (by decide +kernel)
  have hw1 := hts (.fieldLink RX3 20 "SlipLevelsModel" "levels" "[[[I") (by decide +kernel)
  have hi3 : ∀ w ∈ u_ws RX3 TX3 4, w ∈ wsX3_spares := by
    intro w h
    unfold wsX3_spares
    simp only [List.mem_cons, List.mem_append, h, true_or, or_true]
  have hS : va_S A s.heap s.heap [] := va_S.rf
  have hl := lv_entry ([.ref mo, .int (nI lz)]) (n := 2) (Nat.le_of_ble_eq_true rfl)
  rw [lg_entry_eq]
  generalize (lg_sl ([.ref mo, .int (nI lz)]) ++ List.replicate (2 - (lg_sl ([.ref mo, .int (nI lz)])).length) Slot.unset).toArray = ls at hl ⊢
  replace hl : lv_has ls 2 [(0, .ref mo), (1, .int (nI lz))] := hl
  have hn := hm.le
  have hK : mKp X hp hp := mKp.rf
  have hnl := hn lz
  refine lv_aload_n hx hb dX3_spares_0 rfl (lv_at hl 0 rfl) ?_
  refine lv_iconst (v := nI 0) hx hb dX3_spares_1 (by decide) ?_
  refine h_put (v := .int (nI 0)) hx hb hts hi3 tyX3 tyX3_ok nmX3 hown hK0 hV0 hA0 hS hm.cmo rfl 0 (by decide) hw0 rfl (by rfl) (by rfl) (Nat.le_of_ble_eq_true rfl) dX3_spares_2 (fun H locs hV0 hA0 hS => ?_)
  have hm : mA mo dk lv nb lvl row ((nI 0)) d V rm dt (hput hp mo (eO 3 [.int (nI 0), .ref dk, .ref lv, .ref nb])) := hm.setTh (nI 0)
  have hX : mX X mo dk lv nb (hput hp mo (eO 3 [.int (nI 0), .ref dk, .ref lv, .ref nb])) := hX.put _ _
  have hK : mKp X hp (hput hp mo (eO 3 [.int (nI 0), .ref dk, .ref lv, .ref nb])) := hK.put hX.1.1
  have hn := hm.le
  refine lv_iload_n hx hb dX3_spares_5 rfl (lv_at hl 1 rfl) ?_
  refine h_rdS (As := [.int (nI lz)]) (rest := []) hF (c_X3_isLevel l G (hput hp mo (eO 3 [.int (nI 0), .ref dk, .ref lv, .ref nb])) (nI lz)) 1 gX3_spares_X3_isLevel rfl (by decide +kernel) ⟨Nat.le_of_ble_eq_true rfl, Nat.le_of_ble_eq_true rfl⟩ hK0 hV0 rfl hl.1 rfl (Nat.le_of_ble_eq_true rfl) (Nat.le_of_ble_eq_true rfl) (Nat.le_of_ble_eq_true rfl) dX3_spares_6 ?_
  refine h_if_neB (tgt := 18) hx hb dX3_spares_9 (by decide) (fun c_9 => ?_) (fun c_9 => absurd ((isN_y (x := lz) (c := 3) (by omega) (by omega)).symm.trans c_9) (by decide))
  refine lv_aload_n hx hb dX3_spares_18 rfl (lv_at hl 0 rfl) ?_
  refine h_get (v := .ref lv) hx hb hts hi3 hown hK0 hV0 hm.cmo rfl 2 (by decide) hw1 rfl dX3_spares_19 ?_
  refine lv_iload_n hx hb dX3_spares_22 rfl (lv_at hl 1 rfl) ?_
  refine h_aaldE (i := lz) hm.clv hx hb hK0 hV0 rfl rfl (by omega) (by omega) dX3_spares_23 ?_
  refine h_alenQ (hm.clvl (l := lz) (by omega)) hx hb hK0 hV0 rfl dX3_spares_24 ?_
  refine h_if_ne (a := bN V lz) (tgt := 32) hx hb dX3_spares_25 (by decide) (by omega) (fun c_25 => absurd hz c_25) (fun c_25 => ?_)
  refine lv_iconst (v := (-1)) hx hb dX3_spares_28 (by decide) ?_
  refine lv_goto (tgt := 43) hx hb dX3_spares_29 (by decide) ?_
  exact W.iret hx hb hr (h_qW ⟨rfl, dk, lv, nb, lvl, row, hm, hX, hD, hK⟩ hV0 hA0 hS) hS.2.2 dX3_spares_43 hlocks

set_option maxHeartbeats 1000000 in
set_option maxRecDepth 100000 in
theorem c_X3_spares (l : Launch) (G : hG) (A : Nat → Prop) (hp : HP) (X : Nat → Prop) (mo dk lv nb : Nat) (lvl : Nat → Nat) (row : Nat → Nat → Nat) (th : Int32) (d : Row) (V : BV) (rm dt : Int32) (hm : mA mo dk lv nb lvl row th d V rm dt hp) (hX : mX X mo dk lv nb hp) (hD : mD dk row V) (hI : ∀ l, l < 4 → bN V l ≤ 2) (lz : Nat) (hl4 : lz < 4) (hz : ¬ bN V lz = 0) (hA0 : hIn A hp) : hWr l yX3_spares wsZ_spares 5 119 17 343 G A hp [.ref mo, .int (nI lz)] (fun ro hp' => ro = some (.int (nI (snA (fun l => ltS V l 1) 4) - nI (snA (fun l => ltS ((trB V lz)) l 1) 4))) ∧ mP X mo (nI 0) d V rm dt hp hp') := by
  refine Met.ofW (cc := cX3_spares) (maxL := 2) (ret := (some .int)) (by decide) rfl ?_
  intro p e s m args below meth c s₁ B hml hv
  obtain ⟨rfl, hV0, hK0, hA⟩ := hv
  have hx := B.exec
  have hb := B.bytes
  have hr := B.returns
  have hts := atoms_spec (ws := wsZ_spares) B.pre
  have hown : s.vm.findClass RX3 = some m.cls := findClass_of_methodNamed B.named
  have hlocks := B.notSynchronized
  have hF : CallFix p m c cX3_spares 2 s [.ref mo, .int (nI lz)].toArray wsZ_spares RX3 := ⟨hx, hb, hml, hown, hts⟩
  have hw0 := hts (.fieldLink RX3 27 "SlipLevelsModel" "thrown" "I") (by decide +kernel)
  have hw1 := hts (.fieldLink RX3 20 "SlipLevelsModel" "levels" "[[[I") (by decide +kernel)
  have hi3 : ∀ w ∈ u_ws RX3 TX3 4, w ∈ wsZ_spares := by
    intro w h
    unfold wsZ_spares wsX3_spares
    simp only [List.mem_cons, List.mem_append, h, true_or, or_true]
  have hS : va_S A s.heap s.heap [] := va_S.rf
  have hl := lv_entry ([.ref mo, .int (nI lz)]) (n := 2) (Nat.le_of_ble_eq_true rfl)
  rw [lg_entry_eq]
  generalize (lg_sl ([.ref mo, .int (nI lz)]) ++ List.replicate (2 - (lg_sl ([.ref mo, .int (nI lz)])).length) Slot.unset).toArray = ls at hl ⊢
  replace hl : lv_has ls 2 [(0, .ref mo), (1, .int (nI lz))] := hl
  have hn := hm.le
  have hK : mKp X hp hp := mKp.rf
  have hnl := hn lz
  refine lv_aload_n hx hb dX3_spares_0 rfl (lv_at hl 0 rfl) ?_
  refine lv_iconst (v := nI 0) hx hb dX3_spares_1 (by decide) ?_
  refine h_put (v := .int (nI 0)) hx hb hts hi3 tyX3 tyX3_ok nmX3 hown hK0 hV0 hA0 hS hm.cmo rfl 0 (by decide) hw0 rfl (by rfl) (by rfl) (Nat.le_of_ble_eq_true rfl) dX3_spares_2 (fun H locs hV0 hA0 hS => ?_)
  have hm : mA mo dk lv nb lvl row ((nI 0)) d V rm dt (hput hp mo (eO 3 [.int (nI 0), .ref dk, .ref lv, .ref nb])) := hm.setTh (nI 0)
  have hX : mX X mo dk lv nb (hput hp mo (eO 3 [.int (nI 0), .ref dk, .ref lv, .ref nb])) := hX.put _ _
  have hK : mKp X hp (hput hp mo (eO 3 [.int (nI 0), .ref dk, .ref lv, .ref nb])) := hK.put hX.1.1
  have hn := hm.le
  refine lv_iload_n hx hb dX3_spares_5 rfl (lv_at hl 1 rfl) ?_
  refine h_rdS (As := [.int (nI lz)]) (rest := []) hF (c_X3_isLevel l G (hput hp mo (eO 3 [.int (nI 0), .ref dk, .ref lv, .ref nb])) (nI lz)) 1 gZ_spares_X3_isLevel rfl (by decide +kernel) ⟨Nat.le_of_ble_eq_true rfl, Nat.le_of_ble_eq_true rfl⟩ hK0 hV0 rfl hl.1 rfl (Nat.le_of_ble_eq_true rfl) (Nat.le_of_ble_eq_true rfl) (Nat.le_of_ble_eq_true rfl) dX3_spares_6 ?_
  refine h_if_neB (tgt := 18) hx hb dX3_spares_9 (by decide) (fun c_9 => ?_) (fun c_9 => absurd ((isN_y (x := lz) (c := 3) (by omega) (by omega)).symm.trans c_9) (by decide))
  refine lv_aload_n hx hb dX3_spares_18 rfl (lv_at hl 0 rfl) ?_
  refine h_get (v := .ref lv) hx hb hts hi3 hown hK0 hV0 hm.cmo rfl 2 (by decide) hw1 rfl dX3_spares_19 ?_
  refine lv_iload_n hx hb dX3_spares_22 rfl (lv_at hl 1 rfl) ?_
  refine h_aaldE (i := lz) hm.clv hx hb hK0 hV0 rfl rfl (by omega) (by omega) dX3_spares_23 ?_
  refine h_alenQ (hm.clvl (l := lz) (by omega)) hx hb hK0 hV0 rfl dX3_spares_24 ?_
  refine h_if_ne (a := bN V lz) (tgt := 32) hx hb dX3_spares_25 (by decide) (by omega) (fun c_25 => ?_) (fun c_25 => absurd c_25 hz)
  refine lv_aload_n hx hb dX3_spares_32 rfl (lv_at hl 0 rfl) ?_
  refine h_rdV (As := []) (rest := []) hF (c_X3_slips l G (hput hp mo (eO 3 [.int (nI 0), .ref dk, .ref lv, .ref nb])) mo dk lv nb lvl row ((nI 0)) d V rm dt hm) 0 gZ_spares_X3_slips rfl (by decide +kernel) ⟨Nat.le_of_ble_eq_true rfl, Nat.le_of_ble_eq_true rfl⟩ hK0 hV0 hm.cmo rfl rfl rfl hl.1 rfl (Nat.le_of_ble_eq_true rfl) (Nat.le_of_ble_eq_true rfl) (Nat.le_of_ble_eq_true rfl) dX3_spares_33 ?_
  refine lv_aload_n hx hb dX3_spares_36 rfl (lv_at hl 0 rfl) ?_
  refine lv_iload_n hx hb dX3_spares_37 rfl (lv_at hl 1 rfl) ?_
  refine lv_iconst (v := nI 1) hx hb dX3_spares_38 (by decide) ?_
  refine h_wrV (As := [.int (nI lz), .int (nI 1)]) (rest := [.int (nI (snA (fun l => ltS V l 1) 4))]) hF (c_X3_tried1 l G A (hput hp mo (eO 3 [.int (nI 0), .ref dk, .ref lv, .ref nb])) X mo dk lv nb lvl row ((nI 0)) d V rm dt hm hX hD hI lz (by omega) hA0) 2 gZ_spares_X3_tried rfl (by decide +kernel) ⟨Nat.le_of_ble_eq_true rfl, Nat.le_of_ble_eq_true rfl⟩ hK0 hV0 hA hS hm.cmo rfl rfl rfl hl.1 rfl (Nat.le_of_ble_eq_true rfl) ⟨Nat.le_of_ble_eq_true rfl, Nat.le_of_ble_eq_true rfl⟩ dX3_spares_39 (fun ro hp1 H locs hP1 hV0 hA0 hS => ?_)
  obtain ⟨rfl, dk2, lv2, nb2, lvl2, row2, hm2, hX2, hD2, hK2⟩ := hP1
  refine lv_isub hx hb dX3_spares_42 ?_
  exact W.iret hx hb hr (h_qW ⟨rfl, dk2, lv2, nb2, lvl2, row2, hm2, hX2, hD2, hK.tr hK2⟩ hV0 hA0 hS) hS.2.2 dX3_spares_43 hlocks

set_option maxHeartbeats 1000000 in
set_option maxRecDepth 100000 in
theorem c_X3_advise (l : Launch) (G : hG) (A : Nat → Prop) (hp : HP) (X : Nat → Prop) (mo dk lv nb : Nat) (lvl : Nat → Nat) (row : Nat → Nat → Nat) (th : Int32) (d : Row) (V : BV) (rm dt : Int32) (hm : mA mo dk lv nb lvl row th d V rm dt hp) (hX : mX X mo dk lv nb hp) (hD : mD dk row V) (hI : ∀ l, l < 4 → bN V l ≤ 2) (hA0 : hIn A hp) : hWr l yX3_advise wsZ_advise 5 119 68 1372 G A hp [.ref mo] (fun ro hp' => ro = some (.int ((avB d V 4).1)) ∧ mP X mo (nI 0) d V rm dt hp hp') := by
  refine Met.ofW (cc := cX3_advise) (maxL := 5) (ret := (some .int)) (by decide) rfl ?_
  intro p e s m args below meth c s₁ B hml hv
  obtain ⟨rfl, hV0, hK0, hA⟩ := hv
  have hx := B.exec
  have hb := B.bytes
  have hr := B.returns
  have hts := atoms_spec (ws := wsZ_advise) B.pre
  have hown : s.vm.findClass RX3 = some m.cls := findClass_of_methodNamed B.named
  have hlocks := B.notSynchronized
  have hF : CallFix p m c cX3_advise 5 s [.ref mo].toArray wsZ_advise RX3 := ⟨hx, hb, hml, hown, hts⟩
  have hw0 := hts (.fieldLink RX3 27 "SlipLevelsModel" "thrown" "I") (by decide +kernel)
  have hw1 := hts (.fieldLink RX3 20 "SlipLevelsModel" "levels" "[[[I") (by decide +kernel)
  have hi3 : ∀ w ∈ u_ws RX3 TX3 4, w ∈ wsZ_advise := by
    intro w h
    unfold wsZ_advise wsX3_advise
    simp only [List.mem_cons, List.mem_append, h, true_or, or_true]
  have hS : va_S A s.heap s.heap [] := va_S.rf
  have hl := lv_entry ([.ref mo]) (n := 5) (Nat.le_of_ble_eq_true rfl)
  rw [lg_entry_eq]
  generalize (lg_sl ([.ref mo]) ++ List.replicate (5 - (lg_sl ([.ref mo])).length) Slot.unset).toArray = ls at hl ⊢
  replace hl : lv_has ls 5 [(0, .ref mo)] := hl
  have hn := hm.le
  have hK : mKp X hp hp := mKp.rf
  refine lv_aload_n hx hb dX3_advise_0 rfl (lv_at hl 0 rfl) ?_
  refine lv_iconst (v := nI 0) hx hb dX3_advise_1 (by decide) ?_
  refine h_put (v := .int (nI 0)) hx hb hts hi3 tyX3 tyX3_ok nmX3 hown hK0 hV0 hA0 hS hm.cmo rfl 0 (by decide) hw0 rfl (by rfl) (by rfl) (Nat.le_of_ble_eq_true rfl) dX3_advise_2 (fun H locs hV0 hA0 hS => ?_)
  have hm : mA mo dk lv nb lvl row ((nI 0)) d V rm dt (hput hp mo (eO 3 [.int (nI 0), .ref dk, .ref lv, .ref nb])) := hm.setTh (nI 0)
  have hX : mX X mo dk lv nb (hput hp mo (eO 3 [.int (nI 0), .ref dk, .ref lv, .ref nb])) := hX.put _ _
  have hK : mKp X hp (hput hp mo (eO 3 [.int (nI 0), .ref dk, .ref lv, .ref nb])) := hK.put hX.1.1
  have hn := hm.le
  refine lv_iconst (v := (-1)) hx hb dX3_advise_5 (by decide) ?_
  refine lv_istore_n (lv' := [(1, .int (-1)), (0, .ref mo)]) hx hb dX3_advise_6 rfl hl (by decide) rfl (fun ls hl => ?_)
  refine lv_iconst (v := nI 0) hx hb dX3_advise_7 (by decide) ?_
  refine lv_istore_n (lv' := [(2, .int (nI 0)), (1, .int (-1)), (0, .ref mo)]) hx hb dX3_advise_8 rfl hl (by decide) rfl (fun ls hl => ?_)
  refine lv_iconst (v := nI 0) hx hb dX3_advise_9 (by decide) ?_
  refine lv_istore_n (lv' := [(3, .int (nI 0)), (2, .int (nI 0)), (1, .int (-1)), (0, .ref mo)]) hx hb dX3_advise_10 rfl hl (by decide) rfl (fun ls hl => ?_)
  replace hl : lv_has ls 5 [(3, .int (nI 0)), (1, .int ((avB d V 0).1)), (2, .int ((avB d V 0).2)), (0, .ref mo)] := lv_sub hl [0, 2, 1, 3] rfl
  refine h_loopW (G := G) (A := A) (H0 := s.heap) (Wf := fun i H locs ls => W p l e (headSpec wsZ_advise { frames := 5, cells := 68, slots := 1372, locals := 119 }).room s m ([.ref mo].toArray) below meth c H locs (17 * i) (343 * i) (MQ below (hW G A (fun ro hp' => ro = some (.int ((avB d V 4).1)) ∧ mP X mo (nI 0) d V rm dt hp hp')) ([.ref mo].toArray) s 68 1372 A) (F0 m 11 ls [])) 4 (fun i => [(3, .int (nI i)), (1, .int ((avB d V i).1)), (2, .int ((avB d V i).2)), (0, .ref mo)]) (fun i hp' => mP X mo (nI 0) d V rm dt hp hp') (fun i hi11 hpL H locs hI11 hV0 hA0 hS ih11 ls hl => ?_) 0 (Nat.zero_le _) _ H locs ⟨dk, lv, nb, lvl, row, hm, hX, hD, hK⟩ hV0 hA0 hS ls hl
  obtain ⟨dk1, lv1, nb1, lvl1, row1, hm, hX, hD, hKp⟩ := hI11
  have hn := hm.le
  have hni := hn i
  refine lv_iload_n hx hb dX3_advise_11 rfl (lv_at hl 0 rfl) ?_
  refine lv_iconst (v := nI 4) hx hb dX3_advise_12 (by decide) ?_
  refine h_icmp_ge (a := i) (b := 4) (tgt := 62) hx hb dX3_advise_13 (by decide) (by omega) (by omega) (fun c_13 => ?_) (fun c_13 => ?_)
  · refine lv_iload_n hx hb dX3_advise_62 rfl (lv_at hl 1 rfl) ?_
    obtain rfl : i = 4 := by omega
    refine W.widen (k := 68) (n := 1372) (by omega) (by omega) ?_
    exact W.iret hx hb hr (h_qW ⟨rfl, dk1, lv1, nb1, lvl1, row1, hm, hX, hD, hKp⟩ hV0 hA0 hS) hS.2.2 dX3_advise_63 hlocks
  · refine lv_aload_n hx hb dX3_advise_16 rfl (lv_at hl 3 rfl) ?_
    refine h_get (v := .ref lv1) hx hb hts hi3 hown hK0 hV0 hm.cmo rfl 2 (by decide) hw1 rfl dX3_advise_17 ?_
    refine lv_iload_n hx hb dX3_advise_20 rfl (lv_at hl 0 rfl) ?_
    refine h_aaldE (i := i) hm.clv hx hb hK0 hV0 rfl rfl (by omega) (by omega) dX3_advise_21 ?_
    refine h_alenQ (hm.clvl (l := i) (by omega)) hx hb hK0 hV0 rfl dX3_advise_22 ?_
    refine h_if_ne (a := bN V i) (tgt := 29) hx hb dX3_advise_23 (by decide) (by omega) (fun c_23 => ?_) (fun c_23 => ?_)
    · refine lv_aload_n hx hb dX3_advise_29 rfl (lv_at hl 3 rfl) ?_
      refine lv_iload_n hx hb dX3_advise_30 rfl (lv_at hl 0 rfl) ?_
      refine lv_iconst (v := nI 0) hx hb dX3_advise_31 (by decide) ?_
      refine h_wrV (As := [.int (nI i), .int (nI 0)]) (rest := []) hF (c_X3_tried0 l G A hpL X mo dk1 lv1 nb1 lvl1 row1 ((nI 0)) d V rm dt hm hX hD hI i (by omega) hA0) 2 gZ_advise_X3_tried rfl (by decide +kernel) ⟨Nat.le_of_ble_eq_true rfl, Nat.le_of_ble_eq_true rfl⟩ hK0 hV0 hA hS hm.cmo rfl rfl rfl hl.1 rfl (Nat.le_of_ble_eq_true rfl) ⟨by show _ ≤ 68; omega, by show _ ≤ 1372; omega⟩ dX3_advise_32 (fun ro hp1 H locs hP1 hV0 hA0 hS => ?_)
      obtain ⟨rfl, dk2, lv2, nb2, lvl2, row2, hm2, hX2, hD2, hK2⟩ := hP1
      refine lv_istore (lv' := [(4, .int (mdA d V i)), (3, .int (nI i)), (1, .int ((avB d V i).1)), (2, .int ((avB d V i).2)), (0, .ref mo)]) hx hb dX3_advise_35 hl (by decide) rfl (fun ls hl => ?_)
      refine lv_iload_n hx hb dX3_advise_37 rfl (lv_at hl 2 rfl) ?_
      refine lv_iconst (v := (-1)) hx hb dX3_advise_38 (by decide) ?_
      refine lv_icmp_eq (tgt := 51) hx hb dX3_advise_39 (by decide) (fun c_39 => ?_) (fun c_39 => ?_)
      · refine lv_iload_n hx hb dX3_advise_51 rfl (lv_at hl 1 rfl) ?_
        refine lv_istore_n (lv' := [(1, .int (nI i)), (4, .int (mdA d V i)), (3, .int (nI i)), (2, .int ((avB d V i).2)), (0, .ref mo)]) hx hb dX3_advise_52 rfl hl (by decide) rfl (fun ls hl => ?_)
        refine lv_iload hx hb dX3_advise_53 (lv_at hl 1 rfl) ?_
        refine lv_istore_n (lv' := [(2, .int (mdA d V i)), (1, .int (nI i)), (4, .int (mdA d V i)), (3, .int (nI i)), (0, .ref mo)]) hx hb dX3_advise_55 rfl hl (by decide) rfl (fun ls hl => ?_)
        refine lv_iinc (v := nI (i + 1)) (lv' := [(3, .int (nI (i + 1))), (2, .int (mdA d V i)), (1, .int (nI i)), (4, .int (mdA d V i)), (0, .ref mo)]) hx hb dX3_advise_56 hl (k := 3) rfl (nI_add (i) 1) (by decide) rfl (fun ls hl => ?_)
        refine lv_goto (tgt := 11) hx hb dX3_advise_59 (by decide) ?_
        refine W.widen (k := 17 * (i + 1)) (n := 343 * (i + 1)) (by omega) (by omega) ?_
        have hev : avB d V (i + 1) = _ := avB_y c_23 (Or.inl c_39)
        exact ih11 _ H locs (by omega) ⟨dk2, lv2, nb2, lvl2, row2, hm2, hX2, hD2, hKp.tr hK2⟩ hV0 hA0 hS ls (by show lv_has ls 5 [(3, .int (nI (i + 1))), (1, .int ((avB d V (i + 1)).1)), (2, .int ((avB d V (i + 1)).2)), (0, .ref mo)]; rw [hev]; exact lv_sub hl [0, 2, 1, 4] rfl)
      · refine lv_iload hx hb dX3_advise_42 (lv_at hl 0 rfl) ?_
        refine lv_iload_n hx hb dX3_advise_44 rfl (lv_at hl 3 rfl) ?_
        refine lv_icmp_lt (tgt := 51) hx hb dX3_advise_45 (by decide) (fun c_45 => ?_) (fun c_45 => ?_)
        · refine lv_iload_n hx hb dX3_advise_51 rfl (lv_at hl 1 rfl) ?_
          refine lv_istore_n (lv' := [(1, .int (nI i)), (4, .int (mdA d V i)), (3, .int (nI i)), (2, .int ((avB d V i).2)), (0, .ref mo)]) hx hb dX3_advise_52 rfl hl (by decide) rfl (fun ls hl => ?_)
          refine lv_iload hx hb dX3_advise_53 (lv_at hl 1 rfl) ?_
          refine lv_istore_n (lv' := [(2, .int (mdA d V i)), (1, .int (nI i)), (4, .int (mdA d V i)), (3, .int (nI i)), (0, .ref mo)]) hx hb dX3_advise_55 rfl hl (by decide) rfl (fun ls hl => ?_)
          refine lv_iinc (v := nI (i + 1)) (lv' := [(3, .int (nI (i + 1))), (2, .int (mdA d V i)), (1, .int (nI i)), (4, .int (mdA d V i)), (0, .ref mo)]) hx hb dX3_advise_56 hl (k := 3) rfl (nI_add (i) 1) (by decide) rfl (fun ls hl => ?_)
          refine lv_goto (tgt := 11) hx hb dX3_advise_59 (by decide) ?_
          refine W.widen (k := 17 * (i + 1)) (n := 343 * (i + 1)) (by omega) (by omega) ?_
          have hev : avB d V (i + 1) = _ := avB_y c_23 (Or.inr c_45)
          exact ih11 _ H locs (by omega) ⟨dk2, lv2, nb2, lvl2, row2, hm2, hX2, hD2, hKp.tr hK2⟩ hV0 hA0 hS ls (by show lv_has ls 5 [(3, .int (nI (i + 1))), (1, .int ((avB d V (i + 1)).1)), (2, .int ((avB d V (i + 1)).2)), (0, .ref mo)]; rw [hev]; exact lv_sub hl [0, 2, 1, 4] rfl)
        · refine lv_goto (tgt := 56) hx hb dX3_advise_48 (by decide) ?_
          refine lv_iinc (v := nI (i + 1)) (lv' := [(3, .int (nI (i + 1))), (4, .int (mdA d V i)), (1, .int ((avB d V i).1)), (2, .int ((avB d V i).2)), (0, .ref mo)]) hx hb dX3_advise_56 hl (k := 1) rfl (nI_add (i) 1) (by decide) rfl (fun ls hl => ?_)
          refine lv_goto (tgt := 11) hx hb dX3_advise_59 (by decide) ?_
          refine W.widen (k := 17 * (i + 1)) (n := 343 * (i + 1)) (by omega) (by omega) ?_
          have hev : avB d V (i + 1) = _ := avB_k c_23 c_39 c_45
          exact ih11 _ H locs (by omega) ⟨dk2, lv2, nb2, lvl2, row2, hm2, hX2, hD2, hKp.tr hK2⟩ hV0 hA0 hS ls (by show lv_has ls 5 [(3, .int (nI (i + 1))), (1, .int ((avB d V (i + 1)).1)), (2, .int ((avB d V (i + 1)).2)), (0, .ref mo)]; rw [hev]; exact lv_sub hl [0, 2, 3, 4] rfl)
    · refine lv_goto (tgt := 56) hx hb dX3_advise_26 (by decide) ?_
      refine lv_iinc (v := nI (i + 1)) (lv' := [(3, .int (nI (i + 1))), (1, .int ((avB d V i).1)), (2, .int ((avB d V i).2)), (0, .ref mo)]) hx hb dX3_advise_56 hl (k := 0) rfl (nI_add (i) 1) (by decide) rfl (fun ls hl => ?_)
      refine lv_goto (tgt := 11) hx hb dX3_advise_59 (by decide) ?_
      refine W.widen (k := 17 * (i + 1)) (n := 343 * (i + 1)) (by omega) (by omega) ?_
      have hev : avB d V (i + 1) = _ := avB_n c_23
      exact ih11 _ H locs (by omega) ⟨dk1, lv1, nb1, lvl1, row1, hm, hX, hD, hKp⟩ hV0 hA0 hS ls (by show lv_has ls 5 [(3, .int (nI (i + 1))), (1, .int ((avB d V (i + 1)).1)), (2, .int ((avB d V (i + 1)).2)), (0, .ref mo)]; rw [hev]; exact lv_sub hl [0, 1, 2, 3] rfl)

set_option maxHeartbeats 1000000 in
set_option maxRecDepth 100000 in
theorem c_X3_init (l : Launch) (G : hG) (A : Nat → Prop) (hp : HP) (X : Nat → Prop) (mo : Nat) (hXe : ∀ q, X q → ∃ e, hp q = some e) (hXo : ¬ X mo) (he : hp mo = some (eO 3 [.int 0, .null, .null, .null])) (hA0 : hIn A hp) : hWr l yX3_init wsZ_init 1 21 7 72 G A hp [.ref mo] (fun ro hp' => ro = none ∧ mP X mo 0 emR V0 (nI 4) 0 hp hp') := by
  refine Met.ofW (cc := cX3_init) (maxL := 1) (ret := none) (by decide) rfl ?_
  intro p e s m args below meth c s₁ B hml hv
  obtain ⟨rfl, hV0, hK0, hA⟩ := hv
  have hx := B.exec
  have hb := B.bytes
  have hr := B.returns
  have hts := atoms_spec (ws := wsZ_init) B.pre
  have hown : s.vm.findClass RX3 = some m.cls := findClass_of_methodNamed B.named
  have hlocks := B.notSynchronized
  have hin0 : meth.name = "<init>" := (name_of_methodNamed B.named B.method).1
  have hF : CallFix p m c cX3_init 1 s [.ref mo].toArray wsZ_init RX3 := ⟨hx, hb, hml, hown, hts⟩
  have hw0 := hts (.methodLink RX3 1 objectInit) (by decide +kernel)
  have hw1 := hts (.instanceMethod objectInit) (by decide +kernel)
  have hw2 := hts (.code objectInit ⟨#[0xb1]⟩ 1 none) (by decide +kernel)
  have hw3 := hts (.fieldLink RX3 13 "SlipLevelsModel" "desk" "[I") (by decide +kernel)
  have hw4 := hts (.classLink RX3 17 "[[I") (by decide +kernel)
  have hw5 := hts (.classLink RX3 19 "[I") (by decide +kernel)
  have hw6 := hts (.fieldLink RX3 20 "SlipLevelsModel" "levels" "[[[I") (by decide +kernel)
  have hw7 := hts (.arrayClass .int) (by decide +kernel)
  have hw8 := hts (.fieldLink RX3 24 "SlipLevelsModel" "numbers" "[I") (by decide +kernel)
  have hi3 : ∀ w ∈ u_ws RX3 TX3 4, w ∈ wsZ_init := by
    intro w h
    unfold wsZ_init wsX3_init
    simp only [List.mem_cons, List.mem_append, h, true_or, or_true]
  have hS : va_S A s.heap s.heap [] := va_S.rf
  have hl := lv_entry ([.ref mo]) (n := 1) (Nat.le_of_ble_eq_true rfl)
  rw [lg_entry_eq]
  generalize (lg_sl ([.ref mo]) ++ List.replicate (1 - (lg_sl ([.ref mo])).length) Slot.unset).toArray = ls at hl ⊢
  replace hl : lv_has ls 1 [(0, .ref mo)] := hl
  refine lv_aload_n hx hb dX3_init_0 rfl (lv_at hl 0 rfl) ?_
  refine W.objInit hx hb hown hw0 hw1 hw2 rfl (by rw [hml]; exact hl.1) rfl dX3_init_1 (Nat.le_of_ble_eq_true rfl) (Nat.le_of_ble_eq_true rfl) ?_
  refine W.eq (g2 := F0 m 4 ls []) rfl ?_
  refine lv_aload_n hx hb dX3_init_4 rfl (lv_at hl 0 rfl) ?_
  refine h_wrS (As := []) (rest := [.ref mo]) hF (c_X3_empty l G A hp  hA0) 0 gZ_init_X3_empty rfl (by decide +kernel) ⟨Nat.le_of_ble_eq_true rfl, Nat.le_of_ble_eq_true rfl⟩ hK0 hV0 hA hS rfl hl.1 rfl (Nat.le_of_ble_eq_true rfl) ⟨Nat.le_of_ble_eq_true rfl, Nat.le_of_ble_eq_true rfl⟩ dX3_init_5 (fun ro hp1 H locs hP1 hV0 hA0 hS => ?_)
  obtain ⟨q1, rfl, hqq1, rfl⟩ := hP1
  have hn_q1_mo : mo ≠ q1 := fun h => absurd ((he).symm.trans ((congrArg hp h).trans hqq1)) (fun h => by cases h)
  have he1 : (hput hp q1 (eI 64 (fun _ => -1))) q1 = some (eI 64 (fun _ => -1)) := hput_s _ _ _
  have he2 : (hput hp q1 (eI 64 (fun _ => -1))) mo = some (eO 3 [.int 0, .null, .null, .null]) := (hput_n _ _ hn_q1_mo).trans he
  refine h_put (v := .ref q1) hx hb hts hi3 tyX3 tyX3_ok nmX3 hown hK0 hV0 hA0 hS he2 rfl 1 (by decide) hw3 rfl (by rfl) (by rfl) (Nat.le_of_ble_eq_true rfl) dX3_init_8 (fun H locs hV0 hA0 hS => ?_)
  have he3 : (hput (hput hp q1 (eI 64 (fun _ => -1))) mo (eO 3 [.int 0, .ref q1, .null, .null])) mo = some (eO 3 [.int 0, .ref q1, .null, .null]) := hput_s _ _ _
  have he4 : (hput (hput hp q1 (eI 64 (fun _ => -1))) mo (eO 3 [.int 0, .ref q1, .null, .null])) q1 = some (eI 64 (fun _ => -1)) := (hput_n _ _ (Ne.symm hn_q1_mo)).trans ((by first | exact he1 | exact (hput_n _ _ (Ne.symm hn_q1_mo)).symm.trans he1))
  refine lv_aload_n hx hb dX3_init_11 rfl (lv_at hl 0 rfl) ?_
  refine lv_iconst (v := nI 4) hx hb dX3_init_12 (by decide) ?_
  refine h_newqA (t := 4) (ty := .array .int) hx hb hK0.2.2.2.1 rfl hown hw4 hK0 hV0 hA0 hS hA (n := 4) (by omega) (Nat.le_of_ble_eq_true rfl) (Nat.le_of_ble_eq_true rfl) dX3_init_13 (fun q5 H hqq5 hV0 hA0 hS => ?_)
  have hn_q5_mo : mo ≠ q5 := fun h => absurd ((he3).symm.trans ((congrArg (hput (hput hp q1 (eI 64 (fun _ => -1))) mo (eO 3 [.int 0, .ref q1, .null, .null])) h).trans hqq5)) (fun h => by cases h)
  have hn_q5_q1 : q1 ≠ q5 := fun h => absurd ((he4).symm.trans ((congrArg (hput (hput hp q1 (eI 64 (fun _ => -1))) mo (eO 3 [.int 0, .ref q1, .null, .null])) h).trans hqq5)) (fun h => by cases h)
  have he6 : (hput (hput (hput hp q1 (eI 64 (fun _ => -1))) mo (eO 3 [.int 0, .ref q1, .null, .null])) q5 (eQ 4 4 (fun _ => none))) q5 = some (eQ 4 4 (fun _ => none)) := hput_s _ _ _
  have he7 : (hput (hput (hput hp q1 (eI 64 (fun _ => -1))) mo (eO 3 [.int 0, .ref q1, .null, .null])) q5 (eQ 4 4 (fun _ => none))) mo = some (eO 3 [.int 0, .ref q1, .null, .null]) := (hput_n _ _ hn_q5_mo).trans he3
  have he8 : (hput (hput (hput hp q1 (eI 64 (fun _ => -1))) mo (eO 3 [.int 0, .ref q1, .null, .null])) q5 (eQ 4 4 (fun _ => none))) q1 = some (eI 64 (fun _ => -1)) := (hput_n _ _ hn_q5_q1).trans he4
  refine lv_dup hx hb dX3_init_16 rfl ?_
  refine lv_iconst (v := nI 0) hx hb dX3_init_17 (by decide) ?_
  refine lv_iconst (v := nI 0) hx hb dX3_init_18 (by decide) ?_
  refine h_newqA (t := 3) (ty := .int) hx hb hK0.2.2.1 rfl hown hw5 hK0 hV0 hA0 hS hA (n := 0) (by omega) (Nat.le_of_ble_eq_true rfl) (Nat.le_of_ble_eq_true rfl) dX3_init_19 (fun q9 H hqq9 hV0 hA0 hS => ?_)
  have hn_q9_mo : mo ≠ q9 := fun h => absurd ((he7).symm.trans ((congrArg (hput (hput (hput hp q1 (eI 64 (fun _ => -1))) mo (eO 3 [.int 0, .ref q1, .null, .null])) q5 (eQ 4 4 (fun _ => none))) h).trans hqq9)) (fun h => by cases h)
  have hn_q9_q1 : q1 ≠ q9 := fun h => absurd ((he8).symm.trans ((congrArg (hput (hput (hput hp q1 (eI 64 (fun _ => -1))) mo (eO 3 [.int 0, .ref q1, .null, .null])) q5 (eQ 4 4 (fun _ => none))) h).trans hqq9)) (fun h => by cases h)
  have hn_q9_q5 : q5 ≠ q9 := fun h => absurd ((he6).symm.trans ((congrArg (hput (hput (hput hp q1 (eI 64 (fun _ => -1))) mo (eO 3 [.int 0, .ref q1, .null, .null])) q5 (eQ 4 4 (fun _ => none))) h).trans hqq9)) (fun h => by cases h)
  have he10 : (hput (hput (hput (hput hp q1 (eI 64 (fun _ => -1))) mo (eO 3 [.int 0, .ref q1, .null, .null])) q5 (eQ 4 4 (fun _ => none))) q9 (eQ 3 0 (fun _ => none))) q9 = some (eQ 3 0 (fun _ => none)) := hput_s _ _ _
  have he11 : (hput (hput (hput (hput hp q1 (eI 64 (fun _ => -1))) mo (eO 3 [.int 0, .ref q1, .null, .null])) q5 (eQ 4 4 (fun _ => none))) q9 (eQ 3 0 (fun _ => none))) mo = some (eO 3 [.int 0, .ref q1, .null, .null]) := (hput_n _ _ hn_q9_mo).trans he7
  have he12 : (hput (hput (hput (hput hp q1 (eI 64 (fun _ => -1))) mo (eO 3 [.int 0, .ref q1, .null, .null])) q5 (eQ 4 4 (fun _ => none))) q9 (eQ 3 0 (fun _ => none))) q1 = some (eI 64 (fun _ => -1)) := (hput_n _ _ hn_q9_q1).trans he8
  have he13 : (hput (hput (hput (hput hp q1 (eI 64 (fun _ => -1))) mo (eO 3 [.int 0, .ref q1, .null, .null])) q5 (eQ 4 4 (fun _ => none))) q9 (eQ 3 0 (fun _ => none))) q5 = some (eQ 4 4 (fun _ => none)) := (hput_n _ _ hn_q9_q5).trans he6
  refine h_aastA (i := 0) hx hb hK0 hV0 hA0 hS he13 he10 (by omega) (by omega) dX3_init_22 (fun H locs hV0 hA0 hS => ?_)
  have he14 : (hput (hput (hput (hput (hput hp q1 (eI 64 (fun _ => -1))) mo (eO 3 [.int 0, .ref q1, .null, .null])) q5 (eQ 4 4 (fun _ => none))) q9 (eQ 3 0 (fun _ => none))) q5 (eQ 4 4 (va_up (fun _ => none) 0 (some q9)))) q5 = some (eQ 4 4 (va_up (fun _ => none) 0 (some q9))) := hput_s _ _ _
  have he15 : (hput (hput (hput (hput (hput hp q1 (eI 64 (fun _ => -1))) mo (eO 3 [.int 0, .ref q1, .null, .null])) q5 (eQ 4 4 (fun _ => none))) q9 (eQ 3 0 (fun _ => none))) q5 (eQ 4 4 (va_up (fun _ => none) 0 (some q9)))) mo = some (eO 3 [.int 0, .ref q1, .null, .null]) := (hput_n _ _ hn_q5_mo).trans ((by first | exact he11 | exact (hput_n _ _ hn_q5_mo).symm.trans he11))
  have he16 : (hput (hput (hput (hput (hput hp q1 (eI 64 (fun _ => -1))) mo (eO 3 [.int 0, .ref q1, .null, .null])) q5 (eQ 4 4 (fun _ => none))) q9 (eQ 3 0 (fun _ => none))) q5 (eQ 4 4 (va_up (fun _ => none) 0 (some q9)))) q1 = some (eI 64 (fun _ => -1)) := (hput_n _ _ hn_q5_q1).trans ((by first | exact he12 | exact (hput_n _ _ hn_q5_q1).symm.trans he12))
  have he17 : (hput (hput (hput (hput (hput hp q1 (eI 64 (fun _ => -1))) mo (eO 3 [.int 0, .ref q1, .null, .null])) q5 (eQ 4 4 (fun _ => none))) q9 (eQ 3 0 (fun _ => none))) q5 (eQ 4 4 (va_up (fun _ => none) 0 (some q9)))) q9 = some (eQ 3 0 (fun _ => none)) := (hput_n _ _ (Ne.symm hn_q9_q5)).trans ((by first | exact he10 | exact (hput_n _ _ (Ne.symm hn_q9_q5)).symm.trans he10))
  refine lv_dup hx hb dX3_init_23 rfl ?_
  refine lv_iconst (v := nI 1) hx hb dX3_init_24 (by decide) ?_
  refine lv_iconst (v := nI 0) hx hb dX3_init_25 (by decide) ?_
  refine h_newqA (t := 3) (ty := .int) hx hb hK0.2.2.1 rfl hown hw5 hK0 hV0 hA0 hS hA (n := 0) (by omega) (Nat.le_of_ble_eq_true rfl) (Nat.le_of_ble_eq_true rfl) dX3_init_26 (fun q18 H hqq18 hV0 hA0 hS => ?_)
  have hn_q18_mo : mo ≠ q18 := fun h => absurd ((he15).symm.trans ((congrArg (hput (hput (hput (hput (hput hp q1 (eI 64 (fun _ => -1))) mo (eO 3 [.int 0, .ref q1, .null, .null])) q5 (eQ 4 4 (fun _ => none))) q9 (eQ 3 0 (fun _ => none))) q5 (eQ 4 4 (va_up (fun _ => none) 0 (some q9)))) h).trans hqq18)) (fun h => by cases h)
  have hn_q18_q1 : q1 ≠ q18 := fun h => absurd ((he16).symm.trans ((congrArg (hput (hput (hput (hput (hput hp q1 (eI 64 (fun _ => -1))) mo (eO 3 [.int 0, .ref q1, .null, .null])) q5 (eQ 4 4 (fun _ => none))) q9 (eQ 3 0 (fun _ => none))) q5 (eQ 4 4 (va_up (fun _ => none) 0 (some q9)))) h).trans hqq18)) (fun h => by cases h)
  have hn_q18_q5 : q5 ≠ q18 := fun h => absurd ((he14).symm.trans ((congrArg (hput (hput (hput (hput (hput hp q1 (eI 64 (fun _ => -1))) mo (eO 3 [.int 0, .ref q1, .null, .null])) q5 (eQ 4 4 (fun _ => none))) q9 (eQ 3 0 (fun _ => none))) q5 (eQ 4 4 (va_up (fun _ => none) 0 (some q9)))) h).trans hqq18)) (fun h => by cases h)
  have hn_q18_q9 : q9 ≠ q18 := fun h => absurd ((he17).symm.trans ((congrArg (hput (hput (hput (hput (hput hp q1 (eI 64 (fun _ => -1))) mo (eO 3 [.int 0, .ref q1, .null, .null])) q5 (eQ 4 4 (fun _ => none))) q9 (eQ 3 0 (fun _ => none))) q5 (eQ 4 4 (va_up (fun _ => none) 0 (some q9)))) h).trans hqq18)) (fun h => by cases h)
  have he19 : (hput (hput (hput (hput (hput (hput hp q1 (eI 64 (fun _ => -1))) mo (eO 3 [.int 0, .ref q1, .null, .null])) q5 (eQ 4 4 (fun _ => none))) q9 (eQ 3 0 (fun _ => none))) q5 (eQ 4 4 (va_up (fun _ => none) 0 (some q9)))) q18 (eQ 3 0 (fun _ => none))) q18 = some (eQ 3 0 (fun _ => none)) := hput_s _ _ _
  have he20 : (hput (hput (hput (hput (hput (hput hp q1 (eI 64 (fun _ => -1))) mo (eO 3 [.int 0, .ref q1, .null, .null])) q5 (eQ 4 4 (fun _ => none))) q9 (eQ 3 0 (fun _ => none))) q5 (eQ 4 4 (va_up (fun _ => none) 0 (some q9)))) q18 (eQ 3 0 (fun _ => none))) mo = some (eO 3 [.int 0, .ref q1, .null, .null]) := (hput_n _ _ hn_q18_mo).trans he15
  have he21 : (hput (hput (hput (hput (hput (hput hp q1 (eI 64 (fun _ => -1))) mo (eO 3 [.int 0, .ref q1, .null, .null])) q5 (eQ 4 4 (fun _ => none))) q9 (eQ 3 0 (fun _ => none))) q5 (eQ 4 4 (va_up (fun _ => none) 0 (some q9)))) q18 (eQ 3 0 (fun _ => none))) q1 = some (eI 64 (fun _ => -1)) := (hput_n _ _ hn_q18_q1).trans he16
  have he22 : (hput (hput (hput (hput (hput (hput hp q1 (eI 64 (fun _ => -1))) mo (eO 3 [.int 0, .ref q1, .null, .null])) q5 (eQ 4 4 (fun _ => none))) q9 (eQ 3 0 (fun _ => none))) q5 (eQ 4 4 (va_up (fun _ => none) 0 (some q9)))) q18 (eQ 3 0 (fun _ => none))) q5 = some (eQ 4 4 (va_up (fun _ => none) 0 (some q9))) := (hput_n _ _ hn_q18_q5).trans he14
  have he23 : (hput (hput (hput (hput (hput (hput hp q1 (eI 64 (fun _ => -1))) mo (eO 3 [.int 0, .ref q1, .null, .null])) q5 (eQ 4 4 (fun _ => none))) q9 (eQ 3 0 (fun _ => none))) q5 (eQ 4 4 (va_up (fun _ => none) 0 (some q9)))) q18 (eQ 3 0 (fun _ => none))) q9 = some (eQ 3 0 (fun _ => none)) := (hput_n _ _ hn_q18_q9).trans he17
  refine h_aastA (i := 1) hx hb hK0 hV0 hA0 hS he22 he19 (by omega) (by omega) dX3_init_29 (fun H locs hV0 hA0 hS => ?_)
  have he24 : (hput (hput (hput (hput (hput (hput (hput hp q1 (eI 64 (fun _ => -1))) mo (eO 3 [.int 0, .ref q1, .null, .null])) q5 (eQ 4 4 (fun _ => none))) q9 (eQ 3 0 (fun _ => none))) q5 (eQ 4 4 (va_up (fun _ => none) 0 (some q9)))) q18 (eQ 3 0 (fun _ => none))) q5 (eQ 4 4 (va_up (va_up (fun _ => none) 0 (some q9)) 1 (some q18)))) q5 = some (eQ 4 4 (va_up (va_up (fun _ => none) 0 (some q9)) 1 (some q18))) := hput_s _ _ _
  have he25 : (hput (hput (hput (hput (hput (hput (hput hp q1 (eI 64 (fun _ => -1))) mo (eO 3 [.int 0, .ref q1, .null, .null])) q5 (eQ 4 4 (fun _ => none))) q9 (eQ 3 0 (fun _ => none))) q5 (eQ 4 4 (va_up (fun _ => none) 0 (some q9)))) q18 (eQ 3 0 (fun _ => none))) q5 (eQ 4 4 (va_up (va_up (fun _ => none) 0 (some q9)) 1 (some q18)))) mo = some (eO 3 [.int 0, .ref q1, .null, .null]) := (hput_n _ _ hn_q5_mo).trans ((by first | exact he20 | exact (hput_n _ _ hn_q5_mo).symm.trans he20))
  have he26 : (hput (hput (hput (hput (hput (hput (hput hp q1 (eI 64 (fun _ => -1))) mo (eO 3 [.int 0, .ref q1, .null, .null])) q5 (eQ 4 4 (fun _ => none))) q9 (eQ 3 0 (fun _ => none))) q5 (eQ 4 4 (va_up (fun _ => none) 0 (some q9)))) q18 (eQ 3 0 (fun _ => none))) q5 (eQ 4 4 (va_up (va_up (fun _ => none) 0 (some q9)) 1 (some q18)))) q1 = some (eI 64 (fun _ => -1)) := (hput_n _ _ hn_q5_q1).trans ((by first | exact he21 | exact (hput_n _ _ hn_q5_q1).symm.trans he21))
  have he27 : (hput (hput (hput (hput (hput (hput (hput hp q1 (eI 64 (fun _ => -1))) mo (eO 3 [.int 0, .ref q1, .null, .null])) q5 (eQ 4 4 (fun _ => none))) q9 (eQ 3 0 (fun _ => none))) q5 (eQ 4 4 (va_up (fun _ => none) 0 (some q9)))) q18 (eQ 3 0 (fun _ => none))) q5 (eQ 4 4 (va_up (va_up (fun _ => none) 0 (some q9)) 1 (some q18)))) q9 = some (eQ 3 0 (fun _ => none)) := (hput_n _ _ (Ne.symm hn_q9_q5)).trans ((by first | exact he23 | exact (hput_n _ _ (Ne.symm hn_q9_q5)).symm.trans he23))
  have he28 : (hput (hput (hput (hput (hput (hput (hput hp q1 (eI 64 (fun _ => -1))) mo (eO 3 [.int 0, .ref q1, .null, .null])) q5 (eQ 4 4 (fun _ => none))) q9 (eQ 3 0 (fun _ => none))) q5 (eQ 4 4 (va_up (fun _ => none) 0 (some q9)))) q18 (eQ 3 0 (fun _ => none))) q5 (eQ 4 4 (va_up (va_up (fun _ => none) 0 (some q9)) 1 (some q18)))) q18 = some (eQ 3 0 (fun _ => none)) := (hput_n _ _ (Ne.symm hn_q18_q5)).trans ((by first | exact he19 | exact (hput_n _ _ (Ne.symm hn_q18_q5)).symm.trans he19))
  refine lv_dup hx hb dX3_init_30 rfl ?_
  refine lv_iconst (v := nI 2) hx hb dX3_init_31 (by decide) ?_
  refine lv_iconst (v := nI 0) hx hb dX3_init_32 (by decide) ?_
  refine h_newqA (t := 3) (ty := .int) hx hb hK0.2.2.1 rfl hown hw5 hK0 hV0 hA0 hS hA (n := 0) (by omega) (Nat.le_of_ble_eq_true rfl) (Nat.le_of_ble_eq_true rfl) dX3_init_33 (fun q29 H hqq29 hV0 hA0 hS => ?_)
  have hn_q29_mo : mo ≠ q29 := fun h => absurd ((he25).symm.trans ((congrArg (hput (hput (hput (hput (hput (hput (hput hp q1 (eI 64 (fun _ => -1))) mo (eO 3 [.int 0, .ref q1, .null, .null])) q5 (eQ 4 4 (fun _ => none))) q9 (eQ 3 0 (fun _ => none))) q5 (eQ 4 4 (va_up (fun _ => none) 0 (some q9)))) q18 (eQ 3 0 (fun _ => none))) q5 (eQ 4 4 (va_up (va_up (fun _ => none) 0 (some q9)) 1 (some q18)))) h).trans hqq29)) (fun h => by cases h)
  have hn_q29_q1 : q1 ≠ q29 := fun h => absurd ((he26).symm.trans ((congrArg (hput (hput (hput (hput (hput (hput (hput hp q1 (eI 64 (fun _ => -1))) mo (eO 3 [.int 0, .ref q1, .null, .null])) q5 (eQ 4 4 (fun _ => none))) q9 (eQ 3 0 (fun _ => none))) q5 (eQ 4 4 (va_up (fun _ => none) 0 (some q9)))) q18 (eQ 3 0 (fun _ => none))) q5 (eQ 4 4 (va_up (va_up (fun _ => none) 0 (some q9)) 1 (some q18)))) h).trans hqq29)) (fun h => by cases h)
  have hn_q29_q5 : q5 ≠ q29 := fun h => absurd ((he24).symm.trans ((congrArg (hput (hput (hput (hput (hput (hput (hput hp q1 (eI 64 (fun _ => -1))) mo (eO 3 [.int 0, .ref q1, .null, .null])) q5 (eQ 4 4 (fun _ => none))) q9 (eQ 3 0 (fun _ => none))) q5 (eQ 4 4 (va_up (fun _ => none) 0 (some q9)))) q18 (eQ 3 0 (fun _ => none))) q5 (eQ 4 4 (va_up (va_up (fun _ => none) 0 (some q9)) 1 (some q18)))) h).trans hqq29)) (fun h => by cases h)
  have hn_q29_q9 : q9 ≠ q29 := fun h => absurd ((he27).symm.trans ((congrArg (hput (hput (hput (hput (hput (hput (hput hp q1 (eI 64 (fun _ => -1))) mo (eO 3 [.int 0, .ref q1, .null, .null])) q5 (eQ 4 4 (fun _ => none))) q9 (eQ 3 0 (fun _ => none))) q5 (eQ 4 4 (va_up (fun _ => none) 0 (some q9)))) q18 (eQ 3 0 (fun _ => none))) q5 (eQ 4 4 (va_up (va_up (fun _ => none) 0 (some q9)) 1 (some q18)))) h).trans hqq29)) (fun h => by cases h)
  have hn_q29_q18 : q18 ≠ q29 := fun h => absurd ((he28).symm.trans ((congrArg (hput (hput (hput (hput (hput (hput (hput hp q1 (eI 64 (fun _ => -1))) mo (eO 3 [.int 0, .ref q1, .null, .null])) q5 (eQ 4 4 (fun _ => none))) q9 (eQ 3 0 (fun _ => none))) q5 (eQ 4 4 (va_up (fun _ => none) 0 (some q9)))) q18 (eQ 3 0 (fun _ => none))) q5 (eQ 4 4 (va_up (va_up (fun _ => none) 0 (some q9)) 1 (some q18)))) h).trans hqq29)) (fun h => by cases h)
  have he30 : (hput (hput (hput (hput (hput (hput (hput (hput hp q1 (eI 64 (fun _ => -1))) mo (eO 3 [.int 0, .ref q1, .null, .null])) q5 (eQ 4 4 (fun _ => none))) q9 (eQ 3 0 (fun _ => none))) q5 (eQ 4 4 (va_up (fun _ => none) 0 (some q9)))) q18 (eQ 3 0 (fun _ => none))) q5 (eQ 4 4 (va_up (va_up (fun _ => none) 0 (some q9)) 1 (some q18)))) q29 (eQ 3 0 (fun _ => none))) q29 = some (eQ 3 0 (fun _ => none)) := hput_s _ _ _
  have he31 : (hput (hput (hput (hput (hput (hput (hput (hput hp q1 (eI 64 (fun _ => -1))) mo (eO 3 [.int 0, .ref q1, .null, .null])) q5 (eQ 4 4 (fun _ => none))) q9 (eQ 3 0 (fun _ => none))) q5 (eQ 4 4 (va_up (fun _ => none) 0 (some q9)))) q18 (eQ 3 0 (fun _ => none))) q5 (eQ 4 4 (va_up (va_up (fun _ => none) 0 (some q9)) 1 (some q18)))) q29 (eQ 3 0 (fun _ => none))) mo = some (eO 3 [.int 0, .ref q1, .null, .null]) := (hput_n _ _ hn_q29_mo).trans he25
  have he32 : (hput (hput (hput (hput (hput (hput (hput (hput hp q1 (eI 64 (fun _ => -1))) mo (eO 3 [.int 0, .ref q1, .null, .null])) q5 (eQ 4 4 (fun _ => none))) q9 (eQ 3 0 (fun _ => none))) q5 (eQ 4 4 (va_up (fun _ => none) 0 (some q9)))) q18 (eQ 3 0 (fun _ => none))) q5 (eQ 4 4 (va_up (va_up (fun _ => none) 0 (some q9)) 1 (some q18)))) q29 (eQ 3 0 (fun _ => none))) q1 = some (eI 64 (fun _ => -1)) := (hput_n _ _ hn_q29_q1).trans he26
  have he33 : (hput (hput (hput (hput (hput (hput (hput (hput hp q1 (eI 64 (fun _ => -1))) mo (eO 3 [.int 0, .ref q1, .null, .null])) q5 (eQ 4 4 (fun _ => none))) q9 (eQ 3 0 (fun _ => none))) q5 (eQ 4 4 (va_up (fun _ => none) 0 (some q9)))) q18 (eQ 3 0 (fun _ => none))) q5 (eQ 4 4 (va_up (va_up (fun _ => none) 0 (some q9)) 1 (some q18)))) q29 (eQ 3 0 (fun _ => none))) q5 = some (eQ 4 4 (va_up (va_up (fun _ => none) 0 (some q9)) 1 (some q18))) := (hput_n _ _ hn_q29_q5).trans he24
  have he34 : (hput (hput (hput (hput (hput (hput (hput (hput hp q1 (eI 64 (fun _ => -1))) mo (eO 3 [.int 0, .ref q1, .null, .null])) q5 (eQ 4 4 (fun _ => none))) q9 (eQ 3 0 (fun _ => none))) q5 (eQ 4 4 (va_up (fun _ => none) 0 (some q9)))) q18 (eQ 3 0 (fun _ => none))) q5 (eQ 4 4 (va_up (va_up (fun _ => none) 0 (some q9)) 1 (some q18)))) q29 (eQ 3 0 (fun _ => none))) q9 = some (eQ 3 0 (fun _ => none)) := (hput_n _ _ hn_q29_q9).trans he27
  have he35 : (hput (hput (hput (hput (hput (hput (hput (hput hp q1 (eI 64 (fun _ => -1))) mo (eO 3 [.int 0, .ref q1, .null, .null])) q5 (eQ 4 4 (fun _ => none))) q9 (eQ 3 0 (fun _ => none))) q5 (eQ 4 4 (va_up (fun _ => none) 0 (some q9)))) q18 (eQ 3 0 (fun _ => none))) q5 (eQ 4 4 (va_up (va_up (fun _ => none) 0 (some q9)) 1 (some q18)))) q29 (eQ 3 0 (fun _ => none))) q18 = some (eQ 3 0 (fun _ => none)) := (hput_n _ _ hn_q29_q18).trans he28
  refine h_aastA (i := 2) hx hb hK0 hV0 hA0 hS he33 he30 (by omega) (by omega) dX3_init_36 (fun H locs hV0 hA0 hS => ?_)
  have he36 : (hput (hput (hput (hput (hput (hput (hput (hput (hput hp q1 (eI 64 (fun _ => -1))) mo (eO 3 [.int 0, .ref q1, .null, .null])) q5 (eQ 4 4 (fun _ => none))) q9 (eQ 3 0 (fun _ => none))) q5 (eQ 4 4 (va_up (fun _ => none) 0 (some q9)))) q18 (eQ 3 0 (fun _ => none))) q5 (eQ 4 4 (va_up (va_up (fun _ => none) 0 (some q9)) 1 (some q18)))) q29 (eQ 3 0 (fun _ => none))) q5 (eQ 4 4 (va_up (va_up (va_up (fun _ => none) 0 (some q9)) 1 (some q18)) 2 (some q29)))) q5 = some (eQ 4 4 (va_up (va_up (va_up (fun _ => none) 0 (some q9)) 1 (some q18)) 2 (some q29))) := hput_s _ _ _
  have he37 : (hput (hput (hput (hput (hput (hput (hput (hput (hput hp q1 (eI 64 (fun _ => -1))) mo (eO 3 [.int 0, .ref q1, .null, .null])) q5 (eQ 4 4 (fun _ => none))) q9 (eQ 3 0 (fun _ => none))) q5 (eQ 4 4 (va_up (fun _ => none) 0 (some q9)))) q18 (eQ 3 0 (fun _ => none))) q5 (eQ 4 4 (va_up (va_up (fun _ => none) 0 (some q9)) 1 (some q18)))) q29 (eQ 3 0 (fun _ => none))) q5 (eQ 4 4 (va_up (va_up (va_up (fun _ => none) 0 (some q9)) 1 (some q18)) 2 (some q29)))) mo = some (eO 3 [.int 0, .ref q1, .null, .null]) := (hput_n _ _ hn_q5_mo).trans ((by first | exact he31 | exact (hput_n _ _ hn_q5_mo).symm.trans he31))
  have he38 : (hput (hput (hput (hput (hput (hput (hput (hput (hput hp q1 (eI 64 (fun _ => -1))) mo (eO 3 [.int 0, .ref q1, .null, .null])) q5 (eQ 4 4 (fun _ => none))) q9 (eQ 3 0 (fun _ => none))) q5 (eQ 4 4 (va_up (fun _ => none) 0 (some q9)))) q18 (eQ 3 0 (fun _ => none))) q5 (eQ 4 4 (va_up (va_up (fun _ => none) 0 (some q9)) 1 (some q18)))) q29 (eQ 3 0 (fun _ => none))) q5 (eQ 4 4 (va_up (va_up (va_up (fun _ => none) 0 (some q9)) 1 (some q18)) 2 (some q29)))) q1 = some (eI 64 (fun _ => -1)) := (hput_n _ _ hn_q5_q1).trans ((by first | exact he32 | exact (hput_n _ _ hn_q5_q1).symm.trans he32))
  have he39 : (hput (hput (hput (hput (hput (hput (hput (hput (hput hp q1 (eI 64 (fun _ => -1))) mo (eO 3 [.int 0, .ref q1, .null, .null])) q5 (eQ 4 4 (fun _ => none))) q9 (eQ 3 0 (fun _ => none))) q5 (eQ 4 4 (va_up (fun _ => none) 0 (some q9)))) q18 (eQ 3 0 (fun _ => none))) q5 (eQ 4 4 (va_up (va_up (fun _ => none) 0 (some q9)) 1 (some q18)))) q29 (eQ 3 0 (fun _ => none))) q5 (eQ 4 4 (va_up (va_up (va_up (fun _ => none) 0 (some q9)) 1 (some q18)) 2 (some q29)))) q9 = some (eQ 3 0 (fun _ => none)) := (hput_n _ _ (Ne.symm hn_q9_q5)).trans ((by first | exact he34 | exact (hput_n _ _ (Ne.symm hn_q9_q5)).symm.trans he34))
  have he40 : (hput (hput (hput (hput (hput (hput (hput (hput (hput hp q1 (eI 64 (fun _ => -1))) mo (eO 3 [.int 0, .ref q1, .null, .null])) q5 (eQ 4 4 (fun _ => none))) q9 (eQ 3 0 (fun _ => none))) q5 (eQ 4 4 (va_up (fun _ => none) 0 (some q9)))) q18 (eQ 3 0 (fun _ => none))) q5 (eQ 4 4 (va_up (va_up (fun _ => none) 0 (some q9)) 1 (some q18)))) q29 (eQ 3 0 (fun _ => none))) q5 (eQ 4 4 (va_up (va_up (va_up (fun _ => none) 0 (some q9)) 1 (some q18)) 2 (some q29)))) q18 = some (eQ 3 0 (fun _ => none)) := (hput_n _ _ (Ne.symm hn_q18_q5)).trans ((by first | exact he35 | exact (hput_n _ _ (Ne.symm hn_q18_q5)).symm.trans he35))
  have he41 : (hput (hput (hput (hput (hput (hput (hput (hput (hput hp q1 (eI 64 (fun _ => -1))) mo (eO 3 [.int 0, .ref q1, .null, .null])) q5 (eQ 4 4 (fun _ => none))) q9 (eQ 3 0 (fun _ => none))) q5 (eQ 4 4 (va_up (fun _ => none) 0 (some q9)))) q18 (eQ 3 0 (fun _ => none))) q5 (eQ 4 4 (va_up (va_up (fun _ => none) 0 (some q9)) 1 (some q18)))) q29 (eQ 3 0 (fun _ => none))) q5 (eQ 4 4 (va_up (va_up (va_up (fun _ => none) 0 (some q9)) 1 (some q18)) 2 (some q29)))) q29 = some (eQ 3 0 (fun _ => none)) := (hput_n _ _ (Ne.symm hn_q29_q5)).trans ((by first | exact he30 | exact (hput_n _ _ (Ne.symm hn_q29_q5)).symm.trans he30))
  refine lv_dup hx hb dX3_init_37 rfl ?_
  refine lv_iconst (v := nI 3) hx hb dX3_init_38 (by decide) ?_
  refine lv_iconst (v := nI 0) hx hb dX3_init_39 (by decide) ?_
  refine h_newqA (t := 3) (ty := .int) hx hb hK0.2.2.1 rfl hown hw5 hK0 hV0 hA0 hS hA (n := 0) (by omega) (Nat.le_of_ble_eq_true rfl) (Nat.le_of_ble_eq_true rfl) dX3_init_40 (fun q42 H hqq42 hV0 hA0 hS => ?_)
  have hn_q42_mo : mo ≠ q42 := fun h => absurd ((he37).symm.trans ((congrArg (hput (hput (hput (hput (hput (hput (hput (hput (hput hp q1 (eI 64 (fun _ => -1))) mo (eO 3 [.int 0, .ref q1, .null, .null])) q5 (eQ 4 4 (fun _ => none))) q9 (eQ 3 0 (fun _ => none))) q5 (eQ 4 4 (va_up (fun _ => none) 0 (some q9)))) q18 (eQ 3 0 (fun _ => none))) q5 (eQ 4 4 (va_up (va_up (fun _ => none) 0 (some q9)) 1 (some q18)))) q29 (eQ 3 0 (fun _ => none))) q5 (eQ 4 4 (va_up (va_up (va_up (fun _ => none) 0 (some q9)) 1 (some q18)) 2 (some q29)))) h).trans hqq42)) (fun h => by cases h)
  have hn_q42_q1 : q1 ≠ q42 := fun h => absurd ((he38).symm.trans ((congrArg (hput (hput (hput (hput (hput (hput (hput (hput (hput hp q1 (eI 64 (fun _ => -1))) mo (eO 3 [.int 0, .ref q1, .null, .null])) q5 (eQ 4 4 (fun _ => none))) q9 (eQ 3 0 (fun _ => none))) q5 (eQ 4 4 (va_up (fun _ => none) 0 (some q9)))) q18 (eQ 3 0 (fun _ => none))) q5 (eQ 4 4 (va_up (va_up (fun _ => none) 0 (some q9)) 1 (some q18)))) q29 (eQ 3 0 (fun _ => none))) q5 (eQ 4 4 (va_up (va_up (va_up (fun _ => none) 0 (some q9)) 1 (some q18)) 2 (some q29)))) h).trans hqq42)) (fun h => by cases h)
  have hn_q42_q5 : q5 ≠ q42 := fun h => absurd ((he36).symm.trans ((congrArg (hput (hput (hput (hput (hput (hput (hput (hput (hput hp q1 (eI 64 (fun _ => -1))) mo (eO 3 [.int 0, .ref q1, .null, .null])) q5 (eQ 4 4 (fun _ => none))) q9 (eQ 3 0 (fun _ => none))) q5 (eQ 4 4 (va_up (fun _ => none) 0 (some q9)))) q18 (eQ 3 0 (fun _ => none))) q5 (eQ 4 4 (va_up (va_up (fun _ => none) 0 (some q9)) 1 (some q18)))) q29 (eQ 3 0 (fun _ => none))) q5 (eQ 4 4 (va_up (va_up (va_up (fun _ => none) 0 (some q9)) 1 (some q18)) 2 (some q29)))) h).trans hqq42)) (fun h => by cases h)
  have hn_q42_q9 : q9 ≠ q42 := fun h => absurd ((he39).symm.trans ((congrArg (hput (hput (hput (hput (hput (hput (hput (hput (hput hp q1 (eI 64 (fun _ => -1))) mo (eO 3 [.int 0, .ref q1, .null, .null])) q5 (eQ 4 4 (fun _ => none))) q9 (eQ 3 0 (fun _ => none))) q5 (eQ 4 4 (va_up (fun _ => none) 0 (some q9)))) q18 (eQ 3 0 (fun _ => none))) q5 (eQ 4 4 (va_up (va_up (fun _ => none) 0 (some q9)) 1 (some q18)))) q29 (eQ 3 0 (fun _ => none))) q5 (eQ 4 4 (va_up (va_up (va_up (fun _ => none) 0 (some q9)) 1 (some q18)) 2 (some q29)))) h).trans hqq42)) (fun h => by cases h)
  have hn_q42_q18 : q18 ≠ q42 := fun h => absurd ((he40).symm.trans ((congrArg (hput (hput (hput (hput (hput (hput (hput (hput (hput hp q1 (eI 64 (fun _ => -1))) mo (eO 3 [.int 0, .ref q1, .null, .null])) q5 (eQ 4 4 (fun _ => none))) q9 (eQ 3 0 (fun _ => none))) q5 (eQ 4 4 (va_up (fun _ => none) 0 (some q9)))) q18 (eQ 3 0 (fun _ => none))) q5 (eQ 4 4 (va_up (va_up (fun _ => none) 0 (some q9)) 1 (some q18)))) q29 (eQ 3 0 (fun _ => none))) q5 (eQ 4 4 (va_up (va_up (va_up (fun _ => none) 0 (some q9)) 1 (some q18)) 2 (some q29)))) h).trans hqq42)) (fun h => by cases h)
  have hn_q42_q29 : q29 ≠ q42 := fun h => absurd ((he41).symm.trans ((congrArg (hput (hput (hput (hput (hput (hput (hput (hput (hput hp q1 (eI 64 (fun _ => -1))) mo (eO 3 [.int 0, .ref q1, .null, .null])) q5 (eQ 4 4 (fun _ => none))) q9 (eQ 3 0 (fun _ => none))) q5 (eQ 4 4 (va_up (fun _ => none) 0 (some q9)))) q18 (eQ 3 0 (fun _ => none))) q5 (eQ 4 4 (va_up (va_up (fun _ => none) 0 (some q9)) 1 (some q18)))) q29 (eQ 3 0 (fun _ => none))) q5 (eQ 4 4 (va_up (va_up (va_up (fun _ => none) 0 (some q9)) 1 (some q18)) 2 (some q29)))) h).trans hqq42)) (fun h => by cases h)
  have he43 : (hput (hput (hput (hput (hput (hput (hput (hput (hput (hput hp q1 (eI 64 (fun _ => -1))) mo (eO 3 [.int 0, .ref q1, .null, .null])) q5 (eQ 4 4 (fun _ => none))) q9 (eQ 3 0 (fun _ => none))) q5 (eQ 4 4 (va_up (fun _ => none) 0 (some q9)))) q18 (eQ 3 0 (fun _ => none))) q5 (eQ 4 4 (va_up (va_up (fun _ => none) 0 (some q9)) 1 (some q18)))) q29 (eQ 3 0 (fun _ => none))) q5 (eQ 4 4 (va_up (va_up (va_up (fun _ => none) 0 (some q9)) 1 (some q18)) 2 (some q29)))) q42 (eQ 3 0 (fun _ => none))) q42 = some (eQ 3 0 (fun _ => none)) := hput_s _ _ _
  have he44 : (hput (hput (hput (hput (hput (hput (hput (hput (hput (hput hp q1 (eI 64 (fun _ => -1))) mo (eO 3 [.int 0, .ref q1, .null, .null])) q5 (eQ 4 4 (fun _ => none))) q9 (eQ 3 0 (fun _ => none))) q5 (eQ 4 4 (va_up (fun _ => none) 0 (some q9)))) q18 (eQ 3 0 (fun _ => none))) q5 (eQ 4 4 (va_up (va_up (fun _ => none) 0 (some q9)) 1 (some q18)))) q29 (eQ 3 0 (fun _ => none))) q5 (eQ 4 4 (va_up (va_up (va_up (fun _ => none) 0 (some q9)) 1 (some q18)) 2 (some q29)))) q42 (eQ 3 0 (fun _ => none))) mo = some (eO 3 [.int 0, .ref q1, .null, .null]) := (hput_n _ _ hn_q42_mo).trans he37
  have he45 : (hput (hput (hput (hput (hput (hput (hput (hput (hput (hput hp q1 (eI 64 (fun _ => -1))) mo (eO 3 [.int 0, .ref q1, .null, .null])) q5 (eQ 4 4 (fun _ => none))) q9 (eQ 3 0 (fun _ => none))) q5 (eQ 4 4 (va_up (fun _ => none) 0 (some q9)))) q18 (eQ 3 0 (fun _ => none))) q5 (eQ 4 4 (va_up (va_up (fun _ => none) 0 (some q9)) 1 (some q18)))) q29 (eQ 3 0 (fun _ => none))) q5 (eQ 4 4 (va_up (va_up (va_up (fun _ => none) 0 (some q9)) 1 (some q18)) 2 (some q29)))) q42 (eQ 3 0 (fun _ => none))) q1 = some (eI 64 (fun _ => -1)) := (hput_n _ _ hn_q42_q1).trans he38
  have he46 : (hput (hput (hput (hput (hput (hput (hput (hput (hput (hput hp q1 (eI 64 (fun _ => -1))) mo (eO 3 [.int 0, .ref q1, .null, .null])) q5 (eQ 4 4 (fun _ => none))) q9 (eQ 3 0 (fun _ => none))) q5 (eQ 4 4 (va_up (fun _ => none) 0 (some q9)))) q18 (eQ 3 0 (fun _ => none))) q5 (eQ 4 4 (va_up (va_up (fun _ => none) 0 (some q9)) 1 (some q18)))) q29 (eQ 3 0 (fun _ => none))) q5 (eQ 4 4 (va_up (va_up (va_up (fun _ => none) 0 (some q9)) 1 (some q18)) 2 (some q29)))) q42 (eQ 3 0 (fun _ => none))) q5 = some (eQ 4 4 (va_up (va_up (va_up (fun _ => none) 0 (some q9)) 1 (some q18)) 2 (some q29))) := (hput_n _ _ hn_q42_q5).trans he36
  have he47 : (hput (hput (hput (hput (hput (hput (hput (hput (hput (hput hp q1 (eI 64 (fun _ => -1))) mo (eO 3 [.int 0, .ref q1, .null, .null])) q5 (eQ 4 4 (fun _ => none))) q9 (eQ 3 0 (fun _ => none))) q5 (eQ 4 4 (va_up (fun _ => none) 0 (some q9)))) q18 (eQ 3 0 (fun _ => none))) q5 (eQ 4 4 (va_up (va_up (fun _ => none) 0 (some q9)) 1 (some q18)))) q29 (eQ 3 0 (fun _ => none))) q5 (eQ 4 4 (va_up (va_up (va_up (fun _ => none) 0 (some q9)) 1 (some q18)) 2 (some q29)))) q42 (eQ 3 0 (fun _ => none))) q9 = some (eQ 3 0 (fun _ => none)) := (hput_n _ _ hn_q42_q9).trans he39
  have he48 : (hput (hput (hput (hput (hput (hput (hput (hput (hput (hput hp q1 (eI 64 (fun _ => -1))) mo (eO 3 [.int 0, .ref q1, .null, .null])) q5 (eQ 4 4 (fun _ => none))) q9 (eQ 3 0 (fun _ => none))) q5 (eQ 4 4 (va_up (fun _ => none) 0 (some q9)))) q18 (eQ 3 0 (fun _ => none))) q5 (eQ 4 4 (va_up (va_up (fun _ => none) 0 (some q9)) 1 (some q18)))) q29 (eQ 3 0 (fun _ => none))) q5 (eQ 4 4 (va_up (va_up (va_up (fun _ => none) 0 (some q9)) 1 (some q18)) 2 (some q29)))) q42 (eQ 3 0 (fun _ => none))) q18 = some (eQ 3 0 (fun _ => none)) := (hput_n _ _ hn_q42_q18).trans he40
  have he49 : (hput (hput (hput (hput (hput (hput (hput (hput (hput (hput hp q1 (eI 64 (fun _ => -1))) mo (eO 3 [.int 0, .ref q1, .null, .null])) q5 (eQ 4 4 (fun _ => none))) q9 (eQ 3 0 (fun _ => none))) q5 (eQ 4 4 (va_up (fun _ => none) 0 (some q9)))) q18 (eQ 3 0 (fun _ => none))) q5 (eQ 4 4 (va_up (va_up (fun _ => none) 0 (some q9)) 1 (some q18)))) q29 (eQ 3 0 (fun _ => none))) q5 (eQ 4 4 (va_up (va_up (va_up (fun _ => none) 0 (some q9)) 1 (some q18)) 2 (some q29)))) q42 (eQ 3 0 (fun _ => none))) q29 = some (eQ 3 0 (fun _ => none)) := (hput_n _ _ hn_q42_q29).trans he41
  refine h_aastA (i := 3) hx hb hK0 hV0 hA0 hS he46 he43 (by omega) (by omega) dX3_init_43 (fun H locs hV0 hA0 hS => ?_)
  have he50 : (hput (hput (hput (hput (hput (hput (hput (hput (hput (hput (hput hp q1 (eI 64 (fun _ => -1))) mo (eO 3 [.int 0, .ref q1, .null, .null])) q5 (eQ 4 4 (fun _ => none))) q9 (eQ 3 0 (fun _ => none))) q5 (eQ 4 4 (va_up (fun _ => none) 0 (some q9)))) q18 (eQ 3 0 (fun _ => none))) q5 (eQ 4 4 (va_up (va_up (fun _ => none) 0 (some q9)) 1 (some q18)))) q29 (eQ 3 0 (fun _ => none))) q5 (eQ 4 4 (va_up (va_up (va_up (fun _ => none) 0 (some q9)) 1 (some q18)) 2 (some q29)))) q42 (eQ 3 0 (fun _ => none))) q5 (eQ 4 4 (va_up (va_up (va_up (va_up (fun _ => none) 0 (some q9)) 1 (some q18)) 2 (some q29)) 3 (some q42)))) q5 = some (eQ 4 4 (va_up (va_up (va_up (va_up (fun _ => none) 0 (some q9)) 1 (some q18)) 2 (some q29)) 3 (some q42))) := hput_s _ _ _
  have he51 : (hput (hput (hput (hput (hput (hput (hput (hput (hput (hput (hput hp q1 (eI 64 (fun _ => -1))) mo (eO 3 [.int 0, .ref q1, .null, .null])) q5 (eQ 4 4 (fun _ => none))) q9 (eQ 3 0 (fun _ => none))) q5 (eQ 4 4 (va_up (fun _ => none) 0 (some q9)))) q18 (eQ 3 0 (fun _ => none))) q5 (eQ 4 4 (va_up (va_up (fun _ => none) 0 (some q9)) 1 (some q18)))) q29 (eQ 3 0 (fun _ => none))) q5 (eQ 4 4 (va_up (va_up (va_up (fun _ => none) 0 (some q9)) 1 (some q18)) 2 (some q29)))) q42 (eQ 3 0 (fun _ => none))) q5 (eQ 4 4 (va_up (va_up (va_up (va_up (fun _ => none) 0 (some q9)) 1 (some q18)) 2 (some q29)) 3 (some q42)))) mo = some (eO 3 [.int 0, .ref q1, .null, .null]) := (hput_n _ _ hn_q5_mo).trans ((by first | exact he44 | exact (hput_n _ _ hn_q5_mo).symm.trans he44))
  have he52 : (hput (hput (hput (hput (hput (hput (hput (hput (hput (hput (hput hp q1 (eI 64 (fun _ => -1))) mo (eO 3 [.int 0, .ref q1, .null, .null])) q5 (eQ 4 4 (fun _ => none))) q9 (eQ 3 0 (fun _ => none))) q5 (eQ 4 4 (va_up (fun _ => none) 0 (some q9)))) q18 (eQ 3 0 (fun _ => none))) q5 (eQ 4 4 (va_up (va_up (fun _ => none) 0 (some q9)) 1 (some q18)))) q29 (eQ 3 0 (fun _ => none))) q5 (eQ 4 4 (va_up (va_up (va_up (fun _ => none) 0 (some q9)) 1 (some q18)) 2 (some q29)))) q42 (eQ 3 0 (fun _ => none))) q5 (eQ 4 4 (va_up (va_up (va_up (va_up (fun _ => none) 0 (some q9)) 1 (some q18)) 2 (some q29)) 3 (some q42)))) q1 = some (eI 64 (fun _ => -1)) := (hput_n _ _ hn_q5_q1).trans ((by first | exact he45 | exact (hput_n _ _ hn_q5_q1).symm.trans he45))
  have he53 : (hput (hput (hput (hput (hput (hput (hput (hput (hput (hput (hput hp q1 (eI 64 (fun _ => -1))) mo (eO 3 [.int 0, .ref q1, .null, .null])) q5 (eQ 4 4 (fun _ => none))) q9 (eQ 3 0 (fun _ => none))) q5 (eQ 4 4 (va_up (fun _ => none) 0 (some q9)))) q18 (eQ 3 0 (fun _ => none))) q5 (eQ 4 4 (va_up (va_up (fun _ => none) 0 (some q9)) 1 (some q18)))) q29 (eQ 3 0 (fun _ => none))) q5 (eQ 4 4 (va_up (va_up (va_up (fun _ => none) 0 (some q9)) 1 (some q18)) 2 (some q29)))) q42 (eQ 3 0 (fun _ => none))) q5 (eQ 4 4 (va_up (va_up (va_up (va_up (fun _ => none) 0 (some q9)) 1 (some q18)) 2 (some q29)) 3 (some q42)))) q9 = some (eQ 3 0 (fun _ => none)) := (hput_n _ _ (Ne.symm hn_q9_q5)).trans ((by first | exact he47 | exact (hput_n _ _ (Ne.symm hn_q9_q5)).symm.trans he47))
  have he54 : (hput (hput (hput (hput (hput (hput (hput (hput (hput (hput (hput hp q1 (eI 64 (fun _ => -1))) mo (eO 3 [.int 0, .ref q1, .null, .null])) q5 (eQ 4 4 (fun _ => none))) q9 (eQ 3 0 (fun _ => none))) q5 (eQ 4 4 (va_up (fun _ => none) 0 (some q9)))) q18 (eQ 3 0 (fun _ => none))) q5 (eQ 4 4 (va_up (va_up (fun _ => none) 0 (some q9)) 1 (some q18)))) q29 (eQ 3 0 (fun _ => none))) q5 (eQ 4 4 (va_up (va_up (va_up (fun _ => none) 0 (some q9)) 1 (some q18)) 2 (some q29)))) q42 (eQ 3 0 (fun _ => none))) q5 (eQ 4 4 (va_up (va_up (va_up (va_up (fun _ => none) 0 (some q9)) 1 (some q18)) 2 (some q29)) 3 (some q42)))) q18 = some (eQ 3 0 (fun _ => none)) := (hput_n _ _ (Ne.symm hn_q18_q5)).trans ((by first | exact he48 | exact (hput_n _ _ (Ne.symm hn_q18_q5)).symm.trans he48))
  have he55 : (hput (hput (hput (hput (hput (hput (hput (hput (hput (hput (hput hp q1 (eI 64 (fun _ => -1))) mo (eO 3 [.int 0, .ref q1, .null, .null])) q5 (eQ 4 4 (fun _ => none))) q9 (eQ 3 0 (fun _ => none))) q5 (eQ 4 4 (va_up (fun _ => none) 0 (some q9)))) q18 (eQ 3 0 (fun _ => none))) q5 (eQ 4 4 (va_up (va_up (fun _ => none) 0 (some q9)) 1 (some q18)))) q29 (eQ 3 0 (fun _ => none))) q5 (eQ 4 4 (va_up (va_up (va_up (fun _ => none) 0 (some q9)) 1 (some q18)) 2 (some q29)))) q42 (eQ 3 0 (fun _ => none))) q5 (eQ 4 4 (va_up (va_up (va_up (va_up (fun _ => none) 0 (some q9)) 1 (some q18)) 2 (some q29)) 3 (some q42)))) q29 = some (eQ 3 0 (fun _ => none)) := (hput_n _ _ (Ne.symm hn_q29_q5)).trans ((by first | exact he49 | exact (hput_n _ _ (Ne.symm hn_q29_q5)).symm.trans he49))
  have he56 : (hput (hput (hput (hput (hput (hput (hput (hput (hput (hput (hput hp q1 (eI 64 (fun _ => -1))) mo (eO 3 [.int 0, .ref q1, .null, .null])) q5 (eQ 4 4 (fun _ => none))) q9 (eQ 3 0 (fun _ => none))) q5 (eQ 4 4 (va_up (fun _ => none) 0 (some q9)))) q18 (eQ 3 0 (fun _ => none))) q5 (eQ 4 4 (va_up (va_up (fun _ => none) 0 (some q9)) 1 (some q18)))) q29 (eQ 3 0 (fun _ => none))) q5 (eQ 4 4 (va_up (va_up (va_up (fun _ => none) 0 (some q9)) 1 (some q18)) 2 (some q29)))) q42 (eQ 3 0 (fun _ => none))) q5 (eQ 4 4 (va_up (va_up (va_up (va_up (fun _ => none) 0 (some q9)) 1 (some q18)) 2 (some q29)) 3 (some q42)))) q42 = some (eQ 3 0 (fun _ => none)) := (hput_n _ _ (Ne.symm hn_q42_q5)).trans ((by first | exact he43 | exact (hput_n _ _ (Ne.symm hn_q42_q5)).symm.trans he43))
  refine h_put (v := .ref q5) hx hb hts hi3 tyX3 tyX3_ok nmX3 hown hK0 hV0 hA0 hS he51 rfl 2 (by decide) hw6 rfl (by rfl) (by rfl) (Nat.le_of_ble_eq_true rfl) dX3_init_44 (fun H locs hV0 hA0 hS => ?_)
  have he57 : (hput (hput (hput (hput (hput (hput (hput (hput (hput (hput (hput (hput hp q1 (eI 64 (fun _ => -1))) mo (eO 3 [.int 0, .ref q1, .null, .null])) q5 (eQ 4 4 (fun _ => none))) q9 (eQ 3 0 (fun _ => none))) q5 (eQ 4 4 (va_up (fun _ => none) 0 (some q9)))) q18 (eQ 3 0 (fun _ => none))) q5 (eQ 4 4 (va_up (va_up (fun _ => none) 0 (some q9)) 1 (some q18)))) q29 (eQ 3 0 (fun _ => none))) q5 (eQ 4 4 (va_up (va_up (va_up (fun _ => none) 0 (some q9)) 1 (some q18)) 2 (some q29)))) q42 (eQ 3 0 (fun _ => none))) q5 (eQ 4 4 (va_up (va_up (va_up (va_up (fun _ => none) 0 (some q9)) 1 (some q18)) 2 (some q29)) 3 (some q42)))) mo (eO 3 [.int 0, .ref q1, .ref q5, .null])) mo = some (eO 3 [.int 0, .ref q1, .ref q5, .null]) := hput_s _ _ _
  have he58 : (hput (hput (hput (hput (hput (hput (hput (hput (hput (hput (hput (hput hp q1 (eI 64 (fun _ => -1))) mo (eO 3 [.int 0, .ref q1, .null, .null])) q5 (eQ 4 4 (fun _ => none))) q9 (eQ 3 0 (fun _ => none))) q5 (eQ 4 4 (va_up (fun _ => none) 0 (some q9)))) q18 (eQ 3 0 (fun _ => none))) q5 (eQ 4 4 (va_up (va_up (fun _ => none) 0 (some q9)) 1 (some q18)))) q29 (eQ 3 0 (fun _ => none))) q5 (eQ 4 4 (va_up (va_up (va_up (fun _ => none) 0 (some q9)) 1 (some q18)) 2 (some q29)))) q42 (eQ 3 0 (fun _ => none))) q5 (eQ 4 4 (va_up (va_up (va_up (va_up (fun _ => none) 0 (some q9)) 1 (some q18)) 2 (some q29)) 3 (some q42)))) mo (eO 3 [.int 0, .ref q1, .ref q5, .null])) q1 = some (eI 64 (fun _ => -1)) := (hput_n _ _ (Ne.symm hn_q1_mo)).trans ((by first | exact he52 | exact (hput_n _ _ (Ne.symm hn_q1_mo)).symm.trans he52))
  have he59 : (hput (hput (hput (hput (hput (hput (hput (hput (hput (hput (hput (hput hp q1 (eI 64 (fun _ => -1))) mo (eO 3 [.int 0, .ref q1, .null, .null])) q5 (eQ 4 4 (fun _ => none))) q9 (eQ 3 0 (fun _ => none))) q5 (eQ 4 4 (va_up (fun _ => none) 0 (some q9)))) q18 (eQ 3 0 (fun _ => none))) q5 (eQ 4 4 (va_up (va_up (fun _ => none) 0 (some q9)) 1 (some q18)))) q29 (eQ 3 0 (fun _ => none))) q5 (eQ 4 4 (va_up (va_up (va_up (fun _ => none) 0 (some q9)) 1 (some q18)) 2 (some q29)))) q42 (eQ 3 0 (fun _ => none))) q5 (eQ 4 4 (va_up (va_up (va_up (va_up (fun _ => none) 0 (some q9)) 1 (some q18)) 2 (some q29)) 3 (some q42)))) mo (eO 3 [.int 0, .ref q1, .ref q5, .null])) q5 = some (eQ 4 4 (va_up (va_up (va_up (va_up (fun _ => none) 0 (some q9)) 1 (some q18)) 2 (some q29)) 3 (some q42))) := (hput_n _ _ (Ne.symm hn_q5_mo)).trans ((by first | exact he50 | exact (hput_n _ _ (Ne.symm hn_q5_mo)).symm.trans he50))
  have he60 : (hput (hput (hput (hput (hput (hput (hput (hput (hput (hput (hput (hput hp q1 (eI 64 (fun _ => -1))) mo (eO 3 [.int 0, .ref q1, .null, .null])) q5 (eQ 4 4 (fun _ => none))) q9 (eQ 3 0 (fun _ => none))) q5 (eQ 4 4 (va_up (fun _ => none) 0 (some q9)))) q18 (eQ 3 0 (fun _ => none))) q5 (eQ 4 4 (va_up (va_up (fun _ => none) 0 (some q9)) 1 (some q18)))) q29 (eQ 3 0 (fun _ => none))) q5 (eQ 4 4 (va_up (va_up (va_up (fun _ => none) 0 (some q9)) 1 (some q18)) 2 (some q29)))) q42 (eQ 3 0 (fun _ => none))) q5 (eQ 4 4 (va_up (va_up (va_up (va_up (fun _ => none) 0 (some q9)) 1 (some q18)) 2 (some q29)) 3 (some q42)))) mo (eO 3 [.int 0, .ref q1, .ref q5, .null])) q9 = some (eQ 3 0 (fun _ => none)) := (hput_n _ _ (Ne.symm hn_q9_mo)).trans ((by first | exact he53 | exact (hput_n _ _ (Ne.symm hn_q9_mo)).symm.trans he53))
  have he61 : (hput (hput (hput (hput (hput (hput (hput (hput (hput (hput (hput (hput hp q1 (eI 64 (fun _ => -1))) mo (eO 3 [.int 0, .ref q1, .null, .null])) q5 (eQ 4 4 (fun _ => none))) q9 (eQ 3 0 (fun _ => none))) q5 (eQ 4 4 (va_up (fun _ => none) 0 (some q9)))) q18 (eQ 3 0 (fun _ => none))) q5 (eQ 4 4 (va_up (va_up (fun _ => none) 0 (some q9)) 1 (some q18)))) q29 (eQ 3 0 (fun _ => none))) q5 (eQ 4 4 (va_up (va_up (va_up (fun _ => none) 0 (some q9)) 1 (some q18)) 2 (some q29)))) q42 (eQ 3 0 (fun _ => none))) q5 (eQ 4 4 (va_up (va_up (va_up (va_up (fun _ => none) 0 (some q9)) 1 (some q18)) 2 (some q29)) 3 (some q42)))) mo (eO 3 [.int 0, .ref q1, .ref q5, .null])) q18 = some (eQ 3 0 (fun _ => none)) := (hput_n _ _ (Ne.symm hn_q18_mo)).trans ((by first | exact he54 | exact (hput_n _ _ (Ne.symm hn_q18_mo)).symm.trans he54))
  have he62 : (hput (hput (hput (hput (hput (hput (hput (hput (hput (hput (hput (hput hp q1 (eI 64 (fun _ => -1))) mo (eO 3 [.int 0, .ref q1, .null, .null])) q5 (eQ 4 4 (fun _ => none))) q9 (eQ 3 0 (fun _ => none))) q5 (eQ 4 4 (va_up (fun _ => none) 0 (some q9)))) q18 (eQ 3 0 (fun _ => none))) q5 (eQ 4 4 (va_up (va_up (fun _ => none) 0 (some q9)) 1 (some q18)))) q29 (eQ 3 0 (fun _ => none))) q5 (eQ 4 4 (va_up (va_up (va_up (fun _ => none) 0 (some q9)) 1 (some q18)) 2 (some q29)))) q42 (eQ 3 0 (fun _ => none))) q5 (eQ 4 4 (va_up (va_up (va_up (va_up (fun _ => none) 0 (some q9)) 1 (some q18)) 2 (some q29)) 3 (some q42)))) mo (eO 3 [.int 0, .ref q1, .ref q5, .null])) q29 = some (eQ 3 0 (fun _ => none)) := (hput_n _ _ (Ne.symm hn_q29_mo)).trans ((by first | exact he55 | exact (hput_n _ _ (Ne.symm hn_q29_mo)).symm.trans he55))
  have he63 : (hput (hput (hput (hput (hput (hput (hput (hput (hput (hput (hput (hput hp q1 (eI 64 (fun _ => -1))) mo (eO 3 [.int 0, .ref q1, .null, .null])) q5 (eQ 4 4 (fun _ => none))) q9 (eQ 3 0 (fun _ => none))) q5 (eQ 4 4 (va_up (fun _ => none) 0 (some q9)))) q18 (eQ 3 0 (fun _ => none))) q5 (eQ 4 4 (va_up (va_up (fun _ => none) 0 (some q9)) 1 (some q18)))) q29 (eQ 3 0 (fun _ => none))) q5 (eQ 4 4 (va_up (va_up (va_up (fun _ => none) 0 (some q9)) 1 (some q18)) 2 (some q29)))) q42 (eQ 3 0 (fun _ => none))) q5 (eQ 4 4 (va_up (va_up (va_up (va_up (fun _ => none) 0 (some q9)) 1 (some q18)) 2 (some q29)) 3 (some q42)))) mo (eO 3 [.int 0, .ref q1, .ref q5, .null])) q42 = some (eQ 3 0 (fun _ => none)) := (hput_n _ _ (Ne.symm hn_q42_mo)).trans ((by first | exact he56 | exact (hput_n _ _ (Ne.symm hn_q42_mo)).symm.trans he56))
  refine lv_aload_n hx hb dX3_init_47 rfl (lv_at hl 0 rfl) ?_
  refine lv_iconst (v := nI 4) hx hb dX3_init_48 (by decide) ?_
  refine h_newI hx hb hw7 hK0 hV0 hA0 hS hA (n := 4) (by omega) (Nat.le_of_ble_eq_true rfl) (Nat.le_of_ble_eq_true rfl) dX3_init_49 (fun q64 H hqq64 hV0 hA0 hS => ?_)
  have hn_q64_mo : mo ≠ q64 := fun h => absurd ((he57).symm.trans ((congrArg (hput (hput (hput (hput (hput (hput (hput (hput (hput (hput (hput (hput hp q1 (eI 64 (fun _ => -1))) mo (eO 3 [.int 0, .ref q1, .null, .null])) q5 (eQ 4 4 (fun _ => none))) q9 (eQ 3 0 (fun _ => none))) q5 (eQ 4 4 (va_up (fun _ => none) 0 (some q9)))) q18 (eQ 3 0 (fun _ => none))) q5 (eQ 4 4 (va_up (va_up (fun _ => none) 0 (some q9)) 1 (some q18)))) q29 (eQ 3 0 (fun _ => none))) q5 (eQ 4 4 (va_up (va_up (va_up (fun _ => none) 0 (some q9)) 1 (some q18)) 2 (some q29)))) q42 (eQ 3 0 (fun _ => none))) q5 (eQ 4 4 (va_up (va_up (va_up (va_up (fun _ => none) 0 (some q9)) 1 (some q18)) 2 (some q29)) 3 (some q42)))) mo (eO 3 [.int 0, .ref q1, .ref q5, .null])) h).trans hqq64)) (fun h => by cases h)
  have hn_q64_q1 : q1 ≠ q64 := fun h => absurd ((he58).symm.trans ((congrArg (hput (hput (hput (hput (hput (hput (hput (hput (hput (hput (hput (hput hp q1 (eI 64 (fun _ => -1))) mo (eO 3 [.int 0, .ref q1, .null, .null])) q5 (eQ 4 4 (fun _ => none))) q9 (eQ 3 0 (fun _ => none))) q5 (eQ 4 4 (va_up (fun _ => none) 0 (some q9)))) q18 (eQ 3 0 (fun _ => none))) q5 (eQ 4 4 (va_up (va_up (fun _ => none) 0 (some q9)) 1 (some q18)))) q29 (eQ 3 0 (fun _ => none))) q5 (eQ 4 4 (va_up (va_up (va_up (fun _ => none) 0 (some q9)) 1 (some q18)) 2 (some q29)))) q42 (eQ 3 0 (fun _ => none))) q5 (eQ 4 4 (va_up (va_up (va_up (va_up (fun _ => none) 0 (some q9)) 1 (some q18)) 2 (some q29)) 3 (some q42)))) mo (eO 3 [.int 0, .ref q1, .ref q5, .null])) h).trans hqq64)) (fun h => by cases h)
  have hn_q64_q5 : q5 ≠ q64 := fun h => absurd ((he59).symm.trans ((congrArg (hput (hput (hput (hput (hput (hput (hput (hput (hput (hput (hput (hput hp q1 (eI 64 (fun _ => -1))) mo (eO 3 [.int 0, .ref q1, .null, .null])) q5 (eQ 4 4 (fun _ => none))) q9 (eQ 3 0 (fun _ => none))) q5 (eQ 4 4 (va_up (fun _ => none) 0 (some q9)))) q18 (eQ 3 0 (fun _ => none))) q5 (eQ 4 4 (va_up (va_up (fun _ => none) 0 (some q9)) 1 (some q18)))) q29 (eQ 3 0 (fun _ => none))) q5 (eQ 4 4 (va_up (va_up (va_up (fun _ => none) 0 (some q9)) 1 (some q18)) 2 (some q29)))) q42 (eQ 3 0 (fun _ => none))) q5 (eQ 4 4 (va_up (va_up (va_up (va_up (fun _ => none) 0 (some q9)) 1 (some q18)) 2 (some q29)) 3 (some q42)))) mo (eO 3 [.int 0, .ref q1, .ref q5, .null])) h).trans hqq64)) (fun h => by cases h)
  have hn_q64_q9 : q9 ≠ q64 := fun h => absurd ((he60).symm.trans ((congrArg (hput (hput (hput (hput (hput (hput (hput (hput (hput (hput (hput (hput hp q1 (eI 64 (fun _ => -1))) mo (eO 3 [.int 0, .ref q1, .null, .null])) q5 (eQ 4 4 (fun _ => none))) q9 (eQ 3 0 (fun _ => none))) q5 (eQ 4 4 (va_up (fun _ => none) 0 (some q9)))) q18 (eQ 3 0 (fun _ => none))) q5 (eQ 4 4 (va_up (va_up (fun _ => none) 0 (some q9)) 1 (some q18)))) q29 (eQ 3 0 (fun _ => none))) q5 (eQ 4 4 (va_up (va_up (va_up (fun _ => none) 0 (some q9)) 1 (some q18)) 2 (some q29)))) q42 (eQ 3 0 (fun _ => none))) q5 (eQ 4 4 (va_up (va_up (va_up (va_up (fun _ => none) 0 (some q9)) 1 (some q18)) 2 (some q29)) 3 (some q42)))) mo (eO 3 [.int 0, .ref q1, .ref q5, .null])) h).trans hqq64)) (fun h => by cases h)
  have hn_q64_q18 : q18 ≠ q64 := fun h => absurd ((he61).symm.trans ((congrArg (hput (hput (hput (hput (hput (hput (hput (hput (hput (hput (hput (hput hp q1 (eI 64 (fun _ => -1))) mo (eO 3 [.int 0, .ref q1, .null, .null])) q5 (eQ 4 4 (fun _ => none))) q9 (eQ 3 0 (fun _ => none))) q5 (eQ 4 4 (va_up (fun _ => none) 0 (some q9)))) q18 (eQ 3 0 (fun _ => none))) q5 (eQ 4 4 (va_up (va_up (fun _ => none) 0 (some q9)) 1 (some q18)))) q29 (eQ 3 0 (fun _ => none))) q5 (eQ 4 4 (va_up (va_up (va_up (fun _ => none) 0 (some q9)) 1 (some q18)) 2 (some q29)))) q42 (eQ 3 0 (fun _ => none))) q5 (eQ 4 4 (va_up (va_up (va_up (va_up (fun _ => none) 0 (some q9)) 1 (some q18)) 2 (some q29)) 3 (some q42)))) mo (eO 3 [.int 0, .ref q1, .ref q5, .null])) h).trans hqq64)) (fun h => by cases h)
  have hn_q64_q29 : q29 ≠ q64 := fun h => absurd ((he62).symm.trans ((congrArg (hput (hput (hput (hput (hput (hput (hput (hput (hput (hput (hput (hput hp q1 (eI 64 (fun _ => -1))) mo (eO 3 [.int 0, .ref q1, .null, .null])) q5 (eQ 4 4 (fun _ => none))) q9 (eQ 3 0 (fun _ => none))) q5 (eQ 4 4 (va_up (fun _ => none) 0 (some q9)))) q18 (eQ 3 0 (fun _ => none))) q5 (eQ 4 4 (va_up (va_up (fun _ => none) 0 (some q9)) 1 (some q18)))) q29 (eQ 3 0 (fun _ => none))) q5 (eQ 4 4 (va_up (va_up (va_up (fun _ => none) 0 (some q9)) 1 (some q18)) 2 (some q29)))) q42 (eQ 3 0 (fun _ => none))) q5 (eQ 4 4 (va_up (va_up (va_up (va_up (fun _ => none) 0 (some q9)) 1 (some q18)) 2 (some q29)) 3 (some q42)))) mo (eO 3 [.int 0, .ref q1, .ref q5, .null])) h).trans hqq64)) (fun h => by cases h)
  have hn_q64_q42 : q42 ≠ q64 := fun h => absurd ((he63).symm.trans ((congrArg (hput (hput (hput (hput (hput (hput (hput (hput (hput (hput (hput (hput hp q1 (eI 64 (fun _ => -1))) mo (eO 3 [.int 0, .ref q1, .null, .null])) q5 (eQ 4 4 (fun _ => none))) q9 (eQ 3 0 (fun _ => none))) q5 (eQ 4 4 (va_up (fun _ => none) 0 (some q9)))) q18 (eQ 3 0 (fun _ => none))) q5 (eQ 4 4 (va_up (va_up (fun _ => none) 0 (some q9)) 1 (some q18)))) q29 (eQ 3 0 (fun _ => none))) q5 (eQ 4 4 (va_up (va_up (va_up (fun _ => none) 0 (some q9)) 1 (some q18)) 2 (some q29)))) q42 (eQ 3 0 (fun _ => none))) q5 (eQ 4 4 (va_up (va_up (va_up (va_up (fun _ => none) 0 (some q9)) 1 (some q18)) 2 (some q29)) 3 (some q42)))) mo (eO 3 [.int 0, .ref q1, .ref q5, .null])) h).trans hqq64)) (fun h => by cases h)
  have he65 : (hput (hput (hput (hput (hput (hput (hput (hput (hput (hput (hput (hput (hput hp q1 (eI 64 (fun _ => -1))) mo (eO 3 [.int 0, .ref q1, .null, .null])) q5 (eQ 4 4 (fun _ => none))) q9 (eQ 3 0 (fun _ => none))) q5 (eQ 4 4 (va_up (fun _ => none) 0 (some q9)))) q18 (eQ 3 0 (fun _ => none))) q5 (eQ 4 4 (va_up (va_up (fun _ => none) 0 (some q9)) 1 (some q18)))) q29 (eQ 3 0 (fun _ => none))) q5 (eQ 4 4 (va_up (va_up (va_up (fun _ => none) 0 (some q9)) 1 (some q18)) 2 (some q29)))) q42 (eQ 3 0 (fun _ => none))) q5 (eQ 4 4 (va_up (va_up (va_up (va_up (fun _ => none) 0 (some q9)) 1 (some q18)) 2 (some q29)) 3 (some q42)))) mo (eO 3 [.int 0, .ref q1, .ref q5, .null])) q64 (eI 4 (fun _ => 0))) q64 = some (eI 4 (fun _ => 0)) := hput_s _ _ _
  have he66 : (hput (hput (hput (hput (hput (hput (hput (hput (hput (hput (hput (hput (hput hp q1 (eI 64 (fun _ => -1))) mo (eO 3 [.int 0, .ref q1, .null, .null])) q5 (eQ 4 4 (fun _ => none))) q9 (eQ 3 0 (fun _ => none))) q5 (eQ 4 4 (va_up (fun _ => none) 0 (some q9)))) q18 (eQ 3 0 (fun _ => none))) q5 (eQ 4 4 (va_up (va_up (fun _ => none) 0 (some q9)) 1 (some q18)))) q29 (eQ 3 0 (fun _ => none))) q5 (eQ 4 4 (va_up (va_up (va_up (fun _ => none) 0 (some q9)) 1 (some q18)) 2 (some q29)))) q42 (eQ 3 0 (fun _ => none))) q5 (eQ 4 4 (va_up (va_up (va_up (va_up (fun _ => none) 0 (some q9)) 1 (some q18)) 2 (some q29)) 3 (some q42)))) mo (eO 3 [.int 0, .ref q1, .ref q5, .null])) q64 (eI 4 (fun _ => 0))) mo = some (eO 3 [.int 0, .ref q1, .ref q5, .null]) := (hput_n _ _ hn_q64_mo).trans he57
  have he67 : (hput (hput (hput (hput (hput (hput (hput (hput (hput (hput (hput (hput (hput hp q1 (eI 64 (fun _ => -1))) mo (eO 3 [.int 0, .ref q1, .null, .null])) q5 (eQ 4 4 (fun _ => none))) q9 (eQ 3 0 (fun _ => none))) q5 (eQ 4 4 (va_up (fun _ => none) 0 (some q9)))) q18 (eQ 3 0 (fun _ => none))) q5 (eQ 4 4 (va_up (va_up (fun _ => none) 0 (some q9)) 1 (some q18)))) q29 (eQ 3 0 (fun _ => none))) q5 (eQ 4 4 (va_up (va_up (va_up (fun _ => none) 0 (some q9)) 1 (some q18)) 2 (some q29)))) q42 (eQ 3 0 (fun _ => none))) q5 (eQ 4 4 (va_up (va_up (va_up (va_up (fun _ => none) 0 (some q9)) 1 (some q18)) 2 (some q29)) 3 (some q42)))) mo (eO 3 [.int 0, .ref q1, .ref q5, .null])) q64 (eI 4 (fun _ => 0))) q1 = some (eI 64 (fun _ => -1)) := (hput_n _ _ hn_q64_q1).trans he58
  have he68 : (hput (hput (hput (hput (hput (hput (hput (hput (hput (hput (hput (hput (hput hp q1 (eI 64 (fun _ => -1))) mo (eO 3 [.int 0, .ref q1, .null, .null])) q5 (eQ 4 4 (fun _ => none))) q9 (eQ 3 0 (fun _ => none))) q5 (eQ 4 4 (va_up (fun _ => none) 0 (some q9)))) q18 (eQ 3 0 (fun _ => none))) q5 (eQ 4 4 (va_up (va_up (fun _ => none) 0 (some q9)) 1 (some q18)))) q29 (eQ 3 0 (fun _ => none))) q5 (eQ 4 4 (va_up (va_up (va_up (fun _ => none) 0 (some q9)) 1 (some q18)) 2 (some q29)))) q42 (eQ 3 0 (fun _ => none))) q5 (eQ 4 4 (va_up (va_up (va_up (va_up (fun _ => none) 0 (some q9)) 1 (some q18)) 2 (some q29)) 3 (some q42)))) mo (eO 3 [.int 0, .ref q1, .ref q5, .null])) q64 (eI 4 (fun _ => 0))) q5 = some (eQ 4 4 (va_up (va_up (va_up (va_up (fun _ => none) 0 (some q9)) 1 (some q18)) 2 (some q29)) 3 (some q42))) := (hput_n _ _ hn_q64_q5).trans he59
  have he69 : (hput (hput (hput (hput (hput (hput (hput (hput (hput (hput (hput (hput (hput hp q1 (eI 64 (fun _ => -1))) mo (eO 3 [.int 0, .ref q1, .null, .null])) q5 (eQ 4 4 (fun _ => none))) q9 (eQ 3 0 (fun _ => none))) q5 (eQ 4 4 (va_up (fun _ => none) 0 (some q9)))) q18 (eQ 3 0 (fun _ => none))) q5 (eQ 4 4 (va_up (va_up (fun _ => none) 0 (some q9)) 1 (some q18)))) q29 (eQ 3 0 (fun _ => none))) q5 (eQ 4 4 (va_up (va_up (va_up (fun _ => none) 0 (some q9)) 1 (some q18)) 2 (some q29)))) q42 (eQ 3 0 (fun _ => none))) q5 (eQ 4 4 (va_up (va_up (va_up (va_up (fun _ => none) 0 (some q9)) 1 (some q18)) 2 (some q29)) 3 (some q42)))) mo (eO 3 [.int 0, .ref q1, .ref q5, .null])) q64 (eI 4 (fun _ => 0))) q9 = some (eQ 3 0 (fun _ => none)) := (hput_n _ _ hn_q64_q9).trans he60
  have he70 : (hput (hput (hput (hput (hput (hput (hput (hput (hput (hput (hput (hput (hput hp q1 (eI 64 (fun _ => -1))) mo (eO 3 [.int 0, .ref q1, .null, .null])) q5 (eQ 4 4 (fun _ => none))) q9 (eQ 3 0 (fun _ => none))) q5 (eQ 4 4 (va_up (fun _ => none) 0 (some q9)))) q18 (eQ 3 0 (fun _ => none))) q5 (eQ 4 4 (va_up (va_up (fun _ => none) 0 (some q9)) 1 (some q18)))) q29 (eQ 3 0 (fun _ => none))) q5 (eQ 4 4 (va_up (va_up (va_up (fun _ => none) 0 (some q9)) 1 (some q18)) 2 (some q29)))) q42 (eQ 3 0 (fun _ => none))) q5 (eQ 4 4 (va_up (va_up (va_up (va_up (fun _ => none) 0 (some q9)) 1 (some q18)) 2 (some q29)) 3 (some q42)))) mo (eO 3 [.int 0, .ref q1, .ref q5, .null])) q64 (eI 4 (fun _ => 0))) q18 = some (eQ 3 0 (fun _ => none)) := (hput_n _ _ hn_q64_q18).trans he61
  have he71 : (hput (hput (hput (hput (hput (hput (hput (hput (hput (hput (hput (hput (hput hp q1 (eI 64 (fun _ => -1))) mo (eO 3 [.int 0, .ref q1, .null, .null])) q5 (eQ 4 4 (fun _ => none))) q9 (eQ 3 0 (fun _ => none))) q5 (eQ 4 4 (va_up (fun _ => none) 0 (some q9)))) q18 (eQ 3 0 (fun _ => none))) q5 (eQ 4 4 (va_up (va_up (fun _ => none) 0 (some q9)) 1 (some q18)))) q29 (eQ 3 0 (fun _ => none))) q5 (eQ 4 4 (va_up (va_up (va_up (fun _ => none) 0 (some q9)) 1 (some q18)) 2 (some q29)))) q42 (eQ 3 0 (fun _ => none))) q5 (eQ 4 4 (va_up (va_up (va_up (va_up (fun _ => none) 0 (some q9)) 1 (some q18)) 2 (some q29)) 3 (some q42)))) mo (eO 3 [.int 0, .ref q1, .ref q5, .null])) q64 (eI 4 (fun _ => 0))) q29 = some (eQ 3 0 (fun _ => none)) := (hput_n _ _ hn_q64_q29).trans he62
  have he72 : (hput (hput (hput (hput (hput (hput (hput (hput (hput (hput (hput (hput (hput hp q1 (eI 64 (fun _ => -1))) mo (eO 3 [.int 0, .ref q1, .null, .null])) q5 (eQ 4 4 (fun _ => none))) q9 (eQ 3 0 (fun _ => none))) q5 (eQ 4 4 (va_up (fun _ => none) 0 (some q9)))) q18 (eQ 3 0 (fun _ => none))) q5 (eQ 4 4 (va_up (va_up (fun _ => none) 0 (some q9)) 1 (some q18)))) q29 (eQ 3 0 (fun _ => none))) q5 (eQ 4 4 (va_up (va_up (va_up (fun _ => none) 0 (some q9)) 1 (some q18)) 2 (some q29)))) q42 (eQ 3 0 (fun _ => none))) q5 (eQ 4 4 (va_up (va_up (va_up (va_up (fun _ => none) 0 (some q9)) 1 (some q18)) 2 (some q29)) 3 (some q42)))) mo (eO 3 [.int 0, .ref q1, .ref q5, .null])) q64 (eI 4 (fun _ => 0))) q42 = some (eQ 3 0 (fun _ => none)) := (hput_n _ _ hn_q64_q42).trans he63
  refine lv_dup hx hb dX3_init_51 rfl ?_
  refine lv_iconst (v := nI 0) hx hb dX3_init_52 (by decide) ?_
  refine lv_iconst (v := nI 4) hx hb dX3_init_53 (by decide) ?_
  refine h_iast (i := 0) (x := nI 4) hx hb hK0 hV0 hA0 hS he65 (by omega) (by omega) dX3_init_54 (fun H locs hV0 hA0 hS => ?_)
  rw [hput_hput] at hV0 hA0
  have he73 : (hput (hput (hput (hput (hput (hput (hput (hput (hput (hput (hput (hput (hput hp q1 (eI 64 (fun _ => -1))) mo (eO 3 [.int 0, .ref q1, .null, .null])) q5 (eQ 4 4 (fun _ => none))) q9 (eQ 3 0 (fun _ => none))) q5 (eQ 4 4 (va_up (fun _ => none) 0 (some q9)))) q18 (eQ 3 0 (fun _ => none))) q5 (eQ 4 4 (va_up (va_up (fun _ => none) 0 (some q9)) 1 (some q18)))) q29 (eQ 3 0 (fun _ => none))) q5 (eQ 4 4 (va_up (va_up (va_up (fun _ => none) 0 (some q9)) 1 (some q18)) 2 (some q29)))) q42 (eQ 3 0 (fun _ => none))) q5 (eQ 4 4 (va_up (va_up (va_up (va_up (fun _ => none) 0 (some q9)) 1 (some q18)) 2 (some q29)) 3 (some q42)))) mo (eO 3 [.int 0, .ref q1, .ref q5, .null])) q64 (eI 4 (upd (fun _ => 0) (0) (nI 4)))) q64 = some (eI 4 (upd (fun _ => 0) (0) (nI 4))) := hput_s _ _ _
  have he74 : (hput (hput (hput (hput (hput (hput (hput (hput (hput (hput (hput (hput (hput hp q1 (eI 64 (fun _ => -1))) mo (eO 3 [.int 0, .ref q1, .null, .null])) q5 (eQ 4 4 (fun _ => none))) q9 (eQ 3 0 (fun _ => none))) q5 (eQ 4 4 (va_up (fun _ => none) 0 (some q9)))) q18 (eQ 3 0 (fun _ => none))) q5 (eQ 4 4 (va_up (va_up (fun _ => none) 0 (some q9)) 1 (some q18)))) q29 (eQ 3 0 (fun _ => none))) q5 (eQ 4 4 (va_up (va_up (va_up (fun _ => none) 0 (some q9)) 1 (some q18)) 2 (some q29)))) q42 (eQ 3 0 (fun _ => none))) q5 (eQ 4 4 (va_up (va_up (va_up (va_up (fun _ => none) 0 (some q9)) 1 (some q18)) 2 (some q29)) 3 (some q42)))) mo (eO 3 [.int 0, .ref q1, .ref q5, .null])) q64 (eI 4 (upd (fun _ => 0) (0) (nI 4)))) mo = some (eO 3 [.int 0, .ref q1, .ref q5, .null]) := (hput_n _ _ hn_q64_mo).trans ((by first | exact he66 | exact (hput_n _ _ hn_q64_mo).symm.trans he66))
  have he75 : (hput (hput (hput (hput (hput (hput (hput (hput (hput (hput (hput (hput (hput hp q1 (eI 64 (fun _ => -1))) mo (eO 3 [.int 0, .ref q1, .null, .null])) q5 (eQ 4 4 (fun _ => none))) q9 (eQ 3 0 (fun _ => none))) q5 (eQ 4 4 (va_up (fun _ => none) 0 (some q9)))) q18 (eQ 3 0 (fun _ => none))) q5 (eQ 4 4 (va_up (va_up (fun _ => none) 0 (some q9)) 1 (some q18)))) q29 (eQ 3 0 (fun _ => none))) q5 (eQ 4 4 (va_up (va_up (va_up (fun _ => none) 0 (some q9)) 1 (some q18)) 2 (some q29)))) q42 (eQ 3 0 (fun _ => none))) q5 (eQ 4 4 (va_up (va_up (va_up (va_up (fun _ => none) 0 (some q9)) 1 (some q18)) 2 (some q29)) 3 (some q42)))) mo (eO 3 [.int 0, .ref q1, .ref q5, .null])) q64 (eI 4 (upd (fun _ => 0) (0) (nI 4)))) q1 = some (eI 64 (fun _ => -1)) := (hput_n _ _ hn_q64_q1).trans ((by first | exact he67 | exact (hput_n _ _ hn_q64_q1).symm.trans he67))
  have he76 : (hput (hput (hput (hput (hput (hput (hput (hput (hput (hput (hput (hput (hput hp q1 (eI 64 (fun _ => -1))) mo (eO 3 [.int 0, .ref q1, .null, .null])) q5 (eQ 4 4 (fun _ => none))) q9 (eQ 3 0 (fun _ => none))) q5 (eQ 4 4 (va_up (fun _ => none) 0 (some q9)))) q18 (eQ 3 0 (fun _ => none))) q5 (eQ 4 4 (va_up (va_up (fun _ => none) 0 (some q9)) 1 (some q18)))) q29 (eQ 3 0 (fun _ => none))) q5 (eQ 4 4 (va_up (va_up (va_up (fun _ => none) 0 (some q9)) 1 (some q18)) 2 (some q29)))) q42 (eQ 3 0 (fun _ => none))) q5 (eQ 4 4 (va_up (va_up (va_up (va_up (fun _ => none) 0 (some q9)) 1 (some q18)) 2 (some q29)) 3 (some q42)))) mo (eO 3 [.int 0, .ref q1, .ref q5, .null])) q64 (eI 4 (upd (fun _ => 0) (0) (nI 4)))) q5 = some (eQ 4 4 (va_up (va_up (va_up (va_up (fun _ => none) 0 (some q9)) 1 (some q18)) 2 (some q29)) 3 (some q42))) := (hput_n _ _ hn_q64_q5).trans ((by first | exact he68 | exact (hput_n _ _ hn_q64_q5).symm.trans he68))
  have he77 : (hput (hput (hput (hput (hput (hput (hput (hput (hput (hput (hput (hput (hput hp q1 (eI 64 (fun _ => -1))) mo (eO 3 [.int 0, .ref q1, .null, .null])) q5 (eQ 4 4 (fun _ => none))) q9 (eQ 3 0 (fun _ => none))) q5 (eQ 4 4 (va_up (fun _ => none) 0 (some q9)))) q18 (eQ 3 0 (fun _ => none))) q5 (eQ 4 4 (va_up (va_up (fun _ => none) 0 (some q9)) 1 (some q18)))) q29 (eQ 3 0 (fun _ => none))) q5 (eQ 4 4 (va_up (va_up (va_up (fun _ => none) 0 (some q9)) 1 (some q18)) 2 (some q29)))) q42 (eQ 3 0 (fun _ => none))) q5 (eQ 4 4 (va_up (va_up (va_up (va_up (fun _ => none) 0 (some q9)) 1 (some q18)) 2 (some q29)) 3 (some q42)))) mo (eO 3 [.int 0, .ref q1, .ref q5, .null])) q64 (eI 4 (upd (fun _ => 0) (0) (nI 4)))) q9 = some (eQ 3 0 (fun _ => none)) := (hput_n _ _ hn_q64_q9).trans ((by first | exact he69 | exact (hput_n _ _ hn_q64_q9).symm.trans he69))
  have he78 : (hput (hput (hput (hput (hput (hput (hput (hput (hput (hput (hput (hput (hput hp q1 (eI 64 (fun _ => -1))) mo (eO 3 [.int 0, .ref q1, .null, .null])) q5 (eQ 4 4 (fun _ => none))) q9 (eQ 3 0 (fun _ => none))) q5 (eQ 4 4 (va_up (fun _ => none) 0 (some q9)))) q18 (eQ 3 0 (fun _ => none))) q5 (eQ 4 4 (va_up (va_up (fun _ => none) 0 (some q9)) 1 (some q18)))) q29 (eQ 3 0 (fun _ => none))) q5 (eQ 4 4 (va_up (va_up (va_up (fun _ => none) 0 (some q9)) 1 (some q18)) 2 (some q29)))) q42 (eQ 3 0 (fun _ => none))) q5 (eQ 4 4 (va_up (va_up (va_up (va_up (fun _ => none) 0 (some q9)) 1 (some q18)) 2 (some q29)) 3 (some q42)))) mo (eO 3 [.int 0, .ref q1, .ref q5, .null])) q64 (eI 4 (upd (fun _ => 0) (0) (nI 4)))) q18 = some (eQ 3 0 (fun _ => none)) := (hput_n _ _ hn_q64_q18).trans ((by first | exact he70 | exact (hput_n _ _ hn_q64_q18).symm.trans he70))
  have he79 : (hput (hput (hput (hput (hput (hput (hput (hput (hput (hput (hput (hput (hput hp q1 (eI 64 (fun _ => -1))) mo (eO 3 [.int 0, .ref q1, .null, .null])) q5 (eQ 4 4 (fun _ => none))) q9 (eQ 3 0 (fun _ => none))) q5 (eQ 4 4 (va_up (fun _ => none) 0 (some q9)))) q18 (eQ 3 0 (fun _ => none))) q5 (eQ 4 4 (va_up (va_up (fun _ => none) 0 (some q9)) 1 (some q18)))) q29 (eQ 3 0 (fun _ => none))) q5 (eQ 4 4 (va_up (va_up (va_up (fun _ => none) 0 (some q9)) 1 (some q18)) 2 (some q29)))) q42 (eQ 3 0 (fun _ => none))) q5 (eQ 4 4 (va_up (va_up (va_up (va_up (fun _ => none) 0 (some q9)) 1 (some q18)) 2 (some q29)) 3 (some q42)))) mo (eO 3 [.int 0, .ref q1, .ref q5, .null])) q64 (eI 4 (upd (fun _ => 0) (0) (nI 4)))) q29 = some (eQ 3 0 (fun _ => none)) := (hput_n _ _ hn_q64_q29).trans ((by first | exact he71 | exact (hput_n _ _ hn_q64_q29).symm.trans he71))
  have he80 : (hput (hput (hput (hput (hput (hput (hput (hput (hput (hput (hput (hput (hput hp q1 (eI 64 (fun _ => -1))) mo (eO 3 [.int 0, .ref q1, .null, .null])) q5 (eQ 4 4 (fun _ => none))) q9 (eQ 3 0 (fun _ => none))) q5 (eQ 4 4 (va_up (fun _ => none) 0 (some q9)))) q18 (eQ 3 0 (fun _ => none))) q5 (eQ 4 4 (va_up (va_up (fun _ => none) 0 (some q9)) 1 (some q18)))) q29 (eQ 3 0 (fun _ => none))) q5 (eQ 4 4 (va_up (va_up (va_up (fun _ => none) 0 (some q9)) 1 (some q18)) 2 (some q29)))) q42 (eQ 3 0 (fun _ => none))) q5 (eQ 4 4 (va_up (va_up (va_up (va_up (fun _ => none) 0 (some q9)) 1 (some q18)) 2 (some q29)) 3 (some q42)))) mo (eO 3 [.int 0, .ref q1, .ref q5, .null])) q64 (eI 4 (upd (fun _ => 0) (0) (nI 4)))) q42 = some (eQ 3 0 (fun _ => none)) := (hput_n _ _ hn_q64_q42).trans ((by first | exact he72 | exact (hput_n _ _ hn_q64_q42).symm.trans he72))
  refine lv_dup hx hb dX3_init_55 rfl ?_
  refine lv_iconst (v := nI 1) hx hb dX3_init_56 (by decide) ?_
  refine lv_iconst (v := nI 0) hx hb dX3_init_57 (by decide) ?_
  refine h_iast (i := 1) (x := nI 0) hx hb hK0 hV0 hA0 hS he73 (by omega) (by omega) dX3_init_58 (fun H locs hV0 hA0 hS => ?_)
  rw [hput_hput] at hV0 hA0
  have he81 : (hput (hput (hput (hput (hput (hput (hput (hput (hput (hput (hput (hput (hput hp q1 (eI 64 (fun _ => -1))) mo (eO 3 [.int 0, .ref q1, .null, .null])) q5 (eQ 4 4 (fun _ => none))) q9 (eQ 3 0 (fun _ => none))) q5 (eQ 4 4 (va_up (fun _ => none) 0 (some q9)))) q18 (eQ 3 0 (fun _ => none))) q5 (eQ 4 4 (va_up (va_up (fun _ => none) 0 (some q9)) 1 (some q18)))) q29 (eQ 3 0 (fun _ => none))) q5 (eQ 4 4 (va_up (va_up (va_up (fun _ => none) 0 (some q9)) 1 (some q18)) 2 (some q29)))) q42 (eQ 3 0 (fun _ => none))) q5 (eQ 4 4 (va_up (va_up (va_up (va_up (fun _ => none) 0 (some q9)) 1 (some q18)) 2 (some q29)) 3 (some q42)))) mo (eO 3 [.int 0, .ref q1, .ref q5, .null])) q64 (eI 4 (upd (upd (fun _ => 0) (0) (nI 4)) (1) (nI 0)))) q64 = some (eI 4 (upd (upd (fun _ => 0) (0) (nI 4)) (1) (nI 0))) := hput_s _ _ _
  have he82 : (hput (hput (hput (hput (hput (hput (hput (hput (hput (hput (hput (hput (hput hp q1 (eI 64 (fun _ => -1))) mo (eO 3 [.int 0, .ref q1, .null, .null])) q5 (eQ 4 4 (fun _ => none))) q9 (eQ 3 0 (fun _ => none))) q5 (eQ 4 4 (va_up (fun _ => none) 0 (some q9)))) q18 (eQ 3 0 (fun _ => none))) q5 (eQ 4 4 (va_up (va_up (fun _ => none) 0 (some q9)) 1 (some q18)))) q29 (eQ 3 0 (fun _ => none))) q5 (eQ 4 4 (va_up (va_up (va_up (fun _ => none) 0 (some q9)) 1 (some q18)) 2 (some q29)))) q42 (eQ 3 0 (fun _ => none))) q5 (eQ 4 4 (va_up (va_up (va_up (va_up (fun _ => none) 0 (some q9)) 1 (some q18)) 2 (some q29)) 3 (some q42)))) mo (eO 3 [.int 0, .ref q1, .ref q5, .null])) q64 (eI 4 (upd (upd (fun _ => 0) (0) (nI 4)) (1) (nI 0)))) mo = some (eO 3 [.int 0, .ref q1, .ref q5, .null]) := (hput_n _ _ hn_q64_mo).trans ((by first | exact he74 | exact (hput_n _ _ hn_q64_mo).symm.trans he74))
  have he83 : (hput (hput (hput (hput (hput (hput (hput (hput (hput (hput (hput (hput (hput hp q1 (eI 64 (fun _ => -1))) mo (eO 3 [.int 0, .ref q1, .null, .null])) q5 (eQ 4 4 (fun _ => none))) q9 (eQ 3 0 (fun _ => none))) q5 (eQ 4 4 (va_up (fun _ => none) 0 (some q9)))) q18 (eQ 3 0 (fun _ => none))) q5 (eQ 4 4 (va_up (va_up (fun _ => none) 0 (some q9)) 1 (some q18)))) q29 (eQ 3 0 (fun _ => none))) q5 (eQ 4 4 (va_up (va_up (va_up (fun _ => none) 0 (some q9)) 1 (some q18)) 2 (some q29)))) q42 (eQ 3 0 (fun _ => none))) q5 (eQ 4 4 (va_up (va_up (va_up (va_up (fun _ => none) 0 (some q9)) 1 (some q18)) 2 (some q29)) 3 (some q42)))) mo (eO 3 [.int 0, .ref q1, .ref q5, .null])) q64 (eI 4 (upd (upd (fun _ => 0) (0) (nI 4)) (1) (nI 0)))) q1 = some (eI 64 (fun _ => -1)) := (hput_n _ _ hn_q64_q1).trans ((by first | exact he75 | exact (hput_n _ _ hn_q64_q1).symm.trans he75))
  have he84 : (hput (hput (hput (hput (hput (hput (hput (hput (hput (hput (hput (hput (hput hp q1 (eI 64 (fun _ => -1))) mo (eO 3 [.int 0, .ref q1, .null, .null])) q5 (eQ 4 4 (fun _ => none))) q9 (eQ 3 0 (fun _ => none))) q5 (eQ 4 4 (va_up (fun _ => none) 0 (some q9)))) q18 (eQ 3 0 (fun _ => none))) q5 (eQ 4 4 (va_up (va_up (fun _ => none) 0 (some q9)) 1 (some q18)))) q29 (eQ 3 0 (fun _ => none))) q5 (eQ 4 4 (va_up (va_up (va_up (fun _ => none) 0 (some q9)) 1 (some q18)) 2 (some q29)))) q42 (eQ 3 0 (fun _ => none))) q5 (eQ 4 4 (va_up (va_up (va_up (va_up (fun _ => none) 0 (some q9)) 1 (some q18)) 2 (some q29)) 3 (some q42)))) mo (eO 3 [.int 0, .ref q1, .ref q5, .null])) q64 (eI 4 (upd (upd (fun _ => 0) (0) (nI 4)) (1) (nI 0)))) q5 = some (eQ 4 4 (va_up (va_up (va_up (va_up (fun _ => none) 0 (some q9)) 1 (some q18)) 2 (some q29)) 3 (some q42))) := (hput_n _ _ hn_q64_q5).trans ((by first | exact he76 | exact (hput_n _ _ hn_q64_q5).symm.trans he76))
  have he85 : (hput (hput (hput (hput (hput (hput (hput (hput (hput (hput (hput (hput (hput hp q1 (eI 64 (fun _ => -1))) mo (eO 3 [.int 0, .ref q1, .null, .null])) q5 (eQ 4 4 (fun _ => none))) q9 (eQ 3 0 (fun _ => none))) q5 (eQ 4 4 (va_up (fun _ => none) 0 (some q9)))) q18 (eQ 3 0 (fun _ => none))) q5 (eQ 4 4 (va_up (va_up (fun _ => none) 0 (some q9)) 1 (some q18)))) q29 (eQ 3 0 (fun _ => none))) q5 (eQ 4 4 (va_up (va_up (va_up (fun _ => none) 0 (some q9)) 1 (some q18)) 2 (some q29)))) q42 (eQ 3 0 (fun _ => none))) q5 (eQ 4 4 (va_up (va_up (va_up (va_up (fun _ => none) 0 (some q9)) 1 (some q18)) 2 (some q29)) 3 (some q42)))) mo (eO 3 [.int 0, .ref q1, .ref q5, .null])) q64 (eI 4 (upd (upd (fun _ => 0) (0) (nI 4)) (1) (nI 0)))) q9 = some (eQ 3 0 (fun _ => none)) := (hput_n _ _ hn_q64_q9).trans ((by first | exact he77 | exact (hput_n _ _ hn_q64_q9).symm.trans he77))
  have he86 : (hput (hput (hput (hput (hput (hput (hput (hput (hput (hput (hput (hput (hput hp q1 (eI 64 (fun _ => -1))) mo (eO 3 [.int 0, .ref q1, .null, .null])) q5 (eQ 4 4 (fun _ => none))) q9 (eQ 3 0 (fun _ => none))) q5 (eQ 4 4 (va_up (fun _ => none) 0 (some q9)))) q18 (eQ 3 0 (fun _ => none))) q5 (eQ 4 4 (va_up (va_up (fun _ => none) 0 (some q9)) 1 (some q18)))) q29 (eQ 3 0 (fun _ => none))) q5 (eQ 4 4 (va_up (va_up (va_up (fun _ => none) 0 (some q9)) 1 (some q18)) 2 (some q29)))) q42 (eQ 3 0 (fun _ => none))) q5 (eQ 4 4 (va_up (va_up (va_up (va_up (fun _ => none) 0 (some q9)) 1 (some q18)) 2 (some q29)) 3 (some q42)))) mo (eO 3 [.int 0, .ref q1, .ref q5, .null])) q64 (eI 4 (upd (upd (fun _ => 0) (0) (nI 4)) (1) (nI 0)))) q18 = some (eQ 3 0 (fun _ => none)) := (hput_n _ _ hn_q64_q18).trans ((by first | exact he78 | exact (hput_n _ _ hn_q64_q18).symm.trans he78))
  have he87 : (hput (hput (hput (hput (hput (hput (hput (hput (hput (hput (hput (hput (hput hp q1 (eI 64 (fun _ => -1))) mo (eO 3 [.int 0, .ref q1, .null, .null])) q5 (eQ 4 4 (fun _ => none))) q9 (eQ 3 0 (fun _ => none))) q5 (eQ 4 4 (va_up (fun _ => none) 0 (some q9)))) q18 (eQ 3 0 (fun _ => none))) q5 (eQ 4 4 (va_up (va_up (fun _ => none) 0 (some q9)) 1 (some q18)))) q29 (eQ 3 0 (fun _ => none))) q5 (eQ 4 4 (va_up (va_up (va_up (fun _ => none) 0 (some q9)) 1 (some q18)) 2 (some q29)))) q42 (eQ 3 0 (fun _ => none))) q5 (eQ 4 4 (va_up (va_up (va_up (va_up (fun _ => none) 0 (some q9)) 1 (some q18)) 2 (some q29)) 3 (some q42)))) mo (eO 3 [.int 0, .ref q1, .ref q5, .null])) q64 (eI 4 (upd (upd (fun _ => 0) (0) (nI 4)) (1) (nI 0)))) q29 = some (eQ 3 0 (fun _ => none)) := (hput_n _ _ hn_q64_q29).trans ((by first | exact he79 | exact (hput_n _ _ hn_q64_q29).symm.trans he79))
  have he88 : (hput (hput (hput (hput (hput (hput (hput (hput (hput (hput (hput (hput (hput hp q1 (eI 64 (fun _ => -1))) mo (eO 3 [.int 0, .ref q1, .null, .null])) q5 (eQ 4 4 (fun _ => none))) q9 (eQ 3 0 (fun _ => none))) q5 (eQ 4 4 (va_up (fun _ => none) 0 (some q9)))) q18 (eQ 3 0 (fun _ => none))) q5 (eQ 4 4 (va_up (va_up (fun _ => none) 0 (some q9)) 1 (some q18)))) q29 (eQ 3 0 (fun _ => none))) q5 (eQ 4 4 (va_up (va_up (va_up (fun _ => none) 0 (some q9)) 1 (some q18)) 2 (some q29)))) q42 (eQ 3 0 (fun _ => none))) q5 (eQ 4 4 (va_up (va_up (va_up (va_up (fun _ => none) 0 (some q9)) 1 (some q18)) 2 (some q29)) 3 (some q42)))) mo (eO 3 [.int 0, .ref q1, .ref q5, .null])) q64 (eI 4 (upd (upd (fun _ => 0) (0) (nI 4)) (1) (nI 0)))) q42 = some (eQ 3 0 (fun _ => none)) := (hput_n _ _ hn_q64_q42).trans ((by first | exact he80 | exact (hput_n _ _ hn_q64_q42).symm.trans he80))
  refine lv_dup hx hb dX3_init_59 rfl ?_
  refine lv_iconst (v := nI 2) hx hb dX3_init_60 (by decide) ?_
  refine lv_iconst (v := nI 0) hx hb dX3_init_61 (by decide) ?_
  refine h_iast (i := 2) (x := nI 0) hx hb hK0 hV0 hA0 hS he81 (by omega) (by omega) dX3_init_62 (fun H locs hV0 hA0 hS => ?_)
  rw [hput_hput] at hV0 hA0
  have he89 : (hput (hput (hput (hput (hput (hput (hput (hput (hput (hput (hput (hput (hput hp q1 (eI 64 (fun _ => -1))) mo (eO 3 [.int 0, .ref q1, .null, .null])) q5 (eQ 4 4 (fun _ => none))) q9 (eQ 3 0 (fun _ => none))) q5 (eQ 4 4 (va_up (fun _ => none) 0 (some q9)))) q18 (eQ 3 0 (fun _ => none))) q5 (eQ 4 4 (va_up (va_up (fun _ => none) 0 (some q9)) 1 (some q18)))) q29 (eQ 3 0 (fun _ => none))) q5 (eQ 4 4 (va_up (va_up (va_up (fun _ => none) 0 (some q9)) 1 (some q18)) 2 (some q29)))) q42 (eQ 3 0 (fun _ => none))) q5 (eQ 4 4 (va_up (va_up (va_up (va_up (fun _ => none) 0 (some q9)) 1 (some q18)) 2 (some q29)) 3 (some q42)))) mo (eO 3 [.int 0, .ref q1, .ref q5, .null])) q64 (eI 4 (upd (upd (upd (fun _ => 0) (0) (nI 4)) (1) (nI 0)) (2) (nI 0)))) q64 = some (eI 4 (upd (upd (upd (fun _ => 0) (0) (nI 4)) (1) (nI 0)) (2) (nI 0))) := hput_s _ _ _
  have he90 : (hput (hput (hput (hput (hput (hput (hput (hput (hput (hput (hput (hput (hput hp q1 (eI 64 (fun _ => -1))) mo (eO 3 [.int 0, .ref q1, .null, .null])) q5 (eQ 4 4 (fun _ => none))) q9 (eQ 3 0 (fun _ => none))) q5 (eQ 4 4 (va_up (fun _ => none) 0 (some q9)))) q18 (eQ 3 0 (fun _ => none))) q5 (eQ 4 4 (va_up (va_up (fun _ => none) 0 (some q9)) 1 (some q18)))) q29 (eQ 3 0 (fun _ => none))) q5 (eQ 4 4 (va_up (va_up (va_up (fun _ => none) 0 (some q9)) 1 (some q18)) 2 (some q29)))) q42 (eQ 3 0 (fun _ => none))) q5 (eQ 4 4 (va_up (va_up (va_up (va_up (fun _ => none) 0 (some q9)) 1 (some q18)) 2 (some q29)) 3 (some q42)))) mo (eO 3 [.int 0, .ref q1, .ref q5, .null])) q64 (eI 4 (upd (upd (upd (fun _ => 0) (0) (nI 4)) (1) (nI 0)) (2) (nI 0)))) mo = some (eO 3 [.int 0, .ref q1, .ref q5, .null]) := (hput_n _ _ hn_q64_mo).trans ((by first | exact he82 | exact (hput_n _ _ hn_q64_mo).symm.trans he82))
  have he91 : (hput (hput (hput (hput (hput (hput (hput (hput (hput (hput (hput (hput (hput hp q1 (eI 64 (fun _ => -1))) mo (eO 3 [.int 0, .ref q1, .null, .null])) q5 (eQ 4 4 (fun _ => none))) q9 (eQ 3 0 (fun _ => none))) q5 (eQ 4 4 (va_up (fun _ => none) 0 (some q9)))) q18 (eQ 3 0 (fun _ => none))) q5 (eQ 4 4 (va_up (va_up (fun _ => none) 0 (some q9)) 1 (some q18)))) q29 (eQ 3 0 (fun _ => none))) q5 (eQ 4 4 (va_up (va_up (va_up (fun _ => none) 0 (some q9)) 1 (some q18)) 2 (some q29)))) q42 (eQ 3 0 (fun _ => none))) q5 (eQ 4 4 (va_up (va_up (va_up (va_up (fun _ => none) 0 (some q9)) 1 (some q18)) 2 (some q29)) 3 (some q42)))) mo (eO 3 [.int 0, .ref q1, .ref q5, .null])) q64 (eI 4 (upd (upd (upd (fun _ => 0) (0) (nI 4)) (1) (nI 0)) (2) (nI 0)))) q1 = some (eI 64 (fun _ => -1)) := (hput_n _ _ hn_q64_q1).trans ((by first | exact he83 | exact (hput_n _ _ hn_q64_q1).symm.trans he83))
  have he92 : (hput (hput (hput (hput (hput (hput (hput (hput (hput (hput (hput (hput (hput hp q1 (eI 64 (fun _ => -1))) mo (eO 3 [.int 0, .ref q1, .null, .null])) q5 (eQ 4 4 (fun _ => none))) q9 (eQ 3 0 (fun _ => none))) q5 (eQ 4 4 (va_up (fun _ => none) 0 (some q9)))) q18 (eQ 3 0 (fun _ => none))) q5 (eQ 4 4 (va_up (va_up (fun _ => none) 0 (some q9)) 1 (some q18)))) q29 (eQ 3 0 (fun _ => none))) q5 (eQ 4 4 (va_up (va_up (va_up (fun _ => none) 0 (some q9)) 1 (some q18)) 2 (some q29)))) q42 (eQ 3 0 (fun _ => none))) q5 (eQ 4 4 (va_up (va_up (va_up (va_up (fun _ => none) 0 (some q9)) 1 (some q18)) 2 (some q29)) 3 (some q42)))) mo (eO 3 [.int 0, .ref q1, .ref q5, .null])) q64 (eI 4 (upd (upd (upd (fun _ => 0) (0) (nI 4)) (1) (nI 0)) (2) (nI 0)))) q5 = some (eQ 4 4 (va_up (va_up (va_up (va_up (fun _ => none) 0 (some q9)) 1 (some q18)) 2 (some q29)) 3 (some q42))) := (hput_n _ _ hn_q64_q5).trans ((by first | exact he84 | exact (hput_n _ _ hn_q64_q5).symm.trans he84))
  have he93 : (hput (hput (hput (hput (hput (hput (hput (hput (hput (hput (hput (hput (hput hp q1 (eI 64 (fun _ => -1))) mo (eO 3 [.int 0, .ref q1, .null, .null])) q5 (eQ 4 4 (fun _ => none))) q9 (eQ 3 0 (fun _ => none))) q5 (eQ 4 4 (va_up (fun _ => none) 0 (some q9)))) q18 (eQ 3 0 (fun _ => none))) q5 (eQ 4 4 (va_up (va_up (fun _ => none) 0 (some q9)) 1 (some q18)))) q29 (eQ 3 0 (fun _ => none))) q5 (eQ 4 4 (va_up (va_up (va_up (fun _ => none) 0 (some q9)) 1 (some q18)) 2 (some q29)))) q42 (eQ 3 0 (fun _ => none))) q5 (eQ 4 4 (va_up (va_up (va_up (va_up (fun _ => none) 0 (some q9)) 1 (some q18)) 2 (some q29)) 3 (some q42)))) mo (eO 3 [.int 0, .ref q1, .ref q5, .null])) q64 (eI 4 (upd (upd (upd (fun _ => 0) (0) (nI 4)) (1) (nI 0)) (2) (nI 0)))) q9 = some (eQ 3 0 (fun _ => none)) := (hput_n _ _ hn_q64_q9).trans ((by first | exact he85 | exact (hput_n _ _ hn_q64_q9).symm.trans he85))
  have he94 : (hput (hput (hput (hput (hput (hput (hput (hput (hput (hput (hput (hput (hput hp q1 (eI 64 (fun _ => -1))) mo (eO 3 [.int 0, .ref q1, .null, .null])) q5 (eQ 4 4 (fun _ => none))) q9 (eQ 3 0 (fun _ => none))) q5 (eQ 4 4 (va_up (fun _ => none) 0 (some q9)))) q18 (eQ 3 0 (fun _ => none))) q5 (eQ 4 4 (va_up (va_up (fun _ => none) 0 (some q9)) 1 (some q18)))) q29 (eQ 3 0 (fun _ => none))) q5 (eQ 4 4 (va_up (va_up (va_up (fun _ => none) 0 (some q9)) 1 (some q18)) 2 (some q29)))) q42 (eQ 3 0 (fun _ => none))) q5 (eQ 4 4 (va_up (va_up (va_up (va_up (fun _ => none) 0 (some q9)) 1 (some q18)) 2 (some q29)) 3 (some q42)))) mo (eO 3 [.int 0, .ref q1, .ref q5, .null])) q64 (eI 4 (upd (upd (upd (fun _ => 0) (0) (nI 4)) (1) (nI 0)) (2) (nI 0)))) q18 = some (eQ 3 0 (fun _ => none)) := (hput_n _ _ hn_q64_q18).trans ((by first | exact he86 | exact (hput_n _ _ hn_q64_q18).symm.trans he86))
  have he95 : (hput (hput (hput (hput (hput (hput (hput (hput (hput (hput (hput (hput (hput hp q1 (eI 64 (fun _ => -1))) mo (eO 3 [.int 0, .ref q1, .null, .null])) q5 (eQ 4 4 (fun _ => none))) q9 (eQ 3 0 (fun _ => none))) q5 (eQ 4 4 (va_up (fun _ => none) 0 (some q9)))) q18 (eQ 3 0 (fun _ => none))) q5 (eQ 4 4 (va_up (va_up (fun _ => none) 0 (some q9)) 1 (some q18)))) q29 (eQ 3 0 (fun _ => none))) q5 (eQ 4 4 (va_up (va_up (va_up (fun _ => none) 0 (some q9)) 1 (some q18)) 2 (some q29)))) q42 (eQ 3 0 (fun _ => none))) q5 (eQ 4 4 (va_up (va_up (va_up (va_up (fun _ => none) 0 (some q9)) 1 (some q18)) 2 (some q29)) 3 (some q42)))) mo (eO 3 [.int 0, .ref q1, .ref q5, .null])) q64 (eI 4 (upd (upd (upd (fun _ => 0) (0) (nI 4)) (1) (nI 0)) (2) (nI 0)))) q29 = some (eQ 3 0 (fun _ => none)) := (hput_n _ _ hn_q64_q29).trans ((by first | exact he87 | exact (hput_n _ _ hn_q64_q29).symm.trans he87))
  have he96 : (hput (hput (hput (hput (hput (hput (hput (hput (hput (hput (hput (hput (hput hp q1 (eI 64 (fun _ => -1))) mo (eO 3 [.int 0, .ref q1, .null, .null])) q5 (eQ 4 4 (fun _ => none))) q9 (eQ 3 0 (fun _ => none))) q5 (eQ 4 4 (va_up (fun _ => none) 0 (some q9)))) q18 (eQ 3 0 (fun _ => none))) q5 (eQ 4 4 (va_up (va_up (fun _ => none) 0 (some q9)) 1 (some q18)))) q29 (eQ 3 0 (fun _ => none))) q5 (eQ 4 4 (va_up (va_up (va_up (fun _ => none) 0 (some q9)) 1 (some q18)) 2 (some q29)))) q42 (eQ 3 0 (fun _ => none))) q5 (eQ 4 4 (va_up (va_up (va_up (va_up (fun _ => none) 0 (some q9)) 1 (some q18)) 2 (some q29)) 3 (some q42)))) mo (eO 3 [.int 0, .ref q1, .ref q5, .null])) q64 (eI 4 (upd (upd (upd (fun _ => 0) (0) (nI 4)) (1) (nI 0)) (2) (nI 0)))) q42 = some (eQ 3 0 (fun _ => none)) := (hput_n _ _ hn_q64_q42).trans ((by first | exact he88 | exact (hput_n _ _ hn_q64_q42).symm.trans he88))
  refine lv_dup hx hb dX3_init_63 rfl ?_
  refine lv_iconst (v := nI 3) hx hb dX3_init_64 (by decide) ?_
  refine lv_iconst (v := nI 0) hx hb dX3_init_65 (by decide) ?_
  refine h_iast (i := 3) (x := nI 0) hx hb hK0 hV0 hA0 hS he89 (by omega) (by omega) dX3_init_66 (fun H locs hV0 hA0 hS => ?_)
  rw [hput_hput] at hV0 hA0
  have he97 : (hput (hput (hput (hput (hput (hput (hput (hput (hput (hput (hput (hput (hput hp q1 (eI 64 (fun _ => -1))) mo (eO 3 [.int 0, .ref q1, .null, .null])) q5 (eQ 4 4 (fun _ => none))) q9 (eQ 3 0 (fun _ => none))) q5 (eQ 4 4 (va_up (fun _ => none) 0 (some q9)))) q18 (eQ 3 0 (fun _ => none))) q5 (eQ 4 4 (va_up (va_up (fun _ => none) 0 (some q9)) 1 (some q18)))) q29 (eQ 3 0 (fun _ => none))) q5 (eQ 4 4 (va_up (va_up (va_up (fun _ => none) 0 (some q9)) 1 (some q18)) 2 (some q29)))) q42 (eQ 3 0 (fun _ => none))) q5 (eQ 4 4 (va_up (va_up (va_up (va_up (fun _ => none) 0 (some q9)) 1 (some q18)) 2 (some q29)) 3 (some q42)))) mo (eO 3 [.int 0, .ref q1, .ref q5, .null])) q64 (eI 4 (upd (upd (upd (upd (fun _ => 0) (0) (nI 4)) (1) (nI 0)) (2) (nI 0)) (3) (nI 0)))) q64 = some (eI 4 (upd (upd (upd (upd (fun _ => 0) (0) (nI 4)) (1) (nI 0)) (2) (nI 0)) (3) (nI 0))) := hput_s _ _ _
  have he98 : (hput (hput (hput (hput (hput (hput (hput (hput (hput (hput (hput (hput (hput hp q1 (eI 64 (fun _ => -1))) mo (eO 3 [.int 0, .ref q1, .null, .null])) q5 (eQ 4 4 (fun _ => none))) q9 (eQ 3 0 (fun _ => none))) q5 (eQ 4 4 (va_up (fun _ => none) 0 (some q9)))) q18 (eQ 3 0 (fun _ => none))) q5 (eQ 4 4 (va_up (va_up (fun _ => none) 0 (some q9)) 1 (some q18)))) q29 (eQ 3 0 (fun _ => none))) q5 (eQ 4 4 (va_up (va_up (va_up (fun _ => none) 0 (some q9)) 1 (some q18)) 2 (some q29)))) q42 (eQ 3 0 (fun _ => none))) q5 (eQ 4 4 (va_up (va_up (va_up (va_up (fun _ => none) 0 (some q9)) 1 (some q18)) 2 (some q29)) 3 (some q42)))) mo (eO 3 [.int 0, .ref q1, .ref q5, .null])) q64 (eI 4 (upd (upd (upd (upd (fun _ => 0) (0) (nI 4)) (1) (nI 0)) (2) (nI 0)) (3) (nI 0)))) mo = some (eO 3 [.int 0, .ref q1, .ref q5, .null]) := (hput_n _ _ hn_q64_mo).trans ((by first | exact he90 | exact (hput_n _ _ hn_q64_mo).symm.trans he90))
  have he99 : (hput (hput (hput (hput (hput (hput (hput (hput (hput (hput (hput (hput (hput hp q1 (eI 64 (fun _ => -1))) mo (eO 3 [.int 0, .ref q1, .null, .null])) q5 (eQ 4 4 (fun _ => none))) q9 (eQ 3 0 (fun _ => none))) q5 (eQ 4 4 (va_up (fun _ => none) 0 (some q9)))) q18 (eQ 3 0 (fun _ => none))) q5 (eQ 4 4 (va_up (va_up (fun _ => none) 0 (some q9)) 1 (some q18)))) q29 (eQ 3 0 (fun _ => none))) q5 (eQ 4 4 (va_up (va_up (va_up (fun _ => none) 0 (some q9)) 1 (some q18)) 2 (some q29)))) q42 (eQ 3 0 (fun _ => none))) q5 (eQ 4 4 (va_up (va_up (va_up (va_up (fun _ => none) 0 (some q9)) 1 (some q18)) 2 (some q29)) 3 (some q42)))) mo (eO 3 [.int 0, .ref q1, .ref q5, .null])) q64 (eI 4 (upd (upd (upd (upd (fun _ => 0) (0) (nI 4)) (1) (nI 0)) (2) (nI 0)) (3) (nI 0)))) q1 = some (eI 64 (fun _ => -1)) := (hput_n _ _ hn_q64_q1).trans ((by first | exact he91 | exact (hput_n _ _ hn_q64_q1).symm.trans he91))
  have he100 : (hput (hput (hput (hput (hput (hput (hput (hput (hput (hput (hput (hput (hput hp q1 (eI 64 (fun _ => -1))) mo (eO 3 [.int 0, .ref q1, .null, .null])) q5 (eQ 4 4 (fun _ => none))) q9 (eQ 3 0 (fun _ => none))) q5 (eQ 4 4 (va_up (fun _ => none) 0 (some q9)))) q18 (eQ 3 0 (fun _ => none))) q5 (eQ 4 4 (va_up (va_up (fun _ => none) 0 (some q9)) 1 (some q18)))) q29 (eQ 3 0 (fun _ => none))) q5 (eQ 4 4 (va_up (va_up (va_up (fun _ => none) 0 (some q9)) 1 (some q18)) 2 (some q29)))) q42 (eQ 3 0 (fun _ => none))) q5 (eQ 4 4 (va_up (va_up (va_up (va_up (fun _ => none) 0 (some q9)) 1 (some q18)) 2 (some q29)) 3 (some q42)))) mo (eO 3 [.int 0, .ref q1, .ref q5, .null])) q64 (eI 4 (upd (upd (upd (upd (fun _ => 0) (0) (nI 4)) (1) (nI 0)) (2) (nI 0)) (3) (nI 0)))) q5 = some (eQ 4 4 (va_up (va_up (va_up (va_up (fun _ => none) 0 (some q9)) 1 (some q18)) 2 (some q29)) 3 (some q42))) := (hput_n _ _ hn_q64_q5).trans ((by first | exact he92 | exact (hput_n _ _ hn_q64_q5).symm.trans he92))
  have he101 : (hput (hput (hput (hput (hput (hput (hput (hput (hput (hput (hput (hput (hput hp q1 (eI 64 (fun _ => -1))) mo (eO 3 [.int 0, .ref q1, .null, .null])) q5 (eQ 4 4 (fun _ => none))) q9 (eQ 3 0 (fun _ => none))) q5 (eQ 4 4 (va_up (fun _ => none) 0 (some q9)))) q18 (eQ 3 0 (fun _ => none))) q5 (eQ 4 4 (va_up (va_up (fun _ => none) 0 (some q9)) 1 (some q18)))) q29 (eQ 3 0 (fun _ => none))) q5 (eQ 4 4 (va_up (va_up (va_up (fun _ => none) 0 (some q9)) 1 (some q18)) 2 (some q29)))) q42 (eQ 3 0 (fun _ => none))) q5 (eQ 4 4 (va_up (va_up (va_up (va_up (fun _ => none) 0 (some q9)) 1 (some q18)) 2 (some q29)) 3 (some q42)))) mo (eO 3 [.int 0, .ref q1, .ref q5, .null])) q64 (eI 4 (upd (upd (upd (upd (fun _ => 0) (0) (nI 4)) (1) (nI 0)) (2) (nI 0)) (3) (nI 0)))) q9 = some (eQ 3 0 (fun _ => none)) := (hput_n _ _ hn_q64_q9).trans ((by first | exact he93 | exact (hput_n _ _ hn_q64_q9).symm.trans he93))
  have he102 : (hput (hput (hput (hput (hput (hput (hput (hput (hput (hput (hput (hput (hput hp q1 (eI 64 (fun _ => -1))) mo (eO 3 [.int 0, .ref q1, .null, .null])) q5 (eQ 4 4 (fun _ => none))) q9 (eQ 3 0 (fun _ => none))) q5 (eQ 4 4 (va_up (fun _ => none) 0 (some q9)))) q18 (eQ 3 0 (fun _ => none))) q5 (eQ 4 4 (va_up (va_up (fun _ => none) 0 (some q9)) 1 (some q18)))) q29 (eQ 3 0 (fun _ => none))) q5 (eQ 4 4 (va_up (va_up (va_up (fun _ => none) 0 (some q9)) 1 (some q18)) 2 (some q29)))) q42 (eQ 3 0 (fun _ => none))) q5 (eQ 4 4 (va_up (va_up (va_up (va_up (fun _ => none) 0 (some q9)) 1 (some q18)) 2 (some q29)) 3 (some q42)))) mo (eO 3 [.int 0, .ref q1, .ref q5, .null])) q64 (eI 4 (upd (upd (upd (upd (fun _ => 0) (0) (nI 4)) (1) (nI 0)) (2) (nI 0)) (3) (nI 0)))) q18 = some (eQ 3 0 (fun _ => none)) := (hput_n _ _ hn_q64_q18).trans ((by first | exact he94 | exact (hput_n _ _ hn_q64_q18).symm.trans he94))
  have he103 : (hput (hput (hput (hput (hput (hput (hput (hput (hput (hput (hput (hput (hput hp q1 (eI 64 (fun _ => -1))) mo (eO 3 [.int 0, .ref q1, .null, .null])) q5 (eQ 4 4 (fun _ => none))) q9 (eQ 3 0 (fun _ => none))) q5 (eQ 4 4 (va_up (fun _ => none) 0 (some q9)))) q18 (eQ 3 0 (fun _ => none))) q5 (eQ 4 4 (va_up (va_up (fun _ => none) 0 (some q9)) 1 (some q18)))) q29 (eQ 3 0 (fun _ => none))) q5 (eQ 4 4 (va_up (va_up (va_up (fun _ => none) 0 (some q9)) 1 (some q18)) 2 (some q29)))) q42 (eQ 3 0 (fun _ => none))) q5 (eQ 4 4 (va_up (va_up (va_up (va_up (fun _ => none) 0 (some q9)) 1 (some q18)) 2 (some q29)) 3 (some q42)))) mo (eO 3 [.int 0, .ref q1, .ref q5, .null])) q64 (eI 4 (upd (upd (upd (upd (fun _ => 0) (0) (nI 4)) (1) (nI 0)) (2) (nI 0)) (3) (nI 0)))) q29 = some (eQ 3 0 (fun _ => none)) := (hput_n _ _ hn_q64_q29).trans ((by first | exact he95 | exact (hput_n _ _ hn_q64_q29).symm.trans he95))
  have he104 : (hput (hput (hput (hput (hput (hput (hput (hput (hput (hput (hput (hput (hput hp q1 (eI 64 (fun _ => -1))) mo (eO 3 [.int 0, .ref q1, .null, .null])) q5 (eQ 4 4 (fun _ => none))) q9 (eQ 3 0 (fun _ => none))) q5 (eQ 4 4 (va_up (fun _ => none) 0 (some q9)))) q18 (eQ 3 0 (fun _ => none))) q5 (eQ 4 4 (va_up (va_up (fun _ => none) 0 (some q9)) 1 (some q18)))) q29 (eQ 3 0 (fun _ => none))) q5 (eQ 4 4 (va_up (va_up (va_up (fun _ => none) 0 (some q9)) 1 (some q18)) 2 (some q29)))) q42 (eQ 3 0 (fun _ => none))) q5 (eQ 4 4 (va_up (va_up (va_up (va_up (fun _ => none) 0 (some q9)) 1 (some q18)) 2 (some q29)) 3 (some q42)))) mo (eO 3 [.int 0, .ref q1, .ref q5, .null])) q64 (eI 4 (upd (upd (upd (upd (fun _ => 0) (0) (nI 4)) (1) (nI 0)) (2) (nI 0)) (3) (nI 0)))) q42 = some (eQ 3 0 (fun _ => none)) := (hput_n _ _ hn_q64_q42).trans ((by first | exact he96 | exact (hput_n _ _ hn_q64_q42).symm.trans he96))
  refine h_put (v := .ref q64) hx hb hts hi3 tyX3 tyX3_ok nmX3 hown hK0 hV0 hA0 hS he98 rfl 3 (by decide) hw8 rfl (by rfl) (by rfl) (Nat.le_of_ble_eq_true rfl) dX3_init_67 (fun H locs hV0 hA0 hS => ?_)
  have he105 : (hput (hput (hput (hput (hput (hput (hput (hput (hput (hput (hput (hput (hput (hput hp q1 (eI 64 (fun _ => -1))) mo (eO 3 [.int 0, .ref q1, .null, .null])) q5 (eQ 4 4 (fun _ => none))) q9 (eQ 3 0 (fun _ => none))) q5 (eQ 4 4 (va_up (fun _ => none) 0 (some q9)))) q18 (eQ 3 0 (fun _ => none))) q5 (eQ 4 4 (va_up (va_up (fun _ => none) 0 (some q9)) 1 (some q18)))) q29 (eQ 3 0 (fun _ => none))) q5 (eQ 4 4 (va_up (va_up (va_up (fun _ => none) 0 (some q9)) 1 (some q18)) 2 (some q29)))) q42 (eQ 3 0 (fun _ => none))) q5 (eQ 4 4 (va_up (va_up (va_up (va_up (fun _ => none) 0 (some q9)) 1 (some q18)) 2 (some q29)) 3 (some q42)))) mo (eO 3 [.int 0, .ref q1, .ref q5, .null])) q64 (eI 4 (upd (upd (upd (upd (fun _ => 0) (0) (nI 4)) (1) (nI 0)) (2) (nI 0)) (3) (nI 0)))) mo (eO 3 [.int 0, .ref q1, .ref q5, .ref q64])) mo = some (eO 3 [.int 0, .ref q1, .ref q5, .ref q64]) := hput_s _ _ _
  have he106 : (hput (hput (hput (hput (hput (hput (hput (hput (hput (hput (hput (hput (hput (hput hp q1 (eI 64 (fun _ => -1))) mo (eO 3 [.int 0, .ref q1, .null, .null])) q5 (eQ 4 4 (fun _ => none))) q9 (eQ 3 0 (fun _ => none))) q5 (eQ 4 4 (va_up (fun _ => none) 0 (some q9)))) q18 (eQ 3 0 (fun _ => none))) q5 (eQ 4 4 (va_up (va_up (fun _ => none) 0 (some q9)) 1 (some q18)))) q29 (eQ 3 0 (fun _ => none))) q5 (eQ 4 4 (va_up (va_up (va_up (fun _ => none) 0 (some q9)) 1 (some q18)) 2 (some q29)))) q42 (eQ 3 0 (fun _ => none))) q5 (eQ 4 4 (va_up (va_up (va_up (va_up (fun _ => none) 0 (some q9)) 1 (some q18)) 2 (some q29)) 3 (some q42)))) mo (eO 3 [.int 0, .ref q1, .ref q5, .null])) q64 (eI 4 (upd (upd (upd (upd (fun _ => 0) (0) (nI 4)) (1) (nI 0)) (2) (nI 0)) (3) (nI 0)))) mo (eO 3 [.int 0, .ref q1, .ref q5, .ref q64])) q1 = some (eI 64 (fun _ => -1)) := (hput_n _ _ (Ne.symm hn_q1_mo)).trans ((by first | exact he99 | exact (hput_n _ _ (Ne.symm hn_q1_mo)).symm.trans he99))
  have he107 : (hput (hput (hput (hput (hput (hput (hput (hput (hput (hput (hput (hput (hput (hput hp q1 (eI 64 (fun _ => -1))) mo (eO 3 [.int 0, .ref q1, .null, .null])) q5 (eQ 4 4 (fun _ => none))) q9 (eQ 3 0 (fun _ => none))) q5 (eQ 4 4 (va_up (fun _ => none) 0 (some q9)))) q18 (eQ 3 0 (fun _ => none))) q5 (eQ 4 4 (va_up (va_up (fun _ => none) 0 (some q9)) 1 (some q18)))) q29 (eQ 3 0 (fun _ => none))) q5 (eQ 4 4 (va_up (va_up (va_up (fun _ => none) 0 (some q9)) 1 (some q18)) 2 (some q29)))) q42 (eQ 3 0 (fun _ => none))) q5 (eQ 4 4 (va_up (va_up (va_up (va_up (fun _ => none) 0 (some q9)) 1 (some q18)) 2 (some q29)) 3 (some q42)))) mo (eO 3 [.int 0, .ref q1, .ref q5, .null])) q64 (eI 4 (upd (upd (upd (upd (fun _ => 0) (0) (nI 4)) (1) (nI 0)) (2) (nI 0)) (3) (nI 0)))) mo (eO 3 [.int 0, .ref q1, .ref q5, .ref q64])) q5 = some (eQ 4 4 (va_up (va_up (va_up (va_up (fun _ => none) 0 (some q9)) 1 (some q18)) 2 (some q29)) 3 (some q42))) := (hput_n _ _ (Ne.symm hn_q5_mo)).trans ((by first | exact he100 | exact (hput_n _ _ (Ne.symm hn_q5_mo)).symm.trans he100))
  have he108 : (hput (hput (hput (hput (hput (hput (hput (hput (hput (hput (hput (hput (hput (hput hp q1 (eI 64 (fun _ => -1))) mo (eO 3 [.int 0, .ref q1, .null, .null])) q5 (eQ 4 4 (fun _ => none))) q9 (eQ 3 0 (fun _ => none))) q5 (eQ 4 4 (va_up (fun _ => none) 0 (some q9)))) q18 (eQ 3 0 (fun _ => none))) q5 (eQ 4 4 (va_up (va_up (fun _ => none) 0 (some q9)) 1 (some q18)))) q29 (eQ 3 0 (fun _ => none))) q5 (eQ 4 4 (va_up (va_up (va_up (fun _ => none) 0 (some q9)) 1 (some q18)) 2 (some q29)))) q42 (eQ 3 0 (fun _ => none))) q5 (eQ 4 4 (va_up (va_up (va_up (va_up (fun _ => none) 0 (some q9)) 1 (some q18)) 2 (some q29)) 3 (some q42)))) mo (eO 3 [.int 0, .ref q1, .ref q5, .null])) q64 (eI 4 (upd (upd (upd (upd (fun _ => 0) (0) (nI 4)) (1) (nI 0)) (2) (nI 0)) (3) (nI 0)))) mo (eO 3 [.int 0, .ref q1, .ref q5, .ref q64])) q9 = some (eQ 3 0 (fun _ => none)) := (hput_n _ _ (Ne.symm hn_q9_mo)).trans ((by first | exact he101 | exact (hput_n _ _ (Ne.symm hn_q9_mo)).symm.trans he101))
  have he109 : (hput (hput (hput (hput (hput (hput (hput (hput (hput (hput (hput (hput (hput (hput hp q1 (eI 64 (fun _ => -1))) mo (eO 3 [.int 0, .ref q1, .null, .null])) q5 (eQ 4 4 (fun _ => none))) q9 (eQ 3 0 (fun _ => none))) q5 (eQ 4 4 (va_up (fun _ => none) 0 (some q9)))) q18 (eQ 3 0 (fun _ => none))) q5 (eQ 4 4 (va_up (va_up (fun _ => none) 0 (some q9)) 1 (some q18)))) q29 (eQ 3 0 (fun _ => none))) q5 (eQ 4 4 (va_up (va_up (va_up (fun _ => none) 0 (some q9)) 1 (some q18)) 2 (some q29)))) q42 (eQ 3 0 (fun _ => none))) q5 (eQ 4 4 (va_up (va_up (va_up (va_up (fun _ => none) 0 (some q9)) 1 (some q18)) 2 (some q29)) 3 (some q42)))) mo (eO 3 [.int 0, .ref q1, .ref q5, .null])) q64 (eI 4 (upd (upd (upd (upd (fun _ => 0) (0) (nI 4)) (1) (nI 0)) (2) (nI 0)) (3) (nI 0)))) mo (eO 3 [.int 0, .ref q1, .ref q5, .ref q64])) q18 = some (eQ 3 0 (fun _ => none)) := (hput_n _ _ (Ne.symm hn_q18_mo)).trans ((by first | exact he102 | exact (hput_n _ _ (Ne.symm hn_q18_mo)).symm.trans he102))
  have he110 : (hput (hput (hput (hput (hput (hput (hput (hput (hput (hput (hput (hput (hput (hput hp q1 (eI 64 (fun _ => -1))) mo (eO 3 [.int 0, .ref q1, .null, .null])) q5 (eQ 4 4 (fun _ => none))) q9 (eQ 3 0 (fun _ => none))) q5 (eQ 4 4 (va_up (fun _ => none) 0 (some q9)))) q18 (eQ 3 0 (fun _ => none))) q5 (eQ 4 4 (va_up (va_up (fun _ => none) 0 (some q9)) 1 (some q18)))) q29 (eQ 3 0 (fun _ => none))) q5 (eQ 4 4 (va_up (va_up (va_up (fun _ => none) 0 (some q9)) 1 (some q18)) 2 (some q29)))) q42 (eQ 3 0 (fun _ => none))) q5 (eQ 4 4 (va_up (va_up (va_up (va_up (fun _ => none) 0 (some q9)) 1 (some q18)) 2 (some q29)) 3 (some q42)))) mo (eO 3 [.int 0, .ref q1, .ref q5, .null])) q64 (eI 4 (upd (upd (upd (upd (fun _ => 0) (0) (nI 4)) (1) (nI 0)) (2) (nI 0)) (3) (nI 0)))) mo (eO 3 [.int 0, .ref q1, .ref q5, .ref q64])) q29 = some (eQ 3 0 (fun _ => none)) := (hput_n _ _ (Ne.symm hn_q29_mo)).trans ((by first | exact he103 | exact (hput_n _ _ (Ne.symm hn_q29_mo)).symm.trans he103))
  have he111 : (hput (hput (hput (hput (hput (hput (hput (hput (hput (hput (hput (hput (hput (hput hp q1 (eI 64 (fun _ => -1))) mo (eO 3 [.int 0, .ref q1, .null, .null])) q5 (eQ 4 4 (fun _ => none))) q9 (eQ 3 0 (fun _ => none))) q5 (eQ 4 4 (va_up (fun _ => none) 0 (some q9)))) q18 (eQ 3 0 (fun _ => none))) q5 (eQ 4 4 (va_up (va_up (fun _ => none) 0 (some q9)) 1 (some q18)))) q29 (eQ 3 0 (fun _ => none))) q5 (eQ 4 4 (va_up (va_up (va_up (fun _ => none) 0 (some q9)) 1 (some q18)) 2 (some q29)))) q42 (eQ 3 0 (fun _ => none))) q5 (eQ 4 4 (va_up (va_up (va_up (va_up (fun _ => none) 0 (some q9)) 1 (some q18)) 2 (some q29)) 3 (some q42)))) mo (eO 3 [.int 0, .ref q1, .ref q5, .null])) q64 (eI 4 (upd (upd (upd (upd (fun _ => 0) (0) (nI 4)) (1) (nI 0)) (2) (nI 0)) (3) (nI 0)))) mo (eO 3 [.int 0, .ref q1, .ref q5, .ref q64])) q42 = some (eQ 3 0 (fun _ => none)) := (hput_n _ _ (Ne.symm hn_q42_mo)).trans ((by first | exact he104 | exact (hput_n _ _ (Ne.symm hn_q42_mo)).symm.trans he104))
  have he112 : (hput (hput (hput (hput (hput (hput (hput (hput (hput (hput (hput (hput (hput (hput hp q1 (eI 64 (fun _ => -1))) mo (eO 3 [.int 0, .ref q1, .null, .null])) q5 (eQ 4 4 (fun _ => none))) q9 (eQ 3 0 (fun _ => none))) q5 (eQ 4 4 (va_up (fun _ => none) 0 (some q9)))) q18 (eQ 3 0 (fun _ => none))) q5 (eQ 4 4 (va_up (va_up (fun _ => none) 0 (some q9)) 1 (some q18)))) q29 (eQ 3 0 (fun _ => none))) q5 (eQ 4 4 (va_up (va_up (va_up (fun _ => none) 0 (some q9)) 1 (some q18)) 2 (some q29)))) q42 (eQ 3 0 (fun _ => none))) q5 (eQ 4 4 (va_up (va_up (va_up (va_up (fun _ => none) 0 (some q9)) 1 (some q18)) 2 (some q29)) 3 (some q42)))) mo (eO 3 [.int 0, .ref q1, .ref q5, .null])) q64 (eI 4 (upd (upd (upd (upd (fun _ => 0) (0) (nI 4)) (1) (nI 0)) (2) (nI 0)) (3) (nI 0)))) mo (eO 3 [.int 0, .ref q1, .ref q5, .ref q64])) q64 = some (eI 4 (upd (upd (upd (upd (fun _ => 0) (0) (nI 4)) (1) (nI 0)) (2) (nI 0)) (3) (nI 0))) := (hput_n _ _ (Ne.symm hn_q64_mo)).trans ((by first | exact he97 | exact (hput_n _ _ (Ne.symm hn_q64_mo)).symm.trans he97))
  have hAl : ∀ l, l < 4 → mQ (hput (hput (hput (hput (hput (hput (hput (hput (hput (hput (hput (hput (hput (hput hp q1 (eI 64 (fun _ => -1))) mo (eO 3 [.int 0, .ref q1, .null, .null])) q5 (eQ 4 4 (fun _ => none))) q9 (eQ 3 0 (fun _ => none))) q5 (eQ 4 4 (va_up (fun _ => none) 0 (some q9)))) q18 (eQ 3 0 (fun _ => none))) q5 (eQ 4 4 (va_up (va_up (fun _ => none) 0 (some q9)) 1 (some q18)))) q29 (eQ 3 0 (fun _ => none))) q5 (eQ 4 4 (va_up (va_up (va_up (fun _ => none) 0 (some q9)) 1 (some q18)) 2 (some q29)))) q42 (eQ 3 0 (fun _ => none))) q5 (eQ 4 4 (va_up (va_up (va_up (va_up (fun _ => none) 0 (some q9)) 1 (some q18)) 2 (some q29)) 3 (some q42)))) mo (eO 3 [.int 0, .ref q1, .ref q5, .null])) q64 (eI 4 (upd (upd (upd (upd (fun _ => 0) (0) (nI 4)) (1) (nI 0)) (2) (nI 0)) (3) (nI 0)))) mo (eO 3 [.int 0, .ref q1, .ref q5, .ref q64])) (lv0 q9 q18 q29 q42 l) 3 (bN V0 l) (fun _ => 0) := by
    intro l hl
    rcases (show l = 0 ∨ l = 1 ∨ l = 2 ∨ l = 3 by omega) with z | z | z | z <;> subst z
    · exact ⟨_, he108, fun i hi => absurd hi (Nat.not_lt_zero i)⟩
    · exact ⟨_, he109, fun i hi => absurd hi (Nat.not_lt_zero i)⟩
    · exact ⟨_, he110, fun i hi => absurd hi (Nat.not_lt_zero i)⟩
    · exact ⟨_, he111, fun i hi => absurd hi (Nat.not_lt_zero i)⟩
  have hm : mA mo q1 q5 q64 (lv0 q9 q18 q29 q42) (fun _ _ => 0) 0 emR V0 (nI 4) 0 (hput (hput (hput (hput (hput (hput (hput (hput (hput (hput (hput (hput (hput (hput hp q1 (eI 64 (fun _ => -1))) mo (eO 3 [.int 0, .ref q1, .null, .null])) q5 (eQ 4 4 (fun _ => none))) q9 (eQ 3 0 (fun _ => none))) q5 (eQ 4 4 (va_up (fun _ => none) 0 (some q9)))) q18 (eQ 3 0 (fun _ => none))) q5 (eQ 4 4 (va_up (va_up (fun _ => none) 0 (some q9)) 1 (some q18)))) q29 (eQ 3 0 (fun _ => none))) q5 (eQ 4 4 (va_up (va_up (va_up (fun _ => none) 0 (some q9)) 1 (some q18)) 2 (some q29)))) q42 (eQ 3 0 (fun _ => none))) q5 (eQ 4 4 (va_up (va_up (va_up (va_up (fun _ => none) 0 (some q9)) 1 (some q18)) 2 (some q29)) 3 (some q42)))) mo (eO 3 [.int 0, .ref q1, .ref q5, .null])) q64 (eI 4 (upd (upd (upd (upd (fun _ => 0) (0) (nI 4)) (1) (nI 0)) (2) (nI 0)) (3) (nI 0)))) mo (eO 3 [.int 0, .ref q1, .ref q5, .ref q64])) := ⟨he105, ⟨_, he106, fun k _ => sw_2.symm⟩, ⟨_, he107, fun i hi => by rcases (show i = 0 ∨ i = 1 ∨ i = 2 ∨ i = 3 by omega) with z | z | z | z <;> subst z <;> rfl⟩, ⟨_, he112, by rfl, by rfl, by rfl, by rfl⟩, hAl, fun l r _ hr => absurd hr (Nat.not_lt_zero r), fun l => Nat.zero_le _⟩
  exact W.vret hx hb hr (h_qW ⟨rfl, q1, q5, q64, _, _, hm, ⟨⟨hXo, (nX hXe hqq1), (nX hXe (hput_none (hput_none hqq5).2).2), (nX hXe (hput_none (hput_none (hput_none (hput_none (hput_none (hput_none (hput_none (hput_none (hput_none (hput_none (hput_none (hput_none hqq64).2).2).2).2).2).2).2).2).2).2).2).2)⟩, fun q hq => (hput_some (hput_some (hput_some (hput_some (hput_some (hput_some (hput_some (hput_some (hput_some (hput_some (hput_some (hput_some (hput_some (hput_some (hXe q hq)))))))))))))))⟩, fun l r _ hr => absurd hr (Nat.not_lt_zero r), (mKp.put (mKp.put (mKp.put (mKp.put (mKp.put (mKp.put (mKp.put (mKp.put (mKp.put (mKp.put (mKp.put (mKp.put (mKp.put (mKp.put mKp.rf (nX hXe hqq1)) hXo) (nX hXe (hput_none (hput_none hqq5).2).2)) (nX hXe (hput_none (hput_none (hput_none hqq9).2).2).2)) (nX hXe (hput_none (hput_none hqq5).2).2)) (nX hXe (hput_none (hput_none (hput_none (hput_none (hput_none hqq18).2).2).2).2).2)) (nX hXe (hput_none (hput_none hqq5).2).2)) (nX hXe (hput_none (hput_none (hput_none (hput_none (hput_none (hput_none (hput_none hqq29).2).2).2).2).2).2).2)) (nX hXe (hput_none (hput_none hqq5).2).2)) (nX hXe (hput_none (hput_none (hput_none (hput_none (hput_none (hput_none (hput_none (hput_none (hput_none hqq42).2).2).2).2).2).2).2).2).2)) (nX hXe (hput_none (hput_none hqq5).2).2)) hXo) (nX hXe (hput_none (hput_none (hput_none (hput_none (hput_none (hput_none (hput_none (hput_none (hput_none (hput_none (hput_none (hput_none hqq64).2).2).2).2).2).2).2).2).2).2).2).2)) hXo)⟩ hV0 hA0 hS) hS.2.2 dX3_init_70 hlocks
