/-! THE HEAP AS A MAP: an address holds an array (its kind, length, contents) or an object (its class' place, its fields). Rows over it. -/
abbrev hE : Type := (Nat × vp_A) ⊕ (Nat × List Value)
abbrev HP : Type := Nat → Option hE
abbrev hG : Type := va_G × (Nat → ClassId)
def hat (G : hG) (a : Nat) (e : hE) (H : Heap) : Prop := match e with
  | .inl x => H[a]? = some (vp_cell (G.2 x.1) x.2)
  | .inr o => va_at G.1 vwCl (a, .inr o) H
def hV (G : hG) (hp : HP) (H : Heap) : Prop := ∀ (a : Nat) (e : hE), hp a = some e → hat G a e H
abbrev hTs (G : hG) : List (ClassId × FieldType) := [(G.2 0, .int), (G.2 1, .int), (G.2 2, .object RX1), (G.2 3, .array .int), (G.2 4, .array (.array .int)), (G.2 5, .array (.array (.array .int)))]
/-- the classes of arrays of arrays, what can be cloned -/
def hAA (t : FieldType) (U : State) : Prop := (Cond.arrayOver (.array t)).before #[] U = true
theorem hAA.use {t : FieldType} {A : Array Value} {U : State} (h : hAA t U) : (Cond.arrayOver (.array t)).before A U = true := h
theorem hAA.moved {t : FieldType} {u U : State} (hvm : u.vm.Alike U.vm) (h : hAA t u) : hAA t U := by
  obtain ⟨comp, c, k, h1, h2, h3, h4, h5⟩ := arrayOverA_spec h
  obtain ⟨k', hk', he⟩ := hvm.2.2 _ _ h3
  have hi0 := va_idx_bare U.vm comp
  have hi1 := va_idx_bare u.vm comp
  first | rw [hvm.bare_eq] at hi1 | rw [← hvm.bare_eq] at hi1
  have hi : (U.vm.classes.findIdx? fun (x : Class) => match x.kind with | .array component _ => component == comp | _ => false) = some c := (hi0.symm.trans hi1).trans h2
  have hkind : k'.kind = .array comp (.array t) := by rw [he]; exact h4
  have f1 : U.vm.findClass (FieldType.array t).toString = some comp := by rw [hvm.findClass]; exact h1
  have f2 : U.vm.findClass ("[" ++ (FieldType.array t).toString) = some c := by rw [hvm.findClass]; exact h5
  unfold hAA Cond.before Cond.holds
  simp only [Cond.value]
  rw [f1, Option.bind_some]
  refine (congrArg (fun o : Option Nat => (o.bind (fun c => (U.vm.classes[c]?).map fun (k : Class) => match k.kind with | .array _ ty => decide (ty = FieldType.array t) && decide (U.vm.findClass ("[" ++ (FieldType.array t).toString) = some c) | _ => false) == some true)) hi).trans ?_
  simp [hk', hkind, f2]
abbrev nwW : Cond := .methodLinkNest RX3 39 yL_with RL
abbrev nwT : Cond := .methodLinkNest RX3 72 yL_told RL
abbrev nwI : Cond := .methodLinkNest RL 69 yX3_init RL
def hZA (U : State) : Prop := va_AO RX1 U ∧ hAA .int U ∧ hAA (.array .int) U ∧ hAA (.array (.array .int)) U ∧ va_Nw nwW U ∧ va_Nw nwT U ∧ va_Nw nwI U
theorem hNc.moved {C T : String} {u U : State} (hvm : u.vm.Alike U.vm) (h : va_Nw (.castable C T) u) : va_Nw (.castable C T) U := va_tabs rfl (rfl : (u.setVm U.vm).vm = U.vm) (by rw [Cond.castable_setVm hvm]; exact h)
theorem hZA.moved {u U : State} (hvm : u.WarmedH U.vm) (h : hZA u) : hZA U := ⟨h.1.moved hvm.alike, h.2.1.moved hvm.alike, h.2.2.1.moved hvm.alike, h.2.2.2.1.moved hvm.alike, h.2.2.2.2.1.warmM hvm, h.2.2.2.2.2.1.warmM hvm, h.2.2.2.2.2.2.warmM hvm⟩
def hK (G : hG) (U : State) : Prop := va_K G.1 vwCl (hTs G) U ∧ hZA U
def hput (hp : HP) (a : Nat) (e : hE) : HP := fun q => if q = a then some e else hp q
abbrev eI (n : Nat) (f : Nat → Int32) : hE := .inl (0, n, .inl f)
abbrev eJ (n : Nat) (f : Nat → Int64) : hE := .inl (1, n, .inr (.inl f))
abbrev eQ (t n : Nat) (f : Nat → Option Nat) : hE := .inl (t, n, .inr (.inr (.inr (.inr f))))
abbrev eO (c : Nat) (fs : List Value) : hE := .inr (c, fs)
theorem hput_s (hp : HP) (a : Nat) (e : hE) : hput hp a e a = some e := by simp [hput]
theorem hput_n (hp : HP) {a q : Nat} (e : hE) (h : q ≠ a) : hput hp a e q = hp q := by simp [hput, h]
theorem hput_hput (hp : HP) (a : Nat) (e e2 : hE) : hput (hput hp a e) a e2 = hput hp a e2 := by
  funext q
  by_cases h : q = a <;> simp [hput, h]
theorem hput_comm (hp : HP) {a b : Nat} (e e2 : hE) (h : a ≠ b) : hput (hput hp a e) b e2 = hput (hput hp b e2) a e := by
  funext q
  by_cases h1 : q = a
  · subst h1
    simp [hput, h]
  · by_cases h2 : q = b
    · subst h2
      simp [hput, h1]
    · simp [hput, h1, h2]
theorem hput_same {hp : HP} {a : Nat} {e : hE} (h : hp a = some e) : hput hp a e = hp := by
  funext q
  by_cases h1 : q = a
  · subst h1
    simp [hput, h]
  · simp [hput, h1]
theorem hat.kept {G : hG} {a : Nat} {e : hE} {H H1 : Heap} (h : hat G a e H) (hq : H1[a]? = H[a]?) : hat G a e H1 := by
  cases e with
  | inl x => exact hq.trans h
  | inr o => exact va_at.kept (q := (a, .inr o)) h hq
theorem hat.lt {G : hG} {a : Nat} {e : hE} {H : Heap} (h : hat G a e H) : a < H.size := by
  cases e with
  | inl x => exact (Array.getElem?_eq_some_iff.mp h).1
  | inr o => exact va_at.lt (q := (a, .inr o)) h
theorem hV.put {G : hG} {hp : HP} {H H1 : Heap} {a : Nat} {e : hE} (h : hV G hp H) (he : hat G a e H1) (oq : ∀ q : Nat, q ≠ a → H1[q]? = H[q]?) : hV G (hput hp a e) H1 := by
  intro q x hx
  by_cases h1 : q = a
  · subst h1
    rw [hput_s] at hx
    cases hx
    exact he
  · rw [hput_n _ _ h1] at hx
    exact (h q x hx).kept (oq q h1)
theorem hV.new {G : hG} {hp : HP} {H H1 : Heap} {a : Nat} {e : hE} (h : hV G hp H) (ha : a = H.size) (he : hat G a e H1) (oq : ∀ q : Nat, q < a → H1[q]? = H[q]?) : hV G (hput hp a e) H1 := by
  intro q x hx
  by_cases h1 : q = a
  · subst h1
    rw [hput_s] at hx
    cases hx
    exact he
  · rw [hput_n _ _ h1] at hx
    have := (h q x hx).lt
    exact (h q x hx).kept (oq q (by omega))
theorem hV.none {G : hG} {hp : HP} {H : Heap} (h : hV G hp H) {a : Nat} (ha : H.size ≤ a) : hp a = none := by
  cases hh : hp a with
  | none => rfl
  | some e =>
    have := (h a e hh).lt
    omega
theorem hV.P1 {G : hG} {hp : HP} {H : Heap} {a ci : Nat} {fs : List Value} (h : hV G hp H) (he : hp a = some (.inr (ci, fs))) : va_P G.1 vwCl [(a, .inr (ci, fs))] H := by
  intro k q hk
  match k, hk with
  | 0, hk => cases hk; exact h a _ he
  | k + 1, hk => simp at hk
theorem hV.P2 {G : hG} {hp : HP} {H : Heap} {a t : Nat} {x : vp_A} (h : hV G hp H) (he : hp a = some (.inl (t, x))) : va_P G.1 vwCl [(a, .inl (G.2 t, x))] H := by
  intro k q hk
  match k, hk with
  | 0, hk => cases hk; exact h a _ he
  | k + 1, hk => simp at hk
/-- two contents of an int array that agree below its length are one -/
theorem hat_congr {G : hG} {a n : Nat} {f g : Nat → Int32} {H : Heap} (h : hat G a (eI n f) H) (hfg : ∀ j, j < n → f j = g j) : hat G a (eI n g) H := by
  have e : vp_cell (G.2 0) (n, .inl f) = vp_cell (G.2 0) (n, .inl g) := by
    rw [vp_cell_i, vp_cell_i]
    unfold arrV
    congr 1
    apply Array.ext
    · simp
    · intro i h1 h2
      simp only [Array.getElem_ofFn]
      rw [hfg i (by simpa using h1)]
  show H[a]? = some (vp_cell (G.2 0) (n, .inl g))
  rw [← e]
  exact h
theorem hatq_congr {G : hG} {a t n : Nat} {f g : Nat → Option Nat} {H : Heap} (h : hat G a (eQ t n f) H) (hfg : ∀ j, j < n → f j = g j) : hat G a (eQ t n g) H := by
  have e : vp_cell (G.2 t) (n, .inr (.inr (.inr (.inr f)))) = vp_cell (G.2 t) (n, .inr (.inr (.inr (.inr g)))) := by
    rw [vp_cell_q, vp_cell_q]
    unfold arrV
    congr 1
    apply Array.ext
    · simp
    · intro i h1 h2
      simp only [Array.getElem_ofFn]
      rw [hfg i (by simpa using h1)]
  show H[a]? = some (vp_cell (G.2 t) (n, .inr (.inr (.inr (.inr g)))))
  rw [← e]
  exact h
theorem hV.recast {G : hG} {hp hp' : HP} {H : Heap} (h : hV G hp H) (hc : ∀ a e, hp' a = some e → hp a = some e ∨ (∃ n f g, hp a = some (eI n f) ∧ e = eI n g ∧ ∀ j, j < n → f j = g j) ∨ (∃ t n f g, hp a = some (eQ t n f) ∧ e = eQ t n g ∧ ∀ j, j < n → f j = g j)) : hV G hp' H := by
  intro a e he
  rcases hc a e he with h1 | ⟨n, f, g, h1, rfl, h2⟩ | ⟨t, n, f, g, h1, rfl, h2⟩
  · exact h a e h1
  · exact hat_congr (h a _ h1) h2
  · exact hatq_congr (h a _ h1) h2
theorem hK.moved {G : hG} {u U : State} (hvm : u.WarmedH U.vm) (h : hK G u) : hK G U := ⟨va_K.moved hvm.alike h.1, h.2.moved hvm⟩
/-- what a reading method starts from -/
def hPr (G : hG) (hp : HP) (av : List Value) : Array Value → State → Prop := va_Pc av (fun U => hV G hp U.heap ∧ hK G U)
/-- a reading method's end: its answer, the heap as it was -/
def hR (ro : Option Value) : Array Value → State → Outcome → State → Prop := fun _ st o t => o = .returned ro ∧ t.heap = st.heap
/-- what a writing method starts from -/
def hPw (G : hG) (A : Nat → Prop) (hp : HP) (av : List Value) : Array Value → State → Prop := va_Pc av (fun U => hV G hp U.heap ∧ hK G U ∧ ∀ q : Nat, U.heap.size ≤ q → A q)
def hIn (A : Nat → Prop) (hp : HP) : Prop := ∀ a e, hp a = some e → A a
/-- a writing method's end -/
def hW (G : hG) (A : Nat → Prop) (P : Option Value → HP → Prop) : Array Value → State → Outcome → State → Prop := fun _ st o t => (∃ (ro : Option Value) (hp' : HP), o = .returned ro ∧ P ro hp' ∧ hV G hp' t.heap ∧ hIn A hp') ∧ va_F A st t
theorem hIn.put {A : Nat → Prop} {hp : HP} {a : Nat} {e : hE} (h : hIn A hp) (ha : A a) : hIn A (hput hp a e) := by
  intro q x hx
  by_cases h1 : q = a
  · subst h1; exact ha
  · rw [hput_n _ _ h1] at hx
    exact h q x hx
theorem hPr_blind {G : hG} {hp : HP} {av : List Value} : FrameBlind (hPr G hp av) := fun a U g mk q => ⟨q.1, q.2.1, hK.moved (u := U) (U := U.calling g mk a) (State.WarmedH.refl U) q.2.2⟩
theorem hPw_blind {G : hG} {A : Nat → Prop} {hp : HP} {av : List Value} : FrameBlind (hPw G A hp av) := fun a U g mk q => ⟨q.1, q.2.1, hK.moved (u := U) (U := U.calling g mk a) (State.WarmedH.refl U) q.2.2.1, q.2.2.2⟩
theorem h_recv {G : hG} {hp : HP} {s : State} {H : Heap} {a ci : Nat} {fs : List Value} {q : vw_C} (hK0 : hK G s) (hV0 : hV G hp H) (he : hp a = some (.inr (ci, fs))) (hc : vwCl[ci]? = some q) : ∃ cell : Cell, H[a]? = some cell ∧ cell.vm.isStatics = false ∧ s.vm.findClass q.1 = some cell.cls := va_recv hK0.1 (hV0.P1 he) hc (q0 := 0) rfl
theorem h_preV {G : hG} {hp : HP} {s : State} {H : Heap} {b ci : Nat} {fs : List Value} {q : vw_C} {As : List Value} (hK0 : hK G s) (hV0 : hV G hp H) (he : hp b = some (.inr (ci, fs))) (hc : vwCl[ci]? = some q) : PreV s H q.1 b (hPr G hp (.ref b :: As)) As :=
  ⟨hPr_blind, h_recv hK0 hV0 he hc, fun U hU hW => ⟨rfl, by rw [hU]; exact hV0, hK.moved hW hK0⟩⟩
theorem h_preS {G : hG} {hp : HP} {s : State} {H : Heap} {As : List Value} (hK0 : hK G s) (hV0 : hV G hp H) : PreS s H (hPr G hp As) As :=
  ⟨hPr_blind, fun U hU hW => ⟨rfl, by rw [hU]; exact hV0, hK.moved hW hK0⟩⟩
theorem h_preVw {G : hG} {A : Nat → Prop} {hp : HP} {s : State} {H : Heap} {locs : List Loc} {b ci : Nat} {fs : List Value} {q : vw_C} {As : List Value} (hK0 : hK G s) (hV0 : hV G hp H) (hA : ∀ q : Nat, s.heap.size ≤ q → A q) (hS : va_S A s.heap H locs) (he : hp b = some (.inr (ci, fs))) (hc : vwCl[ci]? = some q) : PreV s H q.1 b (hPw G A hp (.ref b :: As)) As :=
  ⟨hPw_blind, h_recv hK0 hV0 he hc, fun U hU hW => ⟨rfl, by rw [hU]; exact hV0, hK.moved hW hK0, fun q hq => hA q (Nat.le_trans hS.1 (by rw [← hU]; exact hq))⟩⟩
theorem h_preSw {G : hG} {A : Nat → Prop} {hp : HP} {s : State} {H : Heap} {locs : List Loc} {As : List Value} (hK0 : hK G s) (hV0 : hV G hp H) (hA : ∀ q : Nat, s.heap.size ≤ q → A q) (hS : va_S A s.heap H locs) : PreS s H (hPw G A hp As) As :=
  ⟨hPw_blind, fun U hU hW => ⟨rfl, by rw [hU]; exact hV0, hK.moved hW hK0, fun q hq => hA q (Nat.le_trans hS.1 (by rw [← hU]; exact hq))⟩⟩
section HA
variable {p : Program} {l : Launch} {e : Env} {R : Room} {s : State} {m : MethodId} {args : Array Value} {below : List Frame} {meth : Method} {c : Code} {H : Heap} {locs : List Loc} {cells slots : Nat} {Q : State → Prop}
variable {cc : ByteArray} {pc : Nat} {ls : Array Slot} {rest st0 : List Value} {G : hG} {hp : HP} {A : Nat → Prop} {a : Nat} {H0 : Heap} {mc ms : Nat}
theorem h_callR {ro : Option Value} {av : Array Value} {free : Addr → Prop} (hf : ∀ q, free q → False) (hr : va_Run p l e R s m args below meth c H locs cells slots 0 0 (F0 m pc ls st0) rest (hR ro av) free)
    (kk : W p l e R s m args below meth c H locs cells slots Q (F0 m (pc + 3) ls (ro.toList ++ rest))) : W p l e R s m args below meth c H locs cells slots Q (F0 m pc ls st0) := by
  intro T hT X
  obtain ⟨v, st₀, t, T', L, h0, X', hL, e1, e2, ⟨hv, hh⟩, st⟩ := hr T hT X
  cases hv
  obtain ⟨t2, a1, b1⟩ := kk T' (by rw [e1, hh, h0]) (Stand.forget X' (fun q h => (hf _ (hL q h)).elim))
  exact ⟨t2, st t2 a1, b1⟩
theorem h_callW {P : Option Value → HP → Prop} {av : Array Value} (hr : va_Run p l e R s m args below meth c H locs cells slots mc ms (F0 m pc ls st0) rest (hW G A P av) A) (hS : va_S A H0 H locs)
    (kk : ∀ (ro : Option Value) (hp' : HP) (H1 : Heap) (locs1 : List Loc), P ro hp' → hV G hp' H1 → hIn A hp' → va_S A H0 H1 locs1 → W p l e R s m args below meth c H1 locs1 (cells + mc) (slots + ms) Q (F0 m (pc + 3) ls (ro.toList ++ rest))) : W p l e R s m args below meth c H locs cells slots Q (F0 m pc ls st0) := by
  intro T hT X
  obtain ⟨v, st₀, t, T', L, h0, X', hL, e1, e2, ⟨⟨ro, hp', hv, hp1, hv1, hin1⟩, hz, hk⟩, st⟩ := hr T hT X
  cases hv
  rw [h0] at hz hk
  obtain ⟨t2, a1, b1⟩ := kk v hp' T'.heap (locs ++ L) hp1 (by rw [e1]; exact hv1) hin1
    ⟨Nat.le_trans hS.1 (by rw [e1]; exact hz), fun q h1 h2 => by rw [e1, hk q (Nat.lt_of_lt_of_le h1 hS.1) h2]; exact hS.2.1 q h1 h2, fun q hq => by
      rcases List.mem_append.mp hq with h | h
      · exact hS.2.2 q h
      · exact hL q h⟩ T' rfl X'
  exact ⟨t2, st t2 a1, b1⟩
theorem h_get (hexec : p.tables.exec = Jvm.exec) (hb : c.code = cc) {own C : String} {T : u_T} {N ci index : Nat} {Ts : List Cond} (hts : ∀ w ∈ Ts, w.before args s = true) (hin : ∀ w ∈ u_ws C T N, w ∈ Ts) (hown : s.vm.findClass own = some m.cls) (hK0 : hK G s) (hV0 : hV G hp H) {fs : List Value} (he : hp a = some (.inr (ci, fs))) (hc : vwCl[ci]? = some (C, T, N)) (k : Nat) (hk : k < N) (hlink : (Cond.fieldLink own index (T k).1 (T k).2.1 (T k).2.2.1).before args s = true) {v : Value} (hv : fs[k]? = some v) (hdg : decode cc pc = .ok (.getfield index, 3))
    (kk : W p l e R s m args below meth c H locs cells slots Q (F0 m (pc + 3) ls (v :: rest))) : W p l e R s m args below meth c H locs cells slots Q (F0 m pc ls (.ref a :: rest)) :=
  va_get hexec hb hts hin hown hK0.1 (hV0.P1 he) 0 rfl hc k hk hlink (fun _ h => h) hv hdg kk
theorem h_iald (hexec : p.tables.exec = Jvm.exec) (hb : c.code = cc) (hK0 : hK G s) (hV0 : hV G hp H) {n : Nat} {f : Nat → Int32} (he : hp a = some (eI n f)) {i : Nat} (hi : i < n) (hn : n < 2 ^ 31) (hdg : decode cc pc = .ok (.iaload, 1))
    (kk : W p l e R s m args below meth c H locs cells slots Q (F0 m (pc + 1) ls (.int (f i) :: rest))) : W p l e R s m args below meth c H locs cells slots Q (F0 m pc ls (.int (nI i) :: .ref a :: rest)) :=
  va_iald hexec hb hK0.1 (hV0.P2 he) 0 0 rfl rfl (vp_in_nI hi hn) hdg (by rw [nI_clamp (show i < 2 ^ 31 by omega)]; exact kk)
theorem h_aald (hexec : p.tables.exec = Jvm.exec) (hb : c.code = cc) (hK0 : hK G s) (hV0 : hV G hp H) {t n : Nat} {ty : FieldType} {f : Nat → Option Nat} (he : hp a = some (eQ t n f)) (ht : (hTs G)[t]? = some (G.2 t, ty)) (hr : ty.isReference = true) {i : Nat} (hi : i < n) (hn : n < 2 ^ 31) (hdg : decode cc pc = .ok (.aaload, 1))
    (kk : W p l e R s m args below meth c H locs cells slots Q (F0 m (pc + 1) ls (va_rf (f i) :: rest))) : W p l e R s m args below meth c H locs cells slots Q (F0 m pc ls (.int (nI i) :: .ref a :: rest)) := by
  have hin := vp_in_nI hi hn
  have hcl := nI_clamp (show i < 2 ^ 31 by omega)
  exact W.aald (v := va_rf (f i)) (ty := ty) hexec hb (hV0 a _ he) ((hK0.1.2 t _ ht).1 n (fun j => va_rf (f j))) hr (fun q => by cases q) (by show ¬ (nI i < 0 ∨ (arrV _ _ _).slots.size ≤ _); rw [arrV_size]; exact hin) (by show (arrV _ _ _).slots[_]? = _; rw [hcl, arrV_read _ _ hi]) rfl rfl hdg kk
theorem h_alen (hexec : p.tables.exec = Jvm.exec) (hb : c.code = cc) (hK0 : hK G s) (hV0 : hV G hp H) {t : Nat} {x : vp_A} (he : hp a = some (.inl (t, x))) {ty : FieldType} (ht : (hTs G)[t]? = some (G.2 t, ty)) (hdg : decode cc pc = .ok (.arraylength, 1))
    (kk : W p l e R s m args below meth c H locs cells slots Q (F0 m (pc + 1) ls (.int (nI x.1) :: rest))) : W p l e R s m args below meth c H locs cells slots Q (F0 m pc ls (.ref a :: rest)) :=
  va_alen hexec hb hK0.1 (hV0.P2 he) 0 t rfl ht rfl hdg kk
theorem h_put (hexec : p.tables.exec = Jvm.exec) (hb : c.code = cc) {own C : String} {T : u_T} {N ci index : Nat} {Ts : List Cond} (hts : ∀ w ∈ Ts, w.before args s = true) (hin : ∀ w ∈ u_ws C T N, w ∈ Ts) (ty0 : Nat → FieldType) (hty : ∀ k, k < N → parseFieldDescriptor (T k).2.2.1 = some (ty0 k)) (hnm : ∀ a, a < N → ∀ b, b < N → a ≠ b → (T a).2.1 ≠ (T b).2.1) (hown : s.vm.findClass own = some m.cls) (hK0 : hK G s) (hV0 : hV G hp H) (hA0 : hIn A hp) (hS0 : va_S A H0 H locs) {fs : List Value} (he : hp a = some (.inr (ci, fs))) (hc : vwCl[ci]? = some (C, T, N)) (k : Nat) (hk : k < N) (hlink : (Cond.fieldLink own index (T k).1 (T k).2.1 (T k).2.2.1).before args s = true) (hfin : (T k).2.2.2 = false) {v : Value} (hn : narrow (ty0 k) v = v) (hfit : fits (ty0 k) v = true) (hl : k < fs.length)
    (hdg : decode cc pc = .ok (.putfield index, 3)) (kk : ∀ (H1 : Heap) (locs1 : List Loc), hV G (hput hp a (.inr (ci, fs.set k v))) H1 → hIn A (hput hp a (.inr (ci, fs.set k v))) → va_S A H0 H1 locs1 → W p l e R s m args below meth c H1 locs1 cells slots Q (F0 m (pc + 3) ls rest)) : W p l e R s m args below meth c H locs cells slots Q (F0 m pc ls (v :: .ref a :: rest)) := by
  have hap := va_apart (own := own) hts hin ty0 hty hnm hK0.1 hc
  obtain ⟨r, h1, cell, q1, q2, q3, q4⟩ := hV0 a _ he
  have hr : r = (C, T, N) := Option.some.inj (h1.symm.trans hc)
  subst hr
  obtain ⟨hSl, hfc, kC, hkC, hkind⟩ := hK0.1.1 ci _ hc
  obtain ⟨cf, kf, fi, f, hi, hsl⟩ := hSl k hk
  have hlay := hts _ (hin _ (u_in_lay hk))
  unfold u_lay at hlay
  rw [if_neg (by rw [hfin]; decide)] at hlay
  have hst := (u_facts hfc hkC (u_lays hts hin hk) hi).1
  have h6 := u_store hfc hkC hkind hlay hi (hty k hk) hn hfit
  refine W.putK hexec hb (f := f) ⟨hown, hlink, ⟨_, _, _, hi⟩, hst⟩ (by rw [q2]; exact h6) q1 q3 (by rw [hsl]; exact k2_hasslot (q4 k hk)) rfl rfl hdg fun H' e1 e2 e3 => ?_
  rw [hsl] at e1 ⊢
  exact kk H' _ (hV0.put (e := .inr (ci, fs.set k v)) ⟨_, hc, t_OB.to (V := updV (vp_V fs) k v) ⟨_, e1, q2, q3, t_set q4 hap hk v⟩ (fun j _ => vp_updV_set hl v j)⟩ e3) (hA0.put (hA0 a _ he)) (hS0.put e2 e3 (hA0 a _ he))
theorem h_putF (hexec : p.tables.exec = Jvm.exec) (hb : c.code = cc) {own C : String} {T : u_T} {N ci index : Nat} {Ts : List Cond} (hts : ∀ w ∈ Ts, w.before args s = true) (hin : ∀ w ∈ u_ws C T N, w ∈ Ts) (ty0 : Nat → FieldType) (hty : ∀ k, k < N → parseFieldDescriptor (T k).2.2.1 = some (ty0 k)) (hnm : ∀ a, a < N → ∀ b, b < N → a ≠ b → (T a).2.1 ≠ (T b).2.1) (hown : s.vm.findClass own = some m.cls) (hK0 : hK G s) (hV0 : hV G hp H) (hA0 : hIn A hp) (hS0 : va_S A H0 H locs) {fs : List Value} (he : hp a = some (.inr (ci, fs))) (hc : vwCl[ci]? = some (C, T, N)) (k : Nat) (hk : k < N) (hlink : (Cond.fieldLink own index (T k).1 (T k).2.1 (T k).2.2.1).before args s = true) (hfin : (T k).2.2.2 = true) (hin2 : meth.name = "<init>") (hdecl : (T k).1 = own) {v : Value} (hn : narrow (ty0 k) v = v) (hfit : fits (ty0 k) v = true) (hl : k < fs.length)
    (hdg : decode cc pc = .ok (.putfield index, 3)) (kk : ∀ (H1 : Heap) (locs1 : List Loc), hV G (hput hp a (.inr (ci, fs.set k v))) H1 → hIn A (hput hp a (.inr (ci, fs.set k v))) → va_S A H0 H1 locs1 → W p l e R s m args below meth c H1 locs1 cells slots Q (F0 m (pc + 3) ls rest)) : W p l e R s m args below meth c H locs cells slots Q (F0 m pc ls (v :: .ref a :: rest)) := by
  have hap := va_apart (own := own) hts hin ty0 hty hnm hK0.1 hc
  obtain ⟨r, h1, cell, q1, q2, q3, q4⟩ := hV0 a _ he
  have hr : r = (C, T, N) := Option.some.inj (h1.symm.trans hc)
  subst hr
  obtain ⟨hSl, hfc, kC, hkC, hkind⟩ := hK0.1.1 ci _ hc
  obtain ⟨cf, kf, fi, f, hi, hsl⟩ := hSl k hk
  have hlay := hts _ (hin _ (u_in_lay hk))
  unfold u_lay at hlay
  rw [if_pos hfin] at hlay
  have hst := (u_facts hfc hkC (u_lays hts hin hk) hi).1
  have hcf : m.cls = cf := by
    obtain ⟨_, _, c', _, _, _, -, -, hf', -, -, -, hown2, -⟩ := Cond.laysFinal_spec hlay
    have e1 : c' = cf := by have := hi.symm.trans hf'; simp at this; exact this.1.symm
    rw [hdecl] at hown2
    rw [← e1]; exact Option.some.inj (hown.symm.trans hown2)
  have h6 := u_fits hfc hkC hkind (Or.inr hlay) hi (hty k hk) hn hfit
  refine W.putFinK hexec hb hown hlink hi hst hcf hin2 (by rw [q2]; exact h6) q1 q3 (by rw [hsl]; exact k2_hasslot (q4 k hk)) rfl rfl hdg fun H' e1 e2 e3 => ?_
  rw [hsl] at e1 ⊢
  exact kk H' _ (hV0.put (e := .inr (ci, fs.set k v)) ⟨_, hc, t_OB.to (V := updV (vp_V fs) k v) ⟨_, e1, q2, q3, t_set q4 hap hk v⟩ (fun j _ => vp_updV_set hl v j)⟩ e3) (hA0.put (hA0 a _ he)) (hS0.put e2 e3 (hA0 a _ he))
theorem h_iast (hexec : p.tables.exec = Jvm.exec) (hb : c.code = cc) (hK0 : hK G s) (hV0 : hV G hp H) (hA0 : hIn A hp) (hS : va_S A H0 H locs) {n : Nat} {f : Nat → Int32} (he : hp a = some (eI n f)) {i : Nat} {x : Int32} (hi : i < n) (hn : n < 2 ^ 31) (hdg : decode cc pc = .ok (.iastore, 1))
    (kk : ∀ (H1 : Heap) (locs1 : List Loc), hV G (hput hp a (eI n (upd f i x))) H1 → hIn A (hput hp a (eI n (upd f i x))) → va_S A H0 H1 locs1 → W p l e R s m args below meth c H1 locs1 cells slots Q (F0 m (pc + 1) ls rest)) : W p l e R s m args below meth c H locs cells slots Q (F0 m pc ls (.int x :: .int (nI i) :: .ref a :: rest)) := by
  have hin := vp_in_nI hi hn
  have hcl := nI_clamp (show i < 2 ^ 31 by omega)
  refine W.iast hexec hb (hV0 a _ he) ((hK0.1.2 0 _ rfl).1 n (fun j => .int (f j))) (fun q => by cases q) (by show ¬ (nI i < 0 ∨ (arrV _ _ _).slots.size ≤ _); rw [arrV_size]; exact hin) rfl rfl hdg fun H1 e z oq => ?_
  refine kk H1 _ (hV0.put (e := eI n (upd f i x)) ?_ oq) (hA0.put (hA0 a _ he)) (hS.put z oq (hA0 a _ he))
  show H1[a]? = some (vp_cell _ _)
  rw [e]
  rw [hcl]
  show some ((vp_cell (G.2 0) (n, .inl f)).setSlot i (.int x)) = some (vp_cell (G.2 0) (n, .inl (upd f i x)))
  rw [vp_cell_i, vp_cell_i, arrV_store]
  congr 2
  funext q
  by_cases hq : q = i
  · subst hq
    simp [updV, upd]
  · simp [updV, upd, hq]
end HA
/-! a reading method's contract, its call; rows over natural numbers -/
def hRd (l : Launch) (y : MethodName) (ws : List Cond) (fr lo : Nat) (G : hG) (hp : HP) (av : List Value) (ro : Option Value) : Prop := Met l y ws { frames := fr, cells := 0, slots := 0, locals := lo } (hPr G hp av) (hR ro) 0 0 (fun _ => False)
def hWr (l : Launch) (y : MethodName) (ws : List Cond) (fr lo mc ms : Nat) (G : hG) (A : Nat → Prop) (hp : HP) (av : List Value) (P : Option Value → HP → Prop) : Prop := Met l y ws { frames := fr, cells := mc, slots := ms, locals := lo } (hPw G A hp av) (hW G A P) mc ms A
def bI (b : Bool) : Int32 := if b then 1 else 0
theorem narrow_bI (b : Bool) : narrow .boolean (.int (bI b)) = .int (bI b) := by cases b <;> rfl
theorem nI_inc (a : Nat) : nI a + Int32.ofInt 1 = nI (a + 1) := nI_1 a
section HB
variable {p : Program} {l : Launch} {e : Env} {R : Room} {s : State} {m : MethodId} {args : Array Value} {below : List Frame} {meth : Method} {c : Code} {H : Heap} {locs : List Loc} {cells slots : Nat} {Q : State → Prop}
variable {cc : ByteArray} {pc : Nat} {ls : Array Slot} {rest st0 : List Value} {G : hG} {hp : HP} {A : Nat → Prop} {a : Nat} {H0 : Heap} {mc ms : Nat}
theorem h_rdV {own C : String} {index maxL nL fr lo ci : Nat} {y : MethodName} {bytes : ByteArray} {ret : Option FieldType} {Ts ws ws' : List Cond} {fs As : List Value} {ro : Option Value} {q : vw_C} (S : CallFix p m c cc nL s args Ts own) (hM : hRd l y ws fr lo G hp (.ref a :: As) ro) (n : Nat) (hT : GoodIn Ts (wsV own index C y ws)) (hw : ws = Cond.code y bytes maxL ret :: ws')
    (hd : y.cls = C ∧ y.cls ≠ "java/lang/invoke/MethodHandle" ∧ y.cls ≠ "java/lang/invoke/VarHandle" ∧ (parseMethodDescriptor y.desc).map (fun d => d.parameters.length) = some n) (hRm : fr + 1 ≤ R.frames ∧ 8 + (maxL + 11) + lo ≤ R.locals) (hK0 : hK G s) (hV0 : hV G hp H) (he : hp a = some (.inr (ci, fs))) (hc : vwCl[ci]? = some q) (hq : q.1 = C)
    (hn : As.length = n) (hsize : ls.size = nL) (hstack : st0 = As.reverse ++ .ref a :: rest) (hWs : (rest.map fun v => v.category).sum ≤ 8) (hcl : cells ≤ R.cells) (hsl : slots ≤ R.slots) (hdg : decode cc pc = .ok (.invokevirtual index, 3))
    (kk : W p l e R s m args below meth c H locs cells slots Q (F0 m (pc + 3) ls (ro.toList ++ rest))) : W p l e R s m args below meth c H locs cells slots Q (F0 m pc ls st0) := by
  subst hq
  exact h_callR (fun q h => h) (va_runV (As := As) (rest := rest) S hM (cwV n S.2.2.2.2 hT hw rfl rfl hd hRm) (h_preV hK0 hV0 he hc) rfl hn hsize hstack (lv_room hWs) hdg ⟨hcl, hsl⟩) kk
theorem h_rdS {own : String} {index maxL nL fr lo : Nat} {y : MethodName} {bytes : ByteArray} {ret : Option FieldType} {Ts ws ws' : List Cond} {As : List Value} {ro : Option Value} (S : CallFix p m c cc nL s args Ts own) (hM : hRd l y ws fr lo G hp As ro) (n : Nat) (hT : GoodIn Ts (va_wsS own index y ws)) (hw : ws = Cond.code y bytes maxL ret :: ws')
    (hd : y.cls ≠ "java/lang/invoke/MethodHandle" ∧ y.cls ≠ "java/lang/invoke/VarHandle" ∧ (parseMethodDescriptor y.desc).map (fun d => d.parameters.length) = some n) (hRm : fr + 1 ≤ R.frames ∧ 8 + (maxL + 11) + lo ≤ R.locals) (hK0 : hK G s) (hV0 : hV G hp H)
    (hn : As.length = n) (hsize : ls.size = nL) (hstack : st0 = As.reverse ++ rest) (hWs : (rest.map fun v => v.category).sum ≤ 8) (hcl : cells ≤ R.cells) (hsl : slots ≤ R.slots) (hdg : decode cc pc = .ok (.invokestatic index, 3))
    (kk : W p l e R s m args below meth c H locs cells slots Q (F0 m (pc + 3) ls (ro.toList ++ rest))) : W p l e R s m args below meth c H locs cells slots Q (F0 m pc ls st0) :=
  h_callR (fun q h => h) (va_runS (As := As) (rest := rest) S hM (va_cwS n S.2.2.2.2 hT hw rfl rfl hd hRm) (h_preS hK0 hV0) rfl hn hsize hstack (lv_room hWs) hdg ⟨hcl, hsl⟩) kk
theorem h_wrV {own C : String} {index maxL nL fr lo ci : Nat} {y : MethodName} {bytes : ByteArray} {ret : Option FieldType} {Ts ws ws' : List Cond} {fs As : List Value} {P : Option Value → HP → Prop} {q : vw_C} (S : CallFix p m c cc nL s args Ts own) (hM : hWr l y ws fr lo mc ms G A hp (.ref a :: As) P) (n : Nat) (hT : GoodIn Ts (wsV own index C y ws)) (hw : ws = Cond.code y bytes maxL ret :: ws')
    (hd : y.cls = C ∧ y.cls ≠ "java/lang/invoke/MethodHandle" ∧ y.cls ≠ "java/lang/invoke/VarHandle" ∧ (parseMethodDescriptor y.desc).map (fun d => d.parameters.length) = some n) (hRm : fr + 1 ≤ R.frames ∧ 8 + (maxL + 11) + lo ≤ R.locals) (hK0 : hK G s) (hV0 : hV G hp H) (hA : ∀ q : Nat, s.heap.size ≤ q → A q) (hS : va_S A s.heap H locs) (he : hp a = some (.inr (ci, fs))) (hc : vwCl[ci]? = some q) (hq : q.1 = C)
    (hn : As.length = n) (hsize : ls.size = nL) (hstack : st0 = As.reverse ++ .ref a :: rest) (hWs : (rest.map fun v => v.category).sum ≤ 8) (hcl : cells + mc ≤ R.cells ∧ slots + ms ≤ R.slots) (hdg : decode cc pc = .ok (.invokevirtual index, 3))
    (kk : ∀ (ro : Option Value) (hp' : HP) (H1 : Heap) (locs1 : List Loc), P ro hp' → hV G hp' H1 → hIn A hp' → va_S A s.heap H1 locs1 → W p l e R s m args below meth c H1 locs1 (cells + mc) (slots + ms) Q (F0 m (pc + 3) ls (ro.toList ++ rest))) : W p l e R s m args below meth c H locs cells slots Q (F0 m pc ls st0) := by
  subst hq
  exact h_callW (va_runV (As := As) (rest := rest) S hM (cwV n S.2.2.2.2 hT hw rfl rfl hd hRm) (h_preVw hK0 hV0 hA hS he hc) rfl hn hsize hstack (lv_room hWs) hdg hcl) hS kk
theorem h_wrS {own : String} {index maxL nL fr lo : Nat} {y : MethodName} {bytes : ByteArray} {ret : Option FieldType} {Ts ws ws' : List Cond} {As : List Value} {P : Option Value → HP → Prop} (S : CallFix p m c cc nL s args Ts own) (hM : hWr l y ws fr lo mc ms G A hp As P) (n : Nat) (hT : GoodIn Ts (va_wsS own index y ws)) (hw : ws = Cond.code y bytes maxL ret :: ws')
    (hd : y.cls ≠ "java/lang/invoke/MethodHandle" ∧ y.cls ≠ "java/lang/invoke/VarHandle" ∧ (parseMethodDescriptor y.desc).map (fun d => d.parameters.length) = some n) (hRm : fr + 1 ≤ R.frames ∧ 8 + (maxL + 11) + lo ≤ R.locals) (hK0 : hK G s) (hV0 : hV G hp H) (hA : ∀ q : Nat, s.heap.size ≤ q → A q) (hS : va_S A s.heap H locs)
    (hn : As.length = n) (hsize : ls.size = nL) (hstack : st0 = As.reverse ++ rest) (hWs : (rest.map fun v => v.category).sum ≤ 8) (hcl : cells + mc ≤ R.cells ∧ slots + ms ≤ R.slots) (hdg : decode cc pc = .ok (.invokestatic index, 3))
    (kk : ∀ (ro : Option Value) (hp' : HP) (H1 : Heap) (locs1 : List Loc), P ro hp' → hV G hp' H1 → hIn A hp' → va_S A s.heap H1 locs1 → W p l e R s m args below meth c H1 locs1 (cells + mc) (slots + ms) Q (F0 m (pc + 3) ls (ro.toList ++ rest))) : W p l e R s m args below meth c H locs cells slots Q (F0 m pc ls st0) :=
  h_callW (va_runS (As := As) (rest := rest) S hM (va_cwS n S.2.2.2.2 hT hw rfl rfl hd hRm) (h_preSw hK0 hV0 hA hS) rfl hn hsize hstack (lv_room hWs) hdg hcl) hS kk
theorem h_wrI {own : String} {index maxL nL fr lo : Nat} {y : MethodName} {bytes : ByteArray} {Ts ws ws' : List Cond} {As : List Value} {P : Option Value → HP → Prop} (S : CallFix p m c cc nL s args Ts own) (hM : hWr l y ws fr lo mc ms G A hp (.ref a :: As) P) (n : Nat) (hT : GoodIn Ts ws) (hw : ws = Cond.code y bytes maxL none :: ws') (hini : (Cond.initialized y.cls).before args s = true) (hlk : (Cond.methodLink own index y).before args s = true) (hins : (Cond.instanceMethod y).before args s = true) (hy1 : y.name = "<init>")
    (hd : y.cls ≠ "java/lang/invoke/MethodHandle" ∧ y.cls ≠ "java/lang/invoke/VarHandle" ∧ (parseMethodDescriptor y.desc).map (fun d => d.parameters.length) = some n) (hRm : fr + 1 ≤ R.frames ∧ 8 + (maxL + 11) + lo ≤ R.locals) (hK0 : hK G s) (hV0 : hV G hp H) (hA : ∀ q : Nat, s.heap.size ≤ q → A q) (hS : va_S A s.heap H locs)
    (hn : As.length = n) (hsize : ls.size = nL) (hstack : st0 = As.reverse ++ .ref a :: rest) (hWs : (rest.map fun v => v.category).sum ≤ 8) (hcl : cells + mc ≤ R.cells ∧ slots + ms ≤ R.slots) (hdg : decode cc pc = .ok (.invokespecial index, 3))
    (kk : ∀ (ro : Option Value) (hp' : HP) (H1 : Heap) (locs1 : List Loc), P ro hp' → hV G hp' H1 → hIn A hp' → va_S A s.heap H1 locs1 → W p l e R s m args below meth c H1 locs1 (cells + mc) (slots + ms) Q (F0 m (pc + 3) ls (ro.toList ++ rest))) : W p l e R s m args below meth c H locs cells slots Q (F0 m pc ls st0) :=
  h_callW (va_runI (As := As) (rest := rest) S hM (cwI n S.2.2.2.2 hT hw rfl rfl hini hlk hins hy1 hd hRm) (h_preSw hK0 hV0 hA hS) rfl hn hsize hstack (lv_room hWs) hdg hcl) hS kk
theorem h_icmp_lt (hexec : p.tables.exec = Jvm.exec) (hb : c.code = cc) {a b : Nat} {off : Int} {tgt : Nat} (hdg : decode cc pc = .ok (.if_icmp .lt off, 3)) (ht : (pc : Int) + off = (tgt : Int)) (ha : a < 2 ^ 31) (hb2 : b < 2 ^ 31)
    (kt : a < b → W p l e R s m args below meth c H locs cells slots Q (F0 m tgt ls rest)) (kf : ¬ a < b → W p l e R s m args below meth c H locs cells slots Q (F0 m (pc + 3) ls rest)) : W p l e R s m args below meth c H locs cells slots Q (F0 m pc ls (.int (nI b) :: .int (nI a) :: rest)) :=
  lv_icmp_lt hexec hb hdg ht (fun h => kt ((nI_ltI ha hb2).mp h)) (fun h => kf (fun q => h ((nI_ltI ha hb2).mpr q)))
theorem h_icmp_ge (hexec : p.tables.exec = Jvm.exec) (hb : c.code = cc) {a b : Nat} {off : Int} {tgt : Nat} (hdg : decode cc pc = .ok (.if_icmp .ge off, 3)) (ht : (pc : Int) + off = (tgt : Int)) (ha : a < 2 ^ 31) (hb2 : b < 2 ^ 31)
    (kt : b ≤ a → W p l e R s m args below meth c H locs cells slots Q (F0 m tgt ls rest)) (kf : ¬ b ≤ a → W p l e R s m args below meth c H locs cells slots Q (F0 m (pc + 3) ls rest)) : W p l e R s m args below meth c H locs cells slots Q (F0 m pc ls (.int (nI b) :: .int (nI a) :: rest)) :=
  lv_icmp_ge hexec hb hdg ht (fun h => kt ((nI_leI hb2 ha).mp h)) (fun h => kf (fun q => h ((nI_leI hb2 ha).mpr q)))
theorem h_icmp_gt (hexec : p.tables.exec = Jvm.exec) (hb : c.code = cc) {a b : Nat} {off : Int} {tgt : Nat} (hdg : decode cc pc = .ok (.if_icmp .gt off, 3)) (ht : (pc : Int) + off = (tgt : Int)) (ha : a < 2 ^ 31) (hb2 : b < 2 ^ 31)
    (kt : b < a → W p l e R s m args below meth c H locs cells slots Q (F0 m tgt ls rest)) (kf : ¬ b < a → W p l e R s m args below meth c H locs cells slots Q (F0 m (pc + 3) ls rest)) : W p l e R s m args below meth c H locs cells slots Q (F0 m pc ls (.int (nI b) :: .int (nI a) :: rest)) :=
  lv_icmp_gt hexec hb hdg ht (fun h => kt ((nI_ltI hb2 ha).mp h)) (fun h => kf (fun q => h ((nI_ltI hb2 ha).mpr q)))
theorem h_icmp_le (hexec : p.tables.exec = Jvm.exec) (hb : c.code = cc) {a b : Nat} {off : Int} {tgt : Nat} (hdg : decode cc pc = .ok (.if_icmp .le off, 3)) (ht : (pc : Int) + off = (tgt : Int)) (ha : a < 2 ^ 31) (hb2 : b < 2 ^ 31)
    (kt : a ≤ b → W p l e R s m args below meth c H locs cells slots Q (F0 m tgt ls rest)) (kf : ¬ a ≤ b → W p l e R s m args below meth c H locs cells slots Q (F0 m (pc + 3) ls rest)) : W p l e R s m args below meth c H locs cells slots Q (F0 m pc ls (.int (nI b) :: .int (nI a) :: rest)) :=
  lv_icmp_le hexec hb hdg ht (fun h => kt ((nI_leI ha hb2).mp h)) (fun h => kf (fun q => h ((nI_leI ha hb2).mpr q)))
theorem h_icmp_eq (hexec : p.tables.exec = Jvm.exec) (hb : c.code = cc) {a b : Nat} {off : Int} {tgt : Nat} (hdg : decode cc pc = .ok (.if_icmp .eq off, 3)) (ht : (pc : Int) + off = (tgt : Int)) (ha : a < 2 ^ 31) (hb2 : b < 2 ^ 31)
    (kt : a = b → W p l e R s m args below meth c H locs cells slots Q (F0 m tgt ls rest)) (kf : ¬ a = b → W p l e R s m args below meth c H locs cells slots Q (F0 m (pc + 3) ls rest)) : W p l e R s m args below meth c H locs cells slots Q (F0 m pc ls (.int (nI b) :: .int (nI a) :: rest)) :=
  lv_icmp_eq hexec hb hdg ht (fun h => kt ((nI_eq ha hb2).mp h)) (fun h => kf (fun q => h ((nI_eq ha hb2).mpr q)))
theorem h_icmp_ne (hexec : p.tables.exec = Jvm.exec) (hb : c.code = cc) {a b : Nat} {off : Int} {tgt : Nat} (hdg : decode cc pc = .ok (.if_icmp .ne off, 3)) (ht : (pc : Int) + off = (tgt : Int)) (ha : a < 2 ^ 31) (hb2 : b < 2 ^ 31)
    (kt : ¬ a = b → W p l e R s m args below meth c H locs cells slots Q (F0 m tgt ls rest)) (kf : a = b → W p l e R s m args below meth c H locs cells slots Q (F0 m (pc + 3) ls rest)) : W p l e R s m args below meth c H locs cells slots Q (F0 m pc ls (.int (nI b) :: .int (nI a) :: rest)) :=
  lv_icmp_ne hexec hb hdg ht (fun h => kt (fun q => h ((nI_eq ha hb2).mpr q))) (fun h => kf ((nI_eq ha hb2).mp h))
theorem h_if_eq (hexec : p.tables.exec = Jvm.exec) (hb : c.code = cc) {a : Nat} {off : Int} {tgt : Nat} (hdg : decode cc pc = .ok (.ifCond .eq off, 3)) (ht : (pc : Int) + off = (tgt : Int)) (ha : a < 2 ^ 31)
    (kt : a = 0 → W p l e R s m args below meth c H locs cells slots Q (F0 m tgt ls rest)) (kf : ¬ a = 0 → W p l e R s m args below meth c H locs cells slots Q (F0 m (pc + 3) ls rest)) : W p l e R s m args below meth c H locs cells slots Q (F0 m pc ls (.int (nI a) :: rest)) :=
  lv_if_eq hexec hb hdg ht (fun h => kt ((nI_eq (b := 0) ha (by decide)).mp h)) (fun h => kf (fun q => h ((nI_eq (b := 0) ha (by decide)).mpr q)))
theorem h_if_ne (hexec : p.tables.exec = Jvm.exec) (hb : c.code = cc) {a : Nat} {off : Int} {tgt : Nat} (hdg : decode cc pc = .ok (.ifCond .ne off, 3)) (ht : (pc : Int) + off = (tgt : Int)) (ha : a < 2 ^ 31)
    (kt : ¬ a = 0 → W p l e R s m args below meth c H locs cells slots Q (F0 m tgt ls rest)) (kf : a = 0 → W p l e R s m args below meth c H locs cells slots Q (F0 m (pc + 3) ls rest)) : W p l e R s m args below meth c H locs cells slots Q (F0 m pc ls (.int (nI a) :: rest)) :=
  lv_if_ne hexec hb hdg ht (fun h => kt (fun q => h ((nI_eq (b := 0) ha (by decide)).mpr q))) (fun h => kf ((nI_eq (b := 0) ha (by decide)).mp h))
theorem h_if_lt (hexec : p.tables.exec = Jvm.exec) (hb : c.code = cc) {a : Nat} {off : Int} {tgt : Nat} (hdg : decode cc pc = .ok (.ifCond .lt off, 3)) (ht : (pc : Int) + off = (tgt : Int)) (ha : a < 2 ^ 31)
    (kf : W p l e R s m args below meth c H locs cells slots Q (F0 m (pc + 3) ls rest)) : W p l e R s m args below meth c H locs cells slots Q (F0 m pc ls (.int (nI a) :: rest)) :=
  lv_if_lt hexec hb hdg ht (fun h => absurd h (nI_pos ha)) (fun _ => kf)
theorem h_if_ge (hexec : p.tables.exec = Jvm.exec) (hb : c.code = cc) {a : Nat} {off : Int} {tgt : Nat} (hdg : decode cc pc = .ok (.ifCond .ge off, 3)) (ht : (pc : Int) + off = (tgt : Int)) (ha : a < 2 ^ 31)
    (kt : W p l e R s m args below meth c H locs cells slots Q (F0 m tgt ls rest)) : W p l e R s m args below meth c H locs cells slots Q (F0 m pc ls (.int (nI a) :: rest)) :=
  lv_if_ge hexec hb hdg ht (fun _ => kt) (fun h => absurd (nI_pos' ha) h)
theorem h_if_le (hexec : p.tables.exec = Jvm.exec) (hb : c.code = cc) {a : Nat} {off : Int} {tgt : Nat} (hdg : decode cc pc = .ok (.ifCond .le off, 3)) (ht : (pc : Int) + off = (tgt : Int)) (ha : a < 2 ^ 31)
    (kt : a = 0 → W p l e R s m args below meth c H locs cells slots Q (F0 m tgt ls rest)) (kf : ¬ a = 0 → W p l e R s m args below meth c H locs cells slots Q (F0 m (pc + 3) ls rest)) : W p l e R s m args below meth c H locs cells slots Q (F0 m pc ls (.int (nI a) :: rest)) :=
  lv_if_le hexec hb hdg ht (fun h => kt (by have := (nI_leI (b := 0) ha (by decide)).mp h; omega)) (fun h => kf (fun q => h (by rw [q]; decide)))
theorem h_if_gt (hexec : p.tables.exec = Jvm.exec) (hb : c.code = cc) {a : Nat} {off : Int} {tgt : Nat} (hdg : decode cc pc = .ok (.ifCond .gt off, 3)) (ht : (pc : Int) + off = (tgt : Int)) (ha : a < 2 ^ 31)
    (kt : ¬ a = 0 → W p l e R s m args below meth c H locs cells slots Q (F0 m tgt ls rest)) (kf : a = 0 → W p l e R s m args below meth c H locs cells slots Q (F0 m (pc + 3) ls rest)) : W p l e R s m args below meth c H locs cells slots Q (F0 m pc ls (.int (nI a) :: rest)) :=
  lv_if_gt hexec hb hdg ht (fun h => kt (fun q => absurd h (by rw [q]; decide))) (fun h => kf (by
    rcases Nat.eq_zero_or_pos a with q | q
    · exact q
    · exact absurd (nI_lt q ha) h))
theorem h_if_eqB (hexec : p.tables.exec = Jvm.exec) (hb : c.code = cc) {b : Bool} {off : Int} {tgt : Nat} (hdg : decode cc pc = .ok (.ifCond .eq off, 3)) (ht : (pc : Int) + off = (tgt : Int))
    (kt : b = false → W p l e R s m args below meth c H locs cells slots Q (F0 m tgt ls rest)) (kf : b = true → W p l e R s m args below meth c H locs cells slots Q (F0 m (pc + 3) ls rest)) : W p l e R s m args below meth c H locs cells slots Q (F0 m pc ls (.int (bI b) :: rest)) :=
  lv_if_eq hexec hb hdg ht (fun h => kt (by cases b; rfl; exact absurd h (by decide))) (fun h => kf (by cases b; exact absurd rfl h; rfl))
theorem h_if_neB (hexec : p.tables.exec = Jvm.exec) (hb : c.code = cc) {b : Bool} {off : Int} {tgt : Nat} (hdg : decode cc pc = .ok (.ifCond .ne off, 3)) (ht : (pc : Int) + off = (tgt : Int))
    (kt : b = true → W p l e R s m args below meth c H locs cells slots Q (F0 m tgt ls rest)) (kf : b = false → W p l e R s m args below meth c H locs cells slots Q (F0 m (pc + 3) ls rest)) : W p l e R s m args below meth c H locs cells slots Q (F0 m pc ls (.int (bI b) :: rest)) :=
  lv_if_ne hexec hb hdg ht (fun h => kt (by cases b; exact absurd rfl h; rfl)) (fun h => kf (by cases b; rfl; exact absurd h (by decide)))
theorem h_iaddN (hexec : p.tables.exec = Jvm.exec) (hb : c.code = cc) {a b : Nat} (hdg : decode cc pc = .ok (.iadd, 1))
    (k : W p l e R s m args below meth c H locs cells slots Q (F0 m (pc + 1) ls (.int (nI (a + b)) :: rest))) : W p l e R s m args below meth c H locs cells slots Q (F0 m pc ls (.int (nI b) :: .int (nI a) :: rest)) :=
  lv_iadd hexec hb hdg (by rw [nI_add]; exact k)
theorem h_isubN (hexec : p.tables.exec = Jvm.exec) (hb : c.code = cc) {a b : Nat} (h : b ≤ a) (hdg : decode cc pc = .ok (.isub, 1))
    (k : W p l e R s m args below meth c H locs cells slots Q (F0 m (pc + 1) ls (.int (nI (a - b)) :: rest))) : W p l e R s m args below meth c H locs cells slots Q (F0 m pc ls (.int (nI b) :: .int (nI a) :: rest)) :=
  lv_isub hexec hb hdg (by rw [pk_sub h]; exact k)
theorem h_imulN (hexec : p.tables.exec = Jvm.exec) (hb : c.code = cc) {a b : Nat} (hdg : decode cc pc = .ok (.imul, 1))
    (k : W p l e R s m args below meth c H locs cells slots Q (F0 m (pc + 1) ls (.int (nI (a * b)) :: rest))) : W p l e R s m args below meth c H locs cells slots Q (F0 m pc ls (.int (nI b) :: .int (nI a) :: rest)) :=
  lv_imul hexec hb hdg (by rw [pk_mul]; exact k)
theorem h_iremN (hexec : p.tables.exec = Jvm.exec) (hb : c.code = cc) {a d : Nat} (ha : a < 2 ^ 31) (h0 : 0 < d) (hd : d < 2 ^ 31) (hdg : decode cc pc = .ok (.irem, 1))
    (k : W p l e R s m args below meth c H locs cells slots Q (F0 m (pc + 1) ls (.int (nI (a % d)) :: rest))) : W p l e R s m args below meth c H locs cells slots Q (F0 m pc ls (.int (nI d) :: .int (nI a) :: rest)) :=
  lv_irem hexec hb hdg (nI_ne0 h0 hd) (by rw [pk_rem ha h0 hd]; exact k)
/-- a counting loop at one place of the code; the heap stays -/
theorem h_loop {Wf : Array Slot → Prop} {nL : Nat} (N : Nat) (L : Nat → List (Nat × Value)) (I : Nat → Prop) (hs : ∀ i : Nat, i ≤ N → I i → (i < N → I (i + 1) → ∀ ls : Array Slot, lv_has ls nL (L (i + 1)) → Wf ls) → ∀ ls : Array Slot, lv_has ls nL (L i) → Wf ls) :
    ∀ i : Nat, i ≤ N → I i → ∀ ls : Array Slot, lv_has ls nL (L i) → Wf ls := by
  have key : ∀ k i : Nat, i + k = N → I i → ∀ ls : Array Slot, lv_has ls nL (L i) → Wf ls := by
    intro k
    induction k with
    | zero => intro i hk hI; exact hs i (by omega) hI (fun h => absurd h (by omega))
    | succ k ih => intro i hk hI; exact hs i (by omega) hI (fun _ h => ih (i + 1) (by omega) h)
  intro i hi hI
  exact key (N - i) i (by omega) hI
/-- the same, with a heap that changes -/
theorem h_loopW {Wf : Nat → Heap → List Loc → Array Slot → Prop} {nL : Nat} (N : Nat) (L : Nat → List (Nat × Value)) (I : Nat → HP → Prop)
    (hs : ∀ i : Nat, i ≤ N → ∀ (hp : HP) (H : Heap) (locs : List Loc), I i hp → hV G hp H → hIn A hp → va_S A H0 H locs → (∀ (hp : HP) (H : Heap) (locs : List Loc), i < N → I (i + 1) hp → hV G hp H → hIn A hp → va_S A H0 H locs → ∀ ls : Array Slot, lv_has ls nL (L (i + 1)) → Wf (i + 1) H locs ls) → ∀ ls : Array Slot, lv_has ls nL (L i) → Wf i H locs ls) :
    ∀ i : Nat, i ≤ N → ∀ (hp : HP) (H : Heap) (locs : List Loc), I i hp → hV G hp H → hIn A hp → va_S A H0 H locs → ∀ ls : Array Slot, lv_has ls nL (L i) → Wf i H locs ls := by
  have key : ∀ k i : Nat, i + k = N → ∀ (hp : HP) (H : Heap) (locs : List Loc), I i hp → hV G hp H → hIn A hp → va_S A H0 H locs → ∀ ls : Array Slot, lv_has ls nL (L i) → Wf i H locs ls := by
    intro k
    induction k with
    | zero => intro i hk hp H locs h1 h2 h3 h4; exact hs i (by omega) hp H locs h1 h2 h3 h4 (fun _ _ _ h => absurd h (by omega))
    | succ k ih => intro i hk hp H locs h1 h2 h3 h4; exact hs i (by omega) hp H locs h1 h2 h3 h4 (fun hp H locs _ a b c d => ih (i + 1) (by omega) hp H locs a b c d)
  intro i hi
  exact key (N - i) i (by omega)
theorem h_iretR {v w : Int32} (hexec : p.tables.exec = Jvm.exec) (hb : c.code = cc) (hr : meth.sig.returnType = some .int) (hlocks : meth.locks = false) (hvw : v = w) {free : Addr → Prop} (hdg : decode cc pc = .ok (.ireturn, 1)) : W p l e R s m args below meth c s.heap [] cells slots (MQ below (hR (some (.int w))) args s cells slots free) (F0 m pc ls [.int v]) := by
  subst hvw
  exact W.iret hexec hb hr (fun t ht _ => ⟨rfl, ht⟩) (fun q h => absurd h List.not_mem_nil) hdg hlocks
theorem h_zretR {v : Int32} {b : Bool} (hexec : p.tables.exec = Jvm.exec) (hb : c.code = cc) (hr : meth.sig.returnType = some .boolean) (hlocks : meth.locks = false) (hvw : v = bI b) {free : Addr → Prop} (hdg : decode cc pc = .ok (.ireturn, 1)) : W p l e R s m args below meth c s.heap [] cells slots (MQ below (hR (some (.int (bI b)))) args s cells slots free) (F0 m pc ls [.int v]) := by
  subst hvw
  exact W.zret hexec hb hr (narrow_bI b) (fun t ht _ => ⟨rfl, ht⟩) (fun q h => absurd h List.not_mem_nil) hdg hlocks
theorem h_vretR (hexec : p.tables.exec = Jvm.exec) (hb : c.code = cc) (hr : meth.sig.returnType = none) (hlocks : meth.locks = false) {free : Addr → Prop} (hdg : decode cc pc = .ok (.return_, 1)) : W p l e R s m args below meth c s.heap [] cells slots (MQ below (hR none) args s cells slots free) (F0 m pc ls []) :=
  W.vret hexec hb hr (fun t ht _ => ⟨rfl, ht⟩) (fun q h => absurd h List.not_mem_nil) hdg hlocks
theorem h_aretR {v : Value} {rt : FieldType} {o : Option Nat} (hexec : p.tables.exec = Jvm.exec) (hb : c.code = cc) (hr : meth.sig.returnType = some rt) (hrt : (∃ n, rt = .object n) ∨ ∃ t, rt = .array t) (hlocks : meth.locks = false) (hvw : v = va_rf o) {free : Addr → Prop} (hdg : decode cc pc = .ok (.areturn, 1)) : W p l e R s m args below meth c s.heap [] cells slots (MQ below (hR (some (va_rf o))) args s cells slots free) (F0 m pc ls [v]) := by
  subst hvw
  exact W.aret hexec hb hr hrt (va_rf_or o) (fun t ht _ => ⟨rfl, ht⟩) (fun q h => absurd h List.not_mem_nil) hdg hlocks
theorem h_lretR {v w : Int64} (hexec : p.tables.exec = Jvm.exec) (hb : c.code = cc) (hr : meth.sig.returnType = some .long) (hlocks : meth.locks = false) (hvw : v = w) {free : Addr → Prop} (hdg : decode cc pc = .ok (.lreturn, 1)) : W p l e R s m args below meth c s.heap [] cells slots (MQ below (hR (some (.long w))) args s cells slots free) (F0 m pc ls [.long v]) := by
  subst hvw
  exact W.lret hexec hb hr (fun t ht _ => ⟨rfl, ht⟩) (fun q h => absurd h List.not_mem_nil) hdg hlocks
/-- a writing method's ends -/
theorem h_qW {P : Option Value → HP → Prop} {ro : Option Value} {hp' : HP} (hP : P ro hp') (hV1 : hV G hp' H) (hA1 : hIn A hp') (hS : va_S A s.heap H locs) : ∀ t : State, t.heap = H → s.WarmedH t.vm → hW G A P args s (.returned ro) t :=
  fun t ht _ => ⟨⟨ro, hp', rfl, hP, by rw [ht]; exact hV1, hA1⟩, hS.F ht⟩
end HB
