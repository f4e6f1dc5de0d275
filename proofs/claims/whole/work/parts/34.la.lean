/-! for the law: contracts weakened, two worlds side by side -/
theorem rd_wr {l : Launch} {y : MethodName} {ws : List Cond} {fr lo : Nat} {G : hG} {A : Nat → Prop} {hp : HP} {av : List Value} {ro : Option Value} (h : hRd l y ws fr lo G hp av ro) (hA0 : hIn A hp) : hWr l y ws fr lo 0 0 G A hp av (fun r hp' => r = ro ∧ hp' = hp) := by
  intro p e a b c s m args below hf happ hPc _
  obtain ⟨n, o, h1, h2, h3, ⟨hq1, hq2⟩, L, hfe, hL⟩ := h p e a b c s m args below hf happ ⟨hPc.1, hPc.2.1, hPc.2.2.1⟩ trivial
  refine ⟨n, o, h1, h2, h3, ⟨⟨ro, hp, hq1, ⟨rfl, rfl⟩, by rw [hq2]; exact hPc.2.1, hA0⟩, ?_⟩, L, hfe, fun q hq => (hL q hq).elim⟩
  exact ⟨by rw [hq2]; exact Nat.le_refl _, fun q _ _ => by rw [hq2]⟩
theorem hWr_imp {l : Launch} {y : MethodName} {ws : List Cond} {fr lo mc ms : Nat} {G : hG} {A : Nat → Prop} {hp : HP} {av : List Value} {P P2 : Option Value → HP → Prop} (h : hWr l y ws fr lo mc ms G A hp av P) (hi : ∀ ro hp', P ro hp' → P2 ro hp') : hWr l y ws fr lo mc ms G A hp av P2 := by
  intro p e a b c s m args below hf happ hPc hk
  obtain ⟨n, o, h1, h2, h3, ⟨⟨ro, hp', hq, hP, hV, hI⟩, hF⟩, L, hfe, hL⟩ := h p e a b c s m args below hf happ hPc hk
  exact ⟨n, o, h1, h2, h3, ⟨⟨ro, hp', hq, hi _ _ hP, hV, hI⟩, hF⟩, L, hfe, hL⟩
/-- a method that returns, beside others that it calls and that may throw -/
def hWt (l : Launch) (y : MethodName) (ws : List Cond) (fr lo mc ms : Nat) (G : hG) (A : Nat → Prop) (hp : HP) (av : List Value) (P : Option Value → HP → Prop) : Prop := Met l y ws { frames := fr, cells := mc, slots := ms, locals := lo } (hPt G A hp av) (hW G A P) mc ms A
theorem hWt_imp {l : Launch} {y : MethodName} {ws : List Cond} {fr lo mc ms : Nat} {G : hG} {A : Nat → Prop} {hp : HP} {av : List Value} {P P2 : Option Value → HP → Prop} (h : hWt l y ws fr lo mc ms G A hp av P) (hi : ∀ ro hp', P ro hp' → P2 ro hp') : hWt l y ws fr lo mc ms G A hp av P2 := by
  intro p e a b c s m args below hf happ hPc hk
  obtain ⟨n, o, h1, h2, h3, ⟨⟨ro, hp', hq, hP, hV, hI⟩, hF⟩, L, hfe, hL⟩ := h p e a b c s m args below hf happ hPc hk
  exact ⟨n, o, h1, h2, h3, ⟨⟨ro, hp', hq, hi _ _ hP, hV, hI⟩, hF⟩, L, hfe, hL⟩
theorem hZ.narrow {A B : Nat → Prop} {U : State} (h : hZ A U) (hAB : ∀ q, B q → A q) : hZ B U := ⟨h.1.narrow hAB, h.2.1.narrow hAB, h.2.2⟩
/-- which cells a call may change: its world's, and those that it makes -/
def dA (hp : HP) (n : Nat) : Nat → Prop := fun q => (∃ e, hp q = some e) ∨ n ≤ q
theorem dA_in (hp : HP) (n : Nat) : hIn (dA hp n) hp := fun a e h => Or.inl ⟨e, h⟩
/-- two worlds apart, made since the start -/
def lwS (G : hG) (n : Nat) (H : Heap) (hpX hpM : HP) : Prop := hV G hpX H ∧ hV G hpM H ∧ (∀ q e, hpX q = some e → hpM q = none) ∧ (∀ q e, hpX q = some e → n ≤ q) ∧ (∀ q e, hpM q = some e → n ≤ q) ∧ n ≤ H.size
theorem hat.lt' {G : hG} {hp : HP} {H : Heap} (h : hV G hp H) {q : Nat} {e : hE} (he : hp q = some e) : q < H.size := (h q e he).lt
theorem lwS.swap {G : hG} {n : Nat} {H : Heap} {hpX hpM : HP} (h : lwS G n H hpX hpM) : lwS G n H hpM hpX := by
  refine ⟨h.2.1, h.1, fun q e he => ?_, h.2.2.2.2.1, h.2.2.2.1, h.2.2.2.2.2⟩
  cases hx : hpX q with
  | none => rfl
  | some e2 =>
    have h3 := h.2.2.1 q e2 hx
    rw [he] at h3
    cases h3
theorem lwS.call {G : hG} {n : Nat} {H H1 : Heap} {hpX hpM hpY : HP} (h : lwS G n H hpX hpM) (hV1 : hV G hpY H1) (hI : hIn (dA hpX H.size) hpY) (hz : H.size ≤ H1.size) (hk : ∀ q : Nat, q < H.size → ¬ dA hpX H.size q → H1[q]? = H[q]?) : lwS G n H1 hpY hpM := by
  obtain ⟨a1, a2, a3, a4, a5, a6⟩ := h
  have out : ∀ q e, hpM q = some e → ¬ dA hpX H.size q := fun q e he hd => by
    rcases hd with ⟨e2, h2⟩ | h2
    · rw [a3 q e2 h2] at he; cases he
    · exact absurd (hat.lt' a2 he) (Nat.not_lt.mpr h2)
  refine ⟨hV1, fun q e he => (a2 q e he).kept (hk q (hat.lt' a2 he) (out q e he)), fun q e he => ?_, fun q e he => ?_, a5, Nat.le_trans a6 hz⟩
  · cases hm : hpM q with
    | none => rfl
    | some e2 => exact absurd (hI q e he) (out q e2 hm)
  · rcases hI q e he with ⟨e2, h2⟩ | h2
    · exact a4 q e2 h2
    · exact Nat.le_trans a6 h2
section LA
variable {p : Program} {l : Launch} {e : Env} {R : Room} {s : State} {m : MethodId} {args : Array Value} {below : List Frame} {meth : Method} {c : Code} {H : Heap} {locs : List Loc} {cells slots : Nat} {Q : State → Prop}
variable {cc : ByteArray} {pc : Nat} {ls : Array Slot} {rest st0 : List Value} {G : hG} {hp hpX hpM : HP} {A A1 : Nat → Prop} {a : Nat} {H0 : Heap} {mc ms : Nat}
theorem lv_lcmpE (hexec : p.tables.exec = Jvm.exec) (hb : c.code = cc) {x y : Int64} (h : x = y) (hdg : decode cc pc = .ok (.lcmp, 1))
    (k : W p l e R s m args below meth c H locs cells slots Q (F0 m (pc + 1) ls (.int 0 :: rest))) : W p l e R s m args below meth c H locs cells slots Q (F0 m pc ls (.long y :: .long x :: rest)) := by
  subst h
  intro T hT X
  obtain ⟨t, a, b⟩ := k T hT X
  refine ⟨t, ?_, b⟩
  jvm_step X.here [X.here.top, hexec, hb, hdg]
  exact a
theorem lw_callW {P : Option Value → HP → Prop} {av : Array Value} (hr : va_Run p l e R s m args below meth c H locs cells slots mc ms (F0 m pc ls st0) rest (hW G A1 P av) A1) (hS : va_S A H0 H locs) (hsub : ∀ q, A1 q → A q)
    (kk : ∀ (ro : Option Value) (hp' : HP) (H1 : Heap) (locs1 : List Loc), P ro hp' → hV G hp' H1 → hIn A1 hp' → H.size ≤ H1.size → (∀ q : Nat, q < H.size → ¬ A1 q → H1[q]? = H[q]?) → va_S A H0 H1 locs1 → W p l e R s m args below meth c H1 locs1 (cells + mc) (slots + ms) Q (F0 m (pc + 3) ls (ro.toList ++ rest))) : W p l e R s m args below meth c H locs cells slots Q (F0 m pc ls st0) := by
  intro T hT X
  obtain ⟨v, st₀, t, T', L, h0, X', hL, e1, e2, ⟨⟨ro, hp', hv, hp1, hv1, hin1⟩, hF⟩, st⟩ := hr T hT X
  cases hv
  obtain ⟨k1, k2, k3⟩ := vx_keep h0 e1 hS (fun q _ h => hsub q h) (fun q h => hsub q h) hL hF
  obtain ⟨t2, a1, b1⟩ := kk v hp' T'.heap (locs ++ L) hp1 (by rw [e1]; exact hv1) hin1 k1 k2 k3 T' rfl X'
  exact ⟨t2, st t2 a1, b1⟩
theorem lw_sub {n : Nat} (h : lwS G n H hpX hpM) : ∀ q, dA hpX H.size q → n ≤ q := fun q hq => hq.elim (fun ⟨e, he⟩ => h.2.2.2.1 q e he) (fun z => Nat.le_trans h.2.2.2.2.2 z)
/-- a virtual call in the first of two worlds -/
theorem lw_wrV {own C : String} {index maxL nL fr lo ci : Nat} {y : MethodName} {bytes : ByteArray} {ret : Option FieldType} {Ts ws ws' : List Cond} {fs As : List Value} {P : Option Value → HP → Prop} {q : vw_C} (S : CallFix p m c cc nL s args Ts own) (hM : hWr l y ws fr lo mc ms G (dA hpX H.size) hpX (.ref a :: As) P) (n : Nat) (hT : GoodIn Ts (wsV own index C y ws)) (hw : ws = Cond.code y bytes maxL ret :: ws')
    (hd : y.cls = C ∧ y.cls ≠ "java/lang/invoke/MethodHandle" ∧ y.cls ≠ "java/lang/invoke/VarHandle" ∧ (parseMethodDescriptor y.desc).map (fun d => d.parameters.length) = some n) (hRm : fr + 1 ≤ R.frames ∧ 8 + (maxL + 11) + lo ≤ R.locals) (hK0 : hK G s) (hL : lwS G s.heap.size H hpX hpM) (hS : va_S (fun q => s.heap.size ≤ q) s.heap H locs) (he : hpX a = some (.inr (ci, fs))) (hc : vwCl[ci]? = some q) (hq : q.1 = C)
    (hn : As.length = n) (hsize : ls.size = nL) (hstack : st0 = As.reverse ++ .ref a :: rest) (hWs : (rest.map fun v => v.category).sum ≤ 8) (hcl : cells + mc ≤ R.cells ∧ slots + ms ≤ R.slots) (hdg : decode cc pc = .ok (.invokevirtual index, 3)) {k1 k2 : Nat} (hk1 : cells + mc ≤ k1) (hk2 : slots + ms ≤ k2)
    (kk : ∀ (ro : Option Value) (hp' : HP) (H1 : Heap) (locs1 : List Loc), P ro hp' → lwS G s.heap.size H1 hp' hpM → va_S (fun q => s.heap.size ≤ q) s.heap H1 locs1 → W p l e R s m args below meth c H1 locs1 k1 k2 Q (F0 m (pc + 3) ls (ro.toList ++ rest))) : W p l e R s m args below meth c H locs cells slots Q (F0 m pc ls st0) := by
  subst hq
  refine lw_callW (va_runV (As := As) (rest := rest) S hM (cwV n S.2.2.2.2 hT hw rfl rfl hd hRm) ⟨hPw_blind, h_recv hK0 hL.1 he hc, fun U hU hW => ⟨rfl, by rw [hU]; exact hL.1, hK.moved hW.alike hK0, fun q hq => Or.inr (by rw [← hU]; exact hq)⟩⟩ rfl hn hsize hstack (lv_room hWs) hdg hcl) hS (lw_sub hL) (fun ro hp' H1 locs1 hP hV1 hI hz hk hS1 => ?_)
  exact W.widen hk1 hk2 (kk ro hp' H1 locs1 hP (hL.call hV1 hI hz hk) hS1)
/-- a static call of a helper with handlers -/
theorem lw_wrS {own : String} {index maxL nL fr lo : Nat} {y : MethodName} {bytes : ByteArray} {ret : Option FieldType} {hh : List (Nat × Nat × Nat × Nat)} {Ts ws ws' : List Cond} {As : List Value} {P : Option Value → HP → Prop} (S : CallFix p m c cc nL s args Ts own) (hM : hWt l y ws fr lo mc ms G (dA hpX H.size) hpX As P) (n : Nat) (hT : GoodIn Ts (va_wsS own index y ws)) (hw : ws = Cond.codeWith y bytes maxL ret hh :: ws')
    (hd : y.cls ≠ "java/lang/invoke/MethodHandle" ∧ y.cls ≠ "java/lang/invoke/VarHandle" ∧ (parseMethodDescriptor y.desc).map (fun d => d.parameters.length) = some n) (hRm : fr + 1 ≤ R.frames ∧ 8 + (maxL + 11) + lo ≤ R.locals) (hK0 : hK G s) (hZ0 : hZ (fun q => s.heap.size ≤ q) s) (hL : lwS G s.heap.size H hpX hpM) (hS : va_S (fun q => s.heap.size ≤ q) s.heap H locs)
    (hn : As.length = n) (hsize : ls.size = nL) (hstack : st0 = As.reverse ++ rest) (hWs : (rest.map fun v => v.category).sum ≤ 8) (hcl : cells + mc ≤ R.cells ∧ slots + ms ≤ R.slots) (hdg : decode cc pc = .ok (.invokestatic index, 3)) {k1 k2 : Nat} (hk1 : cells + mc ≤ k1) (hk2 : slots + ms ≤ k2)
    (kk : ∀ (ro : Option Value) (hp' : HP) (H1 : Heap) (locs1 : List Loc), P ro hp' → lwS G s.heap.size H1 hp' hpM → va_S (fun q => s.heap.size ≤ q) s.heap H1 locs1 → W p l e R s m args below meth c H1 locs1 k1 k2 Q (F0 m (pc + 3) ls (ro.toList ++ rest))) : W p l e R s m args below meth c H locs cells slots Q (F0 m pc ls st0) := by
  refine lw_callW (vx_runSW (As := As) (rest := rest) S hM (vx_cwSW n S.2.2.2.2 hT hw rfl rfl hd hRm) ⟨hPt_blind, fun U hU hW => ⟨rfl, by rw [hU]; exact hL.1, hK.moved hW.alike hK0, fun q hq => Or.inr (by rw [← hU]; exact hq), (hZ0.at hU hW hS).narrow (lw_sub hL)⟩⟩ rfl hn hsize hstack (lv_room hWs) hdg hcl) hS (lw_sub hL) (fun ro hp' H1 locs1 hP hV1 hI hz hk hS1 => ?_)
  exact W.widen hk1 hk2 (kk ro hp' H1 locs1 hP (hL.call hV1 hI hz hk) hS1)
/-- a helper's own call of the class that throws, caught by one of the helper's rows -/
theorem h_thVc {E : String} {own C : String} {index maxL nL fr lo ci : Nat} {y : MethodName} {bytes : ByteArray} {ret : Option FieldType} {Ts ws ws' : List Cond} {fs As : List Value} {q : vw_C} (S : CallFix p m c cc nL s args Ts own) (hM : hTh l y ws fr lo mc ms G A hp (.ref a :: As) E) (n : Nat) (hT : GoodIn Ts (wsV own index C y ws)) (hw : ws = Cond.code y bytes maxL ret :: ws')
    (hd : y.cls = C ∧ y.cls ≠ "java/lang/invoke/MethodHandle" ∧ y.cls ≠ "java/lang/invoke/VarHandle" ∧ (parseMethodDescriptor y.desc).map (fun d => d.parameters.length) = some n) (hRm : fr + 1 ≤ R.frames ∧ 8 + (maxL + 11) + lo ≤ R.locals) (hK0 : hK G s) (hV0 : hV G hp H) (hA : ∀ q : Nat, s.heap.size ≤ q → A q) (hZ0 : hZ A s) (hS : va_S A s.heap H locs) (he : hp a = some (.inr (ci, fs))) (hc : vwCl[ci]? = some q) (hq : q.1 = C)
    (hn : As.length = n) (hsize : ls.size = nL) (hstack : st0 = As.reverse ++ .ref a :: rest) (hWs : (rest.map fun v => v.category).sum ≤ 8) (hcl : cells + mc ≤ R.cells ∧ slots + ms ≤ R.slots) (hdg : decode cc pc = .ok (.invokevirtual index, 3))
    {name : String} (pre : List ExceptionTableEntry) (x : ExceptionTableEntry) (suf : List ExceptionTableEntry) (hsplit : c.exceptionTable.toList = pre ++ x :: suf)
    (hpass : ∀ z ∈ pre, covers z pc = false ∨ (z.catchType ≠ 0 ∧ ∃ nm : String, (Cond.classLink own z.catchType nm).before args s = true ∧ va_Nc E nm s)) (hx : covers x pc = true) (h0 : x.catchType ≠ 0)
    (hlink : (Cond.classLink own x.catchType name).before args s = true) (hcast : (Cond.castable E name).before args s = true)
    (kk : ∀ (q9 : Addr) (H1 : Heap) (locs1 : List Loc), hV G hp H1 → va_S A s.heap H1 locs1 → W p l e R s m args below meth c H1 locs1 (cells + mc) (slots + ms) Q (F0 m x.handlerPc ls [.ref q9])) : W p l e R s m args below meth c H locs cells slots Q (F0 m pc ls st0) :=
  h_thV S hM n hT hw hd hRm hK0 hV0 hA hZ0 hS he hc hq hn hsize hstack hWs hcl hdg (fun q9 ce H1 locs1 hV1 hS1 hce hcv hcl9 => vx_catch S.2.2.2.1 pre x suf hsplit hpass hx h0 hlink hcast hce hcv hcl9 (kk q9 H1 locs1 hV1 hS1))
end LA
/-! arguments that are any ints -/
theorem rngI (N : Nat) (hN : N < 2 ^ 31) (x : Int32) : (x < 0 ∨ nI N ≤ x) ∨ ∃ n : Nat, n < N ∧ x = nI n := by
  rcases Int32.lt_or_le x 0 with h | h
  · exact Or.inl (Or.inl h)
  · rcases Int32.lt_or_le x (nI N) with h2 | h2
    · refine Or.inr ⟨x.toInt.toNat, ?_, ?_⟩
      · have h3 := Int32.lt_iff_toInt_lt.mp h2
        have h4 := Int32.le_iff_toInt_le.mp h
        rw [nI_toInt hN] at h3
        have h5 : (0 : Int32).toInt = 0 := rfl
        omega
      · have h4 := Int32.le_iff_toInt_le.mp h
        have h5 : (0 : Int32).toInt = 0 := rfl
        apply Int32.toInt_inj.mp
        have h3 := Int32.lt_iff_toInt_lt.mp h2
        rw [nI_toInt hN] at h3
        rw [nI_toInt (by omega)]
        omega
    · exact Or.inl (Or.inr h2)
