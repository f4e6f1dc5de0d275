/-! METHODS THAT CERTAINLY THROW: the class' name, the world as it was -/
abbrev IOE : String := "java/lang/IndexOutOfBoundsException"
abbrev IAE : String := "java/lang/IllegalArgumentException"
abbrev ISE : String := "java/lang/IllegalStateException"
abbrev nm2 : List String := ["java/lang/RuntimeException", "java/lang/Exception"]
def strs : List (Nat × String) := [(39, "the word is not 0 to 99"), (60, "the level has no runs"), (73, "the room is not 1 to 8"), (82, "from is greater than to"), (96, "there is no such run"), (99, "what is not 0 to 5"), (109, "what is not 0 to 2"), (117, "what is not 0 to 6"), (146, "the number is not 0 to 63"), (148, "the level is not 0 to 3"), (153, "there is no such place")]
abbrev zB : List Cond := [.castable IOE IOE, .castable IAE IAE, .castable ISE ISE, .declares (Bundle.initS "java/lang/RuntimeException"), .declares (Bundle.initS "java/lang/Exception"), .declares (Bundle.initS Bundle.tN)]
def zA (U : State) : Prop := va_Nw (.castable IOE IOE) U ∧ va_Nw (.castable IAE IAE) U ∧ va_Nw (.castable ISE ISE) U ∧ va_Nw (.declares (Bundle.initS "java/lang/RuntimeException")) U ∧ va_Nw (.declares (Bundle.initS "java/lang/Exception")) U ∧ va_Nw (.declares (Bundle.initS Bundle.tN)) U ∧ va_Nc IAE IOE U ∧ va_Nc ISE IOE U
theorem zA.warm {s U : State} (hW : s.WarmedH U.vm) (h : zA s) : zA U := ⟨h.1.warmC hW, h.2.1.warmC hW, h.2.2.1.warmC hW, h.2.2.2.1.warmD hW, h.2.2.2.2.1.warmD hW, h.2.2.2.2.2.1.warmD hW, h.2.2.2.2.2.2.1.moved hW.alike, h.2.2.2.2.2.2.2.moved hW.alike⟩
theorem zA.same {u U : State} (hv : U.vm = u.vm) (h : zA u) : zA U := by
  have hal : u.vm.Alike U.vm := by rw [hv]; exact Vm.Alike.refl _
  exact ⟨h.1.same rfl hv.symm, h.2.1.same rfl hv.symm, h.2.2.1.same rfl hv.symm, h.2.2.2.1.same rfl hv.symm, h.2.2.2.2.1.same rfl hv.symm, h.2.2.2.2.2.1.same rfl hv.symm, h.2.2.2.2.2.2.1.moved hal, h.2.2.2.2.2.2.2.moved hal⟩
theorem zA.b {args : Array Value} {s : State} (h : zA s) : ∀ w ∈ zB, w.before args s = true := vx_c (va_Nw.use rfl h.1) (vx_c (va_Nw.use rfl h.2.1) (vx_c (va_Nw.use rfl h.2.2.1) (vx_c (va_Nw.use rfl h.2.2.2.1) (vx_c (va_Nw.use rfl h.2.2.2.2.1) (vx_c (va_Nw.use rfl h.2.2.2.2.2.1) vx_n)))))
theorem at98 {args : Array Value} {s : State} (hz : zA s) (h1 : ∀ w ∈ (vx_atS RX2 98 IOE nm2).filter goodWord, w.before args s = true) : ∀ w ∈ vx_atS RX2 98 IOE nm2, w.before args s = true := vx_hat h1 (B := zB) (by decide +kernel) hz.b
theorem at41 {args : Array Value} {s : State} (hz : zA s) (h1 : ∀ w ∈ (vx_atS RX2 41 IAE nm2).filter goodWord, w.before args s = true) : ∀ w ∈ vx_atS RX2 41 IAE nm2, w.before args s = true := vx_hat h1 (B := zB) (by decide +kernel) hz.b
theorem at62 {args : Array Value} {s : State} (hz : zA s) (h1 : ∀ w ∈ (vx_atS RX2 62 ISE nm2).filter goodWord, w.before args s = true) : ∀ w ∈ vx_atS RX2 62 ISE nm2, w.before args s = true := vx_hat h1 (B := zB) (by decide +kernel) hz.b
theorem ot98 : ∀ w ∈ Cond.classLink RX2 94 IOE :: Cond.initialized IOE :: vx_atS RX2 98 IOE nm2, vx_ot w = true := by decide +kernel
theorem ot41 : ∀ w ∈ Cond.classLink RX2 37 IAE :: Cond.initialized IAE :: vx_atS RX2 41 IAE nm2, vx_ot w = true := by decide +kernel
theorem ot62 : ∀ w ∈ Cond.classLink RX2 58 ISE :: Cond.initialized ISE :: vx_atS RX2 62 ISE nm2, vx_ot w = true := by decide +kernel
theorem fitE : Bundle.fit IOE = true ∧ Bundle.fit IAE = true ∧ Bundle.fit ISE = true ∧ ∀ n ∈ nm2, Bundle.fit n = true := by decide +kernel
/-- what a throw needs of the JDK's statics and of the constants -/
def hZ (A : Nat → Prop) (U : State) : Prop := vx_Zq Bundle.tN "UNASSIGNED_STACK" Bundle.steD A U U.heap ∧ vx_Zq Bundle.tN "SUPPRESSED_SENTINEL" Bundle.listD A U U.heap ∧ (∀ q ∈ strs, ∃ sa : Nat, vk_R RX2 q.1 q.2 sa U) ∧ zA U
theorem hZ.calling {A : Nat → Prop} {U V : State} (h : hZ A U) (hv : V.vm = U.vm) (hh : V.heap = U.heap) : hZ A V := by
  have hal : U.vm.Alike V.vm := by rw [hv]; exact Vm.Alike.refl _
  refine ⟨?_, ?_, fun q hq => ?_, h.2.2.2.same hv⟩
  · rw [hh]; exact h.1.moved hal
  · rw [hh]; exact h.2.1.moved hal
  · obtain ⟨sa, h1⟩ := h.2.2.1 q hq
    exact ⟨sa, vk_R.same hv h1⟩
theorem hZ.at {A : Nat → Prop} {s U : State} {H : Heap} {locs : List Loc} (h : hZ A s) (hU : U.heap = H) (hW : s.WarmedH U.vm) (hS : va_S A s.heap H locs) : hZ A U := by
  refine ⟨?_, ?_, fun q hq => ?_, h.2.2.2.warm hW⟩
  · rw [hU]; exact (h.1.moved hW.alike).kept (fun a h1 h2 => hS.2.1 a h1 h2)
  · rw [hU]; exact (h.2.1.moved hW.alike).kept (fun a h1 h2 => hS.2.1 a h1 h2)
  · obtain ⟨sa, h1⟩ := h.2.2.1 q hq
    exact ⟨sa, vk_R.warm hW h1⟩
def hPt (G : hG) (A : Nat → Prop) (hp : HP) (av : List Value) : Array Value → State → Prop := va_Pc av (fun U => hV G hp U.heap ∧ hK G U ∧ (∀ q : Nat, U.heap.size ≤ q → A q) ∧ hZ A U)
def XCt (G : hG) (A : Nat → Prop) (hp : HP) (E : String) : String → State → State → Prop := fun E2 st t => E2 = E ∧ hV G hp t.heap ∧ va_F A st t
def hTh (l : Launch) (y : MethodName) (ws : List Cond) (fr lo mc ms : Nat) (G : hG) (A : Nat → Prop) (hp : HP) (av : List Value) (E : String) : Prop := vx_Met l y ws { frames := fr, cells := mc, slots := ms, locals := lo } (hPt G A hp av) (fun _ _ _ _ => False) (XCt G A hp E) mc ms A
theorem hPt_blind {G : hG} {A : Nat → Prop} {hp : HP} {av : List Value} : FrameBlind (hPt G A hp av) := fun a U g mk q => ⟨q.1, q.2.1, hK.moved (u := U) (U := U.calling g mk a) (Vm.Alike.refl U.vm) q.2.2.1, q.2.2.2.1, q.2.2.2.2.calling rfl rfl⟩
theorem h_preVt {G : hG} {A : Nat → Prop} {hp : HP} {s : State} {H : Heap} {locs : List Loc} {b ci : Nat} {fs : List Value} {q : vw_C} {As : List Value} (hK0 : hK G s) (hV0 : hV G hp H) (hA : ∀ q : Nat, s.heap.size ≤ q → A q) (hZ0 : hZ A s) (hS : va_S A s.heap H locs) (he : hp b = some (.inr (ci, fs))) (hc : vwCl[ci]? = some q) : PreV s H q.1 b (hPt G A hp (.ref b :: As)) As :=
  ⟨hPt_blind, h_recv hK0 hV0 he hc, fun U hU hW => ⟨rfl, by rw [hU]; exact hV0, hK.moved hW.alike hK0, fun q hq => hA q (Nat.le_trans hS.1 (by rw [← hU]; exact hq)), hZ0.at hU hW hS⟩⟩
theorem h_preSt {G : hG} {A : Nat → Prop} {hp : HP} {s : State} {H : Heap} {locs : List Loc} {As : List Value} (hK0 : hK G s) (hV0 : hV G hp H) (hA : ∀ q : Nat, s.heap.size ≤ q → A q) (hZ0 : hZ A s) (hS : va_S A s.heap H locs) : PreS s H (hPt G A hp As) As :=
  ⟨hPt_blind, fun U hU hW => ⟨rfl, by rw [hU]; exact hV0, hK.moved hW.alike hK0, fun q hq => hA q (Nat.le_trans hS.1 (by rw [← hU]; exact hq)), hZ0.at hU hW hS⟩⟩
section HD
variable {p : Program} {l : Launch} {e : Env} {R : Room} {s : State} {m : MethodId} {args : Array Value} {below : List Frame} {meth : Method} {c : Code} {H : Heap} {locs : List Loc} {cells slots : Nat} {Q : State → Prop}
variable {cc : ByteArray} {pc : Nat} {ls : Array Slot} {rest st0 : List Value} {G : hG} {hp : HP} {A : Nat → Prop} {a : Nat} {mc ms : Nat}
theorem h_callT {E : String} {av : Array Value} (hr : vx_Run p l e R s m args below meth c H locs cells slots mc ms (F0 m pc ls st0) rest (fun _ _ _ => False) (XCt G A hp E) A) (hS : va_S A s.heap H locs)
    (kx : ∀ (q9 : Addr) (ce : Cell) (H1 : Heap) (locs1 : List Loc), hV G hp H1 → va_S A s.heap H1 locs1 → H1[q9]? = some ce → ce.vm = .none → s.vm.findClass E = some ce.cls → vx_W p l e R s m args below meth c H1 locs1 (cells + mc) (slots + ms) Q (F0 m pc ls rest) q9) : W p l e R s m args below meth c H locs cells slots Q (F0 m pc ls st0) := by
  intro T hT X
  rcases hr T hT X with ⟨v, st₀, t, T', L, h0, X', hL, e1, e2, hF, st⟩ | ⟨q, st₀, t, T', L, E2, ce, h0, X', hL, e1, e2, ⟨hE, hv, hF⟩, hce, hcv, hcl, st⟩
  · exact hF.elim
  · subst hE
    obtain ⟨k1, k2, k3⟩ := vx_keep h0 e1 hS (fun q _ h => h) (fun q h => h) hL hF
    obtain ⟨t2, a1, b1⟩ := kx q ce T'.heap (locs ++ L) (by rw [e1]; exact hv) k3 (by rw [e1]; exact hce) hcv hcl T' rfl X'
    exact ⟨t2, st.trans a1, b1⟩
theorem h_thV {E : String} {own C : String} {index maxL nL fr lo ci : Nat} {y : MethodName} {bytes : ByteArray} {ret : Option FieldType} {Ts ws ws' : List Cond} {fs As : List Value} {q : vw_C} (S : CallFix p m c cc nL s args Ts own) (hM : hTh l y ws fr lo mc ms G A hp (.ref a :: As) E) (n : Nat) (hT : GoodIn Ts (wsV own index C y ws)) (hw : ws = Cond.code y bytes maxL ret :: ws')
    (hd : y.cls = C ∧ y.cls ≠ "java/lang/invoke/MethodHandle" ∧ y.cls ≠ "java/lang/invoke/VarHandle" ∧ (parseMethodDescriptor y.desc).map (fun d => d.parameters.length) = some n) (hRm : fr + 1 ≤ R.frames ∧ 8 + (maxL + 11) + lo ≤ R.locals) (hK0 : hK G s) (hV0 : hV G hp H) (hA : ∀ q : Nat, s.heap.size ≤ q → A q) (hZ0 : hZ A s) (hS : va_S A s.heap H locs) (he : hp a = some (.inr (ci, fs))) (hc : vwCl[ci]? = some q) (hq : q.1 = C)
    (hn : As.length = n) (hsize : ls.size = nL) (hstack : st0 = As.reverse ++ .ref a :: rest) (hWs : (rest.map fun v => v.category).sum ≤ 8) (hcl : cells + mc ≤ R.cells ∧ slots + ms ≤ R.slots) (hdg : decode cc pc = .ok (.invokevirtual index, 3))
    (kx : ∀ (q9 : Addr) (ce : Cell) (H1 : Heap) (locs1 : List Loc), hV G hp H1 → va_S A s.heap H1 locs1 → H1[q9]? = some ce → ce.vm = .none → s.vm.findClass E = some ce.cls → vx_W p l e R s m args below meth c H1 locs1 (cells + mc) (slots + ms) Q (F0 m pc ls rest) q9) : W p l e R s m args below meth c H locs cells slots Q (F0 m pc ls st0) := by
  subst hq
  exact h_callT (av := (Value.ref a :: As).toArray) (vx_runV (As := As) (rest := rest) S hM (cwV n S.2.2.2.2 hT hw rfl rfl hd hRm) (h_preVt hK0 hV0 hA hZ0 hS he hc) rfl hn hsize hstack (lv_room hWs) hdg hcl) hS kx
theorem h_thS {E : String} {own : String} {index maxL nL fr lo : Nat} {y : MethodName} {bytes : ByteArray} {ret : Option FieldType} {Ts ws ws' : List Cond} {As : List Value} (S : CallFix p m c cc nL s args Ts own) (hM : hTh l y ws fr lo mc ms G A hp As E) (n : Nat) (hT : GoodIn Ts (va_wsS own index y ws)) (hw : ws = Cond.code y bytes maxL ret :: ws')
    (hd : y.cls ≠ "java/lang/invoke/MethodHandle" ∧ y.cls ≠ "java/lang/invoke/VarHandle" ∧ (parseMethodDescriptor y.desc).map (fun d => d.parameters.length) = some n) (hRm : fr + 1 ≤ R.frames ∧ 8 + (maxL + 11) + lo ≤ R.locals) (hK0 : hK G s) (hV0 : hV G hp H) (hA : ∀ q : Nat, s.heap.size ≤ q → A q) (hZ0 : hZ A s) (hS : va_S A s.heap H locs)
    (hn : As.length = n) (hsize : ls.size = nL) (hstack : st0 = As.reverse ++ rest) (hWs : (rest.map fun v => v.category).sum ≤ 8) (hcl : cells + mc ≤ R.cells ∧ slots + ms ≤ R.slots) (hdg : decode cc pc = .ok (.invokestatic index, 3))
    (kx : ∀ (q9 : Addr) (ce : Cell) (H1 : Heap) (locs1 : List Loc), hV G hp H1 → va_S A s.heap H1 locs1 → H1[q9]? = some ce → ce.vm = .none → s.vm.findClass E = some ce.cls → vx_W p l e R s m args below meth c H1 locs1 (cells + mc) (slots + ms) Q (F0 m pc ls rest) q9) : W p l e R s m args below meth c H locs cells slots Q (F0 m pc ls st0) :=
  h_callT (av := As.toArray) (vx_runS (As := As) (rest := rest) S hM (va_cwS n S.2.2.2.2 hT hw rfl rfl hd hRm) (h_preSt hK0 hV0 hA hZ0 hS) rfl hn hsize hstack (lv_room hWs) hdg hcl) hS kx
/-- a callee's throw goes on to the caller -/
theorem h_out {E : String} {q9 : Addr} {ce : Cell} (hout : ∀ x ∈ c.exceptionTable.toList, False) (hlocks : meth.locks = false) (hV0 : hV G hp H) (hS : va_S A s.heap H locs) (hcell : H[q9]? = some ce) (hv : ce.vm = .none) (hcl : s.vm.findClass E = some ce.cls) (hc : cells ≤ mc) (hs : slots ≤ ms) :
    vx_W p l e R s m args below meth c H locs cells slots (vx_MQ below (fun _ _ _ _ => False) (XCt G A hp E) args s mc ms A) (F0 m pc ls rest) q9 :=
  vx_out (fun x hx => (hout x hx).elim) hlocks hcell hv hcl (fun t ht _ => ⟨rfl, by rw [ht]; exact hV0, hS.F ht⟩) hS.2.2 hc hs
theorem h_throw (hexec : p.tables.exec = Jvm.exec) (hb : c.code = cc) (hlt : l.stackTraces = false) {cls text : String} {ik is ic : Nat} (hown : s.vm.findClass RX2 = some m.cls) (hcls : Bundle.fit cls = true)
    (hk : (Cond.classLink RX2 ik cls).before args s = true) (hini : (Cond.initialized cls).before args s = true) (hmem : (is, text) ∈ strs) (hat : ∀ w ∈ vx_atS RX2 ic cls nm2, w.before args s = true)
    (hgood : ∀ w ∈ Cond.classLink RX2 ik cls :: Cond.initialized cls :: vx_atS RX2 ic cls nm2, vx_ot w = true) (hZ0 : hZ A s) (hV0 : hV G hp H) (hS : va_S A s.heap H locs) (hsize : ls.size = c.maxLocals)
    (d0 : decode cc pc = .ok (.new ik, 3)) (d3 : decode cc (pc + 3) = .ok (.dup, 1)) (d4 : decode cc (pc + 4) = .ok (.ldc is, 2)) (d6 : decode cc (pc + 6) = .ok (.invokespecial ic, 3)) (d9 : decode cc (pc + 9) = .ok (.athrow, 1))
    (hout : ∀ x ∈ c.exceptionTable.toList, False) (hRframes : 6 ≤ R.frames) (hRlocals : (rest.map fun v => v.category).sum + 82 ≤ R.locals) (hRcells : cells + 1 ≤ R.cells) (hRslots : slots + 6 ≤ R.slots) (hlocks : meth.locks = false) (hc : cells + 1 ≤ mc) (hs : slots + 6 ≤ ms) :
    W p l e R s m args below meth c H locs cells slots (vx_MQ below (fun _ _ _ _ => False) (XCt G A hp cls) args s mc ms A) (F0 m pc ls rest) := by
  obtain ⟨sa, hstr⟩ := hZ0.2.2.1 _ hmem
  exact vx_throwS (names := nm2) hexec hb hlt hown hcls fitE.2.2.2 hk hini hstr hat hgood hZ0.1 hZ0.2.1 hS hsize d0 d3 d4 d6 d9 (fun x hx => (hout x hx).elim) hRframes hRlocals hRcells hRslots hlocks
    (fun t hal hz hk => ⟨rfl, fun a e he => (hV0 a e he).kept (hk a (hV0 a e he).lt), ⟨Nat.le_trans hS.1 hz, fun q h1 h2 => (hk q (Nat.lt_of_lt_of_le h1 hS.1)).trans (hS.2.1 q h1 h2)⟩⟩) hS.2.2 hc hs
end HD
