/-! the script: read by 'cell' -/
def hPx (b L : Nat) (xs : Nat → Int32) (av : List Value) : Array Value → State → Prop := va_Pc av (fun U => va_X b L xs U U.heap)
theorem hPx_blind {b L : Nat} {xs : Nat → Int32} {av : List Value} : FrameBlind (hPx b L xs av) := fun a U g mk q => ⟨q.1, va_X.moved (u := U) (U := U.calling g mk a) (Vm.Alike.refl U.vm) q.2⟩
def clX (L : Nat) (xs : Nat → Int32) (k : Nat) : Int32 := if k < L then xs k else 790386105 * nI (k + 3)
def hPb (G : hG) (A : Nat → Prop) (hp : HP) (b L : Nat) (xs : Nat → Int32) (av : List Value) : Array Value → State → Prop := va_Pc av (fun U => (hV G hp U.heap ∧ hK G U ∧ ∀ q : Nat, U.heap.size ≤ q → A q) ∧ va_X b L xs U U.heap ∧ b < U.heap.size)
theorem hPb_blind {G : hG} {A : Nat → Prop} {hp : HP} {b L : Nat} {xs : Nat → Int32} {av : List Value} : FrameBlind (hPb G A hp b L xs av) := fun a U g mk q => ⟨q.1, ⟨q.2.1.1, hK.moved (u := U) (U := U.calling g mk a) (State.WarmedH.refl U) q.2.1.2.1, q.2.1.2.2⟩, va_X.moved (u := U) (U := U.calling g mk a) (Vm.Alike.refl U.vm) q.2.2.1, q.2.2.2⟩
section HX
variable {p : Program} {l : Launch} {e : Env} {R : Room} {s : State} {m : MethodId} {args : Array Value} {below : List Frame} {meth : Method} {c : Code} {H : Heap} {locs : List Loc} {cells slots : Nat} {Q : State → Prop}
variable {cc : ByteArray} {pc : Nat} {ls : Array Slot} {rest st0 : List Value} {G : hG} {hp : HP} {A : Nat → Prop} {a : Nat} {H0 : Heap} {mc ms : Nat} {b L : Nat} {xs : Nat → Int32}
theorem h_preSx {As : List Value} (hX : va_X b L xs s s.heap) (hbl : b < s.heap.size) (hbA : ¬ A b) (hS : va_S A s.heap H locs) : PreS s H (hPx b L xs As) As :=
  ⟨hPx_blind, fun U hU hW => ⟨rfl, va_X.moved hW.alike (by rw [hU]; exact hX.kept (hS.2.1 b hbl hbA))⟩⟩
theorem h_preSb {As : List Value} (hK0 : hK G s) (hV0 : hV G hp H) (hA : ∀ q : Nat, s.heap.size ≤ q → A q) (hX : va_X b L xs s s.heap) (hbl : b < s.heap.size) (hbA : ¬ A b) (hS : va_S A s.heap H locs) : PreS s H (hPb G A hp b L xs As) As :=
  ⟨hPb_blind, fun U hU hW => ⟨rfl, ⟨by rw [hU]; exact hV0, hK.moved hW hK0, fun q hq => hA q (Nat.le_trans hS.1 (by rw [← hU]; exact hq))⟩, va_X.moved hW.alike (by rw [hU]; exact hX.kept (hS.2.1 b hbl hbA)), by rw [hU]; exact Nat.lt_of_lt_of_le hbl hS.1⟩⟩
theorem h_rdSx {own : String} {index maxL nL fr lo : Nat} {y : MethodName} {bytes : ByteArray} {ret : Option FieldType} {Ts ws ws' : List Cond} {As : List Value} {ro : Option Value} (S : CallFix p m c cc nL s args Ts own) (hM : Met l y ws { frames := fr, cells := 0, slots := 0, locals := lo } (hPx b L xs As) (hR ro) 0 0 (fun _ => False)) (n : Nat) (hT : GoodIn Ts (va_wsS own index y ws)) (hw : ws = Cond.code y bytes maxL ret :: ws')
    (hd : y.cls ≠ "java/lang/invoke/MethodHandle" ∧ y.cls ≠ "java/lang/invoke/VarHandle" ∧ (parseMethodDescriptor y.desc).map (fun d => d.parameters.length) = some n) (hRm : fr + 1 ≤ R.frames ∧ 8 + (maxL + 11) + lo ≤ R.locals) (hX : va_X b L xs s s.heap) (hbl : b < s.heap.size) (hbA : ¬ A b) (hS : va_S A s.heap H locs)
    (hn : As.length = n) (hsize : ls.size = nL) (hstack : st0 = As.reverse ++ rest) (hWs : (rest.map fun v => v.category).sum ≤ 8) (hcl : cells ≤ R.cells) (hsl : slots ≤ R.slots) (hdg : decode cc pc = .ok (.invokestatic index, 3))
    (kk : W p l e R s m args below meth c H locs cells slots Q (F0 m (pc + 3) ls (ro.toList ++ rest))) : W p l e R s m args below meth c H locs cells slots Q (F0 m pc ls st0) :=
  h_callR (fun q h => h) (va_runS (As := As) (rest := rest) S hM (va_cwS n S.2.2.2.2 hT hw rfl rfl hd hRm) (h_preSx hX hbl hbA hS) rfl hn hsize hstack (lv_room hWs) hdg ⟨hcl, hsl⟩) kk
theorem h_wrSb {own : String} {index maxL nL fr lo : Nat} {y : MethodName} {bytes : ByteArray} {ret : Option FieldType} {Ts ws ws' : List Cond} {As : List Value} {P : Option Value → HP → Prop} (S : CallFix p m c cc nL s args Ts own) (hM : Met l y ws { frames := fr, cells := mc, slots := ms, locals := lo } (hPb G A hp b L xs As) (hW G A P) mc ms A) (n : Nat) (hT : GoodIn Ts (va_wsS own index y ws)) (hw : ws = Cond.code y bytes maxL ret :: ws')
    (hd : y.cls ≠ "java/lang/invoke/MethodHandle" ∧ y.cls ≠ "java/lang/invoke/VarHandle" ∧ (parseMethodDescriptor y.desc).map (fun d => d.parameters.length) = some n) (hRm : fr + 1 ≤ R.frames ∧ 8 + (maxL + 11) + lo ≤ R.locals) (hK0 : hK G s) (hV0 : hV G hp H) (hA : ∀ q : Nat, s.heap.size ≤ q → A q) (hX : va_X b L xs s s.heap) (hbl : b < s.heap.size) (hbA : ¬ A b) (hS : va_S A s.heap H locs)
    (hn : As.length = n) (hsize : ls.size = nL) (hstack : st0 = As.reverse ++ rest) (hWs : (rest.map fun v => v.category).sum ≤ 8) (hcl : cells + mc ≤ R.cells ∧ slots + ms ≤ R.slots) (hdg : decode cc pc = .ok (.invokestatic index, 3))
    (kk : ∀ (ro : Option Value) (hp' : HP) (H1 : Heap) (locs1 : List Loc), P ro hp' → hV G hp' H1 → hIn A hp' → va_S A s.heap H1 locs1 → W p l e R s m args below meth c H1 locs1 (cells + mc) (slots + ms) Q (F0 m (pc + 3) ls (ro.toList ++ rest))) : W p l e R s m args below meth c H locs cells slots Q (F0 m pc ls st0) :=
  h_callW (va_runS (As := As) (rest := rest) S hM (va_cwS n S.2.2.2.2 hT hw rfl rfl hd hRm) (h_preSb hK0 hV0 hA hX hbl hbA hS) rfl hn hsize hstack (lv_room hWs) hdg hcl) hS kk
theorem h_wrIN {own host : String} {index maxL nL fr lo : Nat} {y : MethodName} {bytes : ByteArray} {Ts ws ws' : List Cond} {As : List Value} {P : Option Value → HP → Prop} (S : CallFix p m c cc nL s args Ts own) (hM : hWr l y ws fr lo mc ms G A hp (.ref a :: As) P) (n : Nat) (hT : GoodIn Ts ws) (hw : ws = Cond.code y bytes maxL none :: ws') (hl9 : va_Nw (.methodLinkNest own index y host) s) (hini : (Cond.initialized y.cls).before args s = true) (hins : (Cond.instanceMethod y).before args s = true) (hy1 : y.name = "<init>")
    (hd : y.cls ≠ "java/lang/invoke/MethodHandle" ∧ y.cls ≠ "java/lang/invoke/VarHandle" ∧ (parseMethodDescriptor y.desc).map (fun d => d.parameters.length) = some n) (hRm : fr + 1 ≤ R.frames ∧ 8 + (maxL + 11) + lo ≤ R.locals) (hK0 : hK G s) (hV0 : hV G hp H) (hA : ∀ q : Nat, s.heap.size ≤ q → A q) (hS : va_S A s.heap H locs)
    (hn : As.length = n) (hsize : ls.size = nL) (hstack : st0 = As.reverse ++ .ref a :: rest) (hWs : (rest.map fun v => v.category).sum ≤ 8) (hcl : cells + mc ≤ R.cells ∧ slots + ms ≤ R.slots) (hdg : decode cc pc = .ok (.invokespecial index, 3))
    (kk : ∀ (ro : Option Value) (hp' : HP) (H1 : Heap) (locs1 : List Loc), P ro hp' → hV G hp' H1 → hIn A hp' → va_S A s.heap H1 locs1 → W p l e R s m args below meth c H1 locs1 (cells + mc) (slots + ms) Q (F0 m (pc + 3) ls (ro.toList ++ rest))) : W p l e R s m args below meth c H locs cells slots Q (F0 m pc ls st0) :=
  h_callW (va_runIN (As := As) (rest := rest) S hM ⟨va_cnB n S.2.2.2.2 hT hw rfl rfl hl9 hini hd hRm, hy1, hins⟩ (h_preSw hK0 hV0 hA hS) rfl hn hsize hstack (lv_room hWs) hdg hcl) hS kk
theorem h_idivN (hexec : p.tables.exec = Jvm.exec) (hb : c.code = cc) {a d : Nat} (ha : a < 2 ^ 31) (h0 : 0 < d) (hd : d < 2 ^ 31) (hdg : decode cc pc = .ok (.idiv, 1))
    (k : W p l e R s m args below meth c H locs cells slots Q (F0 m (pc + 1) ls (.int (nI (a / d)) :: rest))) : W p l e R s m args below meth c H locs cells slots Q (F0 m pc ls (.int (nI d) :: .int (nI a) :: rest)) :=
  lv_idiv hexec hb hdg (nI_ne0 h0 hd) (by rw [pk_div ha h0 hd]; exact k)
end HX
/-- a loop that makes as much as its state says -/
theorem h_loopWK {G : hG} {A : Nat → Prop} {H0 : Heap} {Wf : Nat → Nat → Heap → List Loc → Array Slot → Prop} {nL : Nat} (N : Nat) (L : Nat → List (Nat × Value)) (I : Nat → Nat → HP → Prop)
    (hs : ∀ i : Nat, i ≤ N → ∀ (o : Nat) (hp : HP) (H : Heap) (locs : List Loc), I i o hp → hV G hp H → hIn A hp → va_S A H0 H locs → (∀ (o2 : Nat) (hp : HP) (H : Heap) (locs : List Loc), i < N → I (i + 1) o2 hp → hV G hp H → hIn A hp → va_S A H0 H locs → ∀ ls : Array Slot, lv_has ls nL (L (i + 1)) → Wf (i + 1) o2 H locs ls) → ∀ ls : Array Slot, lv_has ls nL (L i) → Wf i o H locs ls) :
    ∀ i : Nat, i ≤ N → ∀ (o : Nat) (hp : HP) (H : Heap) (locs : List Loc), I i o hp → hV G hp H → hIn A hp → va_S A H0 H locs → ∀ ls : Array Slot, lv_has ls nL (L i) → Wf i o H locs ls := by
  have key : ∀ k i : Nat, i + k = N → ∀ (o : Nat) (hp : HP) (H : Heap) (locs : List Loc), I i o hp → hV G hp H → hIn A hp → va_S A H0 H locs → ∀ ls : Array Slot, lv_has ls nL (L i) → Wf i o H locs ls := by
    intro k
    induction k with
    | zero => intro i hk o hp H locs h1 h2 h3 h4; exact hs i (by omega) o hp H locs h1 h2 h3 h4 (fun _ _ _ _ h => absurd h (by omega))
    | succ k ih => intro i hk o hp H locs h1 h2 h3 h4; exact hs i (by omega) o hp H locs h1 h2 h3 h4 (fun o2 hp H locs _ a b c d => ih (i + 1) (by omega) o2 hp H locs a b c d)
  intro i hi
  exact key (N - i) i (by omega)
/-! at the start: empty levels -/
theorem vw_S0 : vw S0 0 = V0 := by
  refine bv_ext rfl ?_ rfl rfl
  funext l r
  show gC S0 0 l r = emR
  exact if_neg (Nat.not_lt_zero r)
theorem gI_0 {δ : TG} {ω : TS} : gI 0 0 0 S0 0 δ ω := by
  have hn : ∀ l r, ¬ r < bN (vw S0 0) l := fun l r => by rw [vw_S0]; exact Nat.not_lt_zero r
  refine ⟨fun l hl => Nat.zero_le _, fun l1 r1 l2 r2 x _ _ h => absurd h (hn l1 r1), fun l r x _ h => absurd h (hn l r), fun y hy => absurd hy (em_no y), fun l r y _ h => absurd h (hn l r), ⟨4, by omega, by omega, rfl⟩, ⟨0, by omega, ?_⟩, ⟨0, by omega, ?_⟩, Nat.le_refl _⟩
  · rw [← vw_M, vw_S0, nI_0]
    rfl
  · rw [← vw_K, vw_S0, nI_0]
    rfl
theorem gS_le (S : CS) (h : ∀ k l, sN S k l ≤ 3) : gS S ≤ 12416 := by
  have hd := szR_le (sF S 0)
  have hq : ∀ l, qL (vw S 0) l ≤ 192 := fun l => by
    have h1 : qL (vw S 0) l ≤ bN (vw S 0) l * 64 := snA_le (fun i _ => szR_le _)
    have h2 : bN (vw S 0) l ≤ 3 := h 0 l
    omega
  have h0 := hq 0
  have h1 := hq 1
  have h2 := hq 2
  have h3 := hq 3
  unfold gS pS pV
  simp [wQ]
  omega
theorem gS_0 : gS S0 = 0 := by
  unfold gS pS
  rw [vw_S0]
  show 26 * szR emR + pV V0 = 0
  rw [emR_sz]
  rfl
