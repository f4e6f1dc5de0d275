/-! arrays of references: made, written, copied, cloned -/
theorem hnmI {G : hG} {s : State} (h : hK G s) : s.vm.findClass "[I" = some (G.2 0) := (h.1.2 0 _ rfl).2
theorem hnmA {G : hG} {s : State} (h : hK G s) : s.vm.findClass "[[I" = some (G.2 3) := (h.1.2 3 _ rfl).2
theorem hnmB {G : hG} {s : State} (h : hK G s) : s.vm.findClass "[[[I" = some (G.2 4) := (h.1.2 4 _ rfl).2
theorem hkdA {G : hG} {s : State} (h : hK G s) : ∃ k kc : Class, s.vm.classes[G.2 3]? = some k ∧ k.kind = .array (G.2 0) (.array .int) ∧ s.vm.classes[G.2 0]? = some kc := by
  obtain ⟨comp, c, k, h1, h2, h3, h4, h5⟩ := arrayOverA_spec h.2.2.1
  cases (hnmI h).symm.trans h1
  cases (hnmA h).symm.trans h5
  obtain ⟨kc, hkc, -⟩ := Vm.findClass_spec h1
  exact ⟨k, kc, h3, h4, hkc⟩
theorem hkdB {G : hG} {s : State} (h : hK G s) : ∃ k kc : Class, s.vm.classes[G.2 4]? = some k ∧ k.kind = .array (G.2 3) (.array (.array .int)) ∧ s.vm.classes[G.2 3]? = some kc := by
  obtain ⟨comp, c, k, h1, h2, h3, h4, h5⟩ := arrayOverA_spec h.2.2.2.1
  cases (hnmA h).symm.trans h1
  cases (hnmB h).symm.trans h5
  obtain ⟨kc, hkc, -⟩ := Vm.findClass_spec h1
  exact ⟨k, kc, h3, h4, hkc⟩
section HQ
variable {p : Program} {l : Launch} {e : Env} {R : Room} {s : State} {m : MethodId} {args : Array Value} {below : List Frame} {meth : Method} {c : Code} {H : Heap} {locs : List Loc} {cells slots : Nat} {Q : State → Prop}
variable {cc : ByteArray} {pc : Nat} {ls : Array Slot} {rest st0 : List Value} {G : hG} {hp : HP} {A : Nat → Prop} {a : Nat} {H0 : Heap} {mc ms : Nat}
theorem h_newqE {t n : Nat} (hV0 : hV G hp H) (hA0 : hIn A hp) (hS : va_S A H0 H locs) (hA : ∀ q : Nat, H0.size ≤ q → A q)
    (kk : ∀ (q : Nat) (H1 : Heap), hp q = none → hV G (hput hp q (eQ t n (fun _ => none))) H1 → hIn A (hput hp q (eQ t n (fun _ => none))) → va_S A H0 H1 locs → W p l e R s m args below meth c H1 locs cells slots Q (F0 m pc ls (.ref q :: rest))) :
    W p l e R s m args below meth c (H.push { cls := G.2 t, slots := Array.replicate n .null, vm := .none }) locs cells slots Q (F0 m pc ls (.ref H.size :: rest)) := by
  generalize hH1 : H.push ({ cls := G.2 t, slots := Array.replicate n .null, vm := .none } : Cell) = H1
  have z1 : H1.size = H.size + 1 := by rw [← hH1, Array.size_push]
  have e1 : H1[H.size]? = some (arrV (G.2 t) n (fun _ => .null)) := by rw [← hH1, Array.getElem?_push_size, ← arrV_new]
  have o1 : ∀ q : Nat, q < H.size → H1[q]? = H[q]? := fun q hq => by rw [← hH1, Array.getElem?_push, if_neg (Nat.ne_of_lt hq)]
  refine kk H.size H1 (hV0.none (Nat.le_refl _)) (hV0.new (e := eQ t n (fun _ => none)) rfl ?_ o1) (hA0.put (hA _ hS.1)) ⟨Nat.le_trans hS.1 (by omega), fun x h1 h2 => (o1 x (Nat.lt_of_lt_of_le h1 hS.1)).trans (hS.2.1 x h1 h2), hS.2.2⟩
  show H1[H.size]? = some (vp_cell _ _)
  rw [vp_cell_q]
  exact e1
theorem h_newqO (hexec : p.tables.exec = Jvm.exec) (hb : c.code = cc) {own : String} {index : Nat} (hown : s.vm.findClass own = some m.cls) (hclink : (Cond.classLink own index RX1).before args s = true) (hK0 : hK G s) (hV0 : hV G hp H) (hA0 : hIn A hp) (hS : va_S A H0 H locs) (hA : ∀ q : Nat, H0.size ≤ q → A q)
    {n : Nat} (hn : n < 2 ^ 20) (hcells : cells + 1 ≤ R.cells) (hslots : slots + n ≤ R.slots) (hdg : decode cc pc = .ok (.anewarray index, 3))
    (kk : ∀ (q : Nat) (H1 : Heap), hp q = none → hV G (hput hp q (eQ 2 n (fun _ => none))) H1 → hIn A (hput hp q (eQ 2 n (fun _ => none))) → va_S A H0 H1 locs → W p l e R s m args below meth c H1 locs (cells + 1) (slots + n) Q (F0 m (pc + 3) ls (.ref q :: rest))) : W p l e R s m args below meth c H locs cells slots Q (F0 m pc ls (.int (nI n) :: rest)) := by
  have hcl : (nI n).toNatClampNeg = n := nI_clamp (by omega)
  refine W.anew hexec hb hown hclink (va_AO.use hK0.2.1) rfl hdg rfl (nI_pos (by omega)) (by rw [hcl]; omega) hcells (by rw [hcl]; exact hslots) fun cA kA comp f1 f2 f3 f4 => ?_
  obtain ⟨_, _, _, _, _, h6⟩ := (hK0.1.2 2 _ rfl).2
  have hc : cA = G.2 2 := Option.some.inj (f1.symm.trans h6)
  subst hc
  rw [hcl]
  exact h_newqE hV0 hA0 hS hA kk
theorem h_newqA (hexec : p.tables.exec = Jvm.exec) (hb : c.code = cc) {own : String} {index : Nat} {t : Nat} {ty : FieldType} (hao : hAA ty s) (ht : (hTs G)[t]? = some (G.2 t, .array ty)) (hown : s.vm.findClass own = some m.cls) (hclink : (Cond.classLink own index (FieldType.array ty).toString).before args s = true) (hK0 : hK G s) (hV0 : hV G hp H) (hA0 : hIn A hp) (hS : va_S A H0 H locs) (hA : ∀ q : Nat, H0.size ≤ q → A q)
    {n : Nat} (hn : n < 2 ^ 20) (hcells : cells + 1 ≤ R.cells) (hslots : slots + n ≤ R.slots) (hdg : decode cc pc = .ok (.anewarray index, 3))
    (kk : ∀ (q : Nat) (H1 : Heap), hp q = none → hV G (hput hp q (eQ t n (fun _ => none))) H1 → hIn A (hput hp q (eQ t n (fun _ => none))) → va_S A H0 H1 locs → W p l e R s m args below meth c H1 locs (cells + 1) (slots + n) Q (F0 m (pc + 3) ls (.ref q :: rest))) : W p l e R s m args below meth c H locs cells slots Q (F0 m pc ls (.int (nI n) :: rest)) := by
  have hcl : (nI n).toNatClampNeg = n := nI_clamp (by omega)
  refine W.anewA hexec hb hown hclink (hAA.use hao) rfl hdg rfl (nI_pos (by omega)) (by rw [hcl]; omega) hcells (by rw [hcl]; exact hslots) fun cA kA comp f1 f2 f3 f4 => ?_
  have hc : cA = G.2 t := Option.some.inj (f1.symm.trans (hK0.1.2 t _ ht).2)
  subst hc
  rw [hcl]
  exact h_newqE hV0 hA0 hS hA kk
theorem h_aastE (hexec : p.tables.exec = Jvm.exec) (hb : c.code = cc) (hV0 : hV G hp H) (hA0 : hIn A hp) (hS : va_S A H0 H locs) {t n v : Nat} {f : Nat → Option Nat} {cv : Cell} {k kv kc : Class} {comp : ClassId} {ty : FieldType} (he : hp a = some (eQ t n f)) (hk : s.vm.classes[G.2 t]? = some k) (hkind : k.kind = .array comp ty) (href : ty.isReference = true) (hkc : s.vm.classes[comp]? = some kc)
    (hv : H[v]? = some cv) (hvo : cv.vm.isStatics = false) (hkv : s.vm.classes[cv.cls]? = some kv) (hasg : s.vm.assignable cv.cls comp = true) {i : Nat} (hi : i < n) (hn : n < 2 ^ 31) (hdg : decode cc pc = .ok (.aastore, 1))
    (kk : ∀ (H1 : Heap) (locs1 : List Loc), hV G (hput hp a (eQ t n (va_up f i (some v)))) H1 → hIn A (hput hp a (eQ t n (va_up f i (some v)))) → va_S A H0 H1 locs1 → W p l e R s m args below meth c H1 locs1 cells slots Q (F0 m (pc + 1) ls rest)) : W p l e R s m args below meth c H locs cells slots Q (F0 m pc ls (.ref v :: .int (nI i) :: .ref a :: rest)) := by
  have hcl : (nI i).toNatClampNeg = i := nI_clamp (show i < 2 ^ 31 by omega)
  refine W.aast hexec hb (hV0 a _ he) (fun q h => by cases h) (fun h => by cases h) hk hkind href hkc ⟨nI_pos (by omega), by show _ < (arrV _ _ _).slots.size; rw [arrV_size, hcl]; exact hi⟩ hv (fun q h => by rw [h] at hvo; cases hvo) hkv hasg rfl rfl hdg fun H1 e z oq => ?_
  refine kk H1 _ (hV0.put (e := eQ t n (va_up f i (some v))) ?_ oq) (hA0.put (hA0 a _ he)) (hS.put z oq (hA0 a _ he))
  show H1[a]? = some (vp_cell _ _)
  rw [e, hcl]
  rw [vp_cell_q, vp_cell_q, arrV_store]
  congr 2
  funext q
  by_cases hq : q = i
  · subst hq
    simp [updV, va_up, va_rf]
  · simp [updV, va_up, hq]
theorem h_aastO (hexec : p.tables.exec = Jvm.exec) (hb : c.code = cc) (hK0 : hK G s) (hV0 : hV G hp H) (hA0 : hIn A hp) (hS : va_S A H0 H locs) {n v : Nat} {f : Nat → Option Nat} {fs : List Value} (he : hp a = some (eQ 2 n f)) (hv : hp v = some (eO 1 fs)) {i : Nat} (hi : i < n) (hn : n < 2 ^ 31) (hdg : decode cc pc = .ok (.aastore, 1))
    (kk : ∀ (H1 : Heap) (locs1 : List Loc), hV G (hput hp a (eQ 2 n (va_up f i (some v)))) H1 → hIn A (hput hp a (eQ 2 n (va_up f i (some v)))) → va_S A H0 H1 locs1 → W p l e R s m args below meth c H1 locs1 cells slots Q (F0 m (pc + 1) ls rest)) : W p l e R s m args below meth c H locs cells slots Q (F0 m pc ls (.ref v :: .int (nI i) :: .ref a :: rest)) := by
  obtain ⟨cell, g1, g2, g3⟩ := h_recv hK0 hV0 hv (q := (RX1, TX1, 6)) rfl
  obtain ⟨kA, comp, k1, k2, k3, -⟩ := (hK0.1.2 2 _ rfl).2
  have hcomp : comp = cell.cls := Option.some.inj (k3.symm.trans g3)
  obtain ⟨kC, hkC, -⟩ := Vm.findClass_spec k3
  exact h_aastE hexec hb hV0 hA0 hS he k1 k2 rfl hkC g1 g2 (by rw [← hcomp]; exact hkC) (by rw [hcomp]; exact va_asg _ _) hi hn hdg kk
theorem h_aastI (hexec : p.tables.exec = Jvm.exec) (hb : c.code = cc) (hK0 : hK G s) (hV0 : hV G hp H) (hA0 : hIn A hp) (hS : va_S A H0 H locs) {n v n2 : Nat} {f : Nat → Option Nat} {g : Nat → Int32} (he : hp a = some (eQ 3 n f)) (hv : hp v = some (eI n2 g)) {i : Nat} (hi : i < n) (hn : n < 2 ^ 31) (hdg : decode cc pc = .ok (.aastore, 1))
    (kk : ∀ (H1 : Heap) (locs1 : List Loc), hV G (hput hp a (eQ 3 n (va_up f i (some v)))) H1 → hIn A (hput hp a (eQ 3 n (va_up f i (some v)))) → va_S A H0 H1 locs1 → W p l e R s m args below meth c H1 locs1 cells slots Q (F0 m (pc + 1) ls rest)) : W p l e R s m args below meth c H locs cells slots Q (F0 m pc ls (.ref v :: .int (nI i) :: .ref a :: rest)) := by
  obtain ⟨k, kc, k1, k2, k3⟩ := hkdA hK0
  exact h_aastE hexec hb hV0 hA0 hS he k1 k2 rfl k3 (hV0 v _ hv) rfl k3 (va_asg _ _) hi hn hdg kk
theorem h_aastA (hexec : p.tables.exec = Jvm.exec) (hb : c.code = cc) (hK0 : hK G s) (hV0 : hV G hp H) (hA0 : hIn A hp) (hS : va_S A H0 H locs) {n v n2 : Nat} {f g : Nat → Option Nat} (he : hp a = some (eQ 4 n f)) (hv : hp v = some (eQ 3 n2 g)) {i : Nat} (hi : i < n) (hn : n < 2 ^ 31) (hdg : decode cc pc = .ok (.aastore, 1))
    (kk : ∀ (H1 : Heap) (locs1 : List Loc), hV G (hput hp a (eQ 4 n (va_up f i (some v)))) H1 → hIn A (hput hp a (eQ 4 n (va_up f i (some v)))) → va_S A H0 H1 locs1 → W p l e R s m args below meth c H1 locs1 cells slots Q (F0 m (pc + 1) ls rest)) : W p l e R s m args below meth c H locs cells slots Q (F0 m pc ls (.ref v :: .int (nI i) :: .ref a :: rest)) := by
  obtain ⟨k, kc, k1, k2, k3⟩ := hkdB hK0
  exact h_aastE hexec hb hV0 hA0 hS he k1 k2 rfl k3 (hV0 v _ hv) rfl k3 (va_asg _ _) hi hn hdg kk
theorem h_copyA (hexec : p.tables.exec = Jvm.exec) (hb : c.code = cc) (hml : c.maxLocals = ls.size) {own : String} {index : Nat} (hown : s.vm.findClass own = some m.cls) (hlink : (Cond.methodLink own index arraycopyName).before args s = true) (hnat : (Cond.native arraycopyName).before args s = true) (hstat : (Cond.static arraycopyName).before args s = true) (hini : (Cond.initialized "java/lang/System").before args s = true)
    (hK0 : hK G s) (hV0 : hV G hp H) (hA0 : hIn A hp) (hS : va_S A H0 H locs) {a0 n0 n1 : Nat} {f g : Nat → Option Nat} (ha0 : hp a0 = some (eQ 3 n0 f)) (ha1 : hp a = some (eQ 3 n1 g))
    {sp dp n : Nat} (h4 : sp + n ≤ n0) (h5 : dp + n ≤ n1) (hn0 : n0 < 2 ^ 31) (hn1 : n1 < 2 ^ 31) (hel : ∀ i : Nat, i < n → ∀ y : Nat, f (sp + i) = some y → ∃ (n2 : Nat) (z : Nat → Int32), hp y = some (eI n2 z))
    (hframes : 1 ≤ R.frames) (hlocals : (rest.map fun v => v.category).sum + (nativeFrameWords "java/lang/System" "arraycopy" 5 + 11) ≤ R.locals) (hdg : decode cc pc = .ok (.invokestatic index, 3))
    (kk : ∀ (H1 : Heap) (locs1 : List Loc), hV G (hput hp a (eQ 3 n1 (va_cpy f g sp dp n))) H1 → hIn A (hput hp a (eQ 3 n1 (va_cpy f g sp dp n))) → va_S A H0 H1 locs1 → W p l e R s m args below meth c H1 locs1 cells slots Q (F0 m (pc + 3) ls rest)) : W p l e R s m args below meth c H locs cells slots Q (F0 m pc ls (.int (nI n) :: .int (nI dp) :: .ref a :: .int (nI sp) :: .ref a0 :: rest)) := by
  intro T hT X
  have hc0 : H[a0]? = some (vp_cell (G.2 3) (n0, .inr (.inr (.inr (.inr f))))) := hV0 a0 _ ha0
  have hc1 : H[a]? = some (vp_cell (G.2 3) (n1, .inr (.inr (.inr (.inr g))))) := hV0 a _ ha1
  obtain ⟨k, kc, k1, k2, k3⟩ := hkdA hK0
  have esp : (nI sp).toNatClampNeg = sp := nI_clamp (by omega)
  have edp : (nI dp).toNatClampNeg = dp := nI_clamp (by omega)
  have en : (nI n).toNatClampNeg = n := nI_clamp (by omega)
  have tsp : (nI sp).toInt = (sp : Int) := nI_toInt (by omega)
  have tdp : (nI dp).toInt = (dp : Int) := nI_toInt (by omega)
  have tn : (nI n).toInt = (n : Int) := nI_toInt (by omega)
  obtain ⟨vm', X', step⟩ := X.arraycopy hexec hown hlink hnat hstat hini (src := a0) (dst := a) (cs := vp_cell (G.2 3) (n0, .inr (.inr (.inr (.inr f))))) (cd := vp_cell (G.2 3) (n1, .inr (.inr (.inr (.inr g))))) (srcPos := nI sp) (destPos := nI dp) (n := nI n) (by rw [hT]; exact hc0) (by rw [hT]; exact hc1)
    (fun _ h => by cases h) (fun _ h => by cases h) (fun h => by cases h) (fun h => by cases h) k1 k1 k2 k2 rfl (nI_pos (by omega)) (nI_pos (by omega)) (nI_pos (by omega))
    (by rw [tsp, tn]; show ¬ _ > ((arrV (G.2 3) n0 (fun j => va_rf (f j))).slots.size : Int); rw [arrV_size]; omega)
    (by rw [tdp, tn]; show ¬ _ > ((arrV (G.2 3) n1 (fun j => va_rf (g j))).slots.size : Int); rw [arrV_size]; omega)
    (fun vm₁ hal i hi => by
      rw [en] at hi
      have e : (vp_cell (G.2 3) (n0, .inr (.inr (.inr (.inr f))))).slots.getD ((nI sp).toNatClampNeg + i) .null = va_rf (f (sp + i)) := by
        show (arrV (G.2 3) n0 (fun j => va_rf (f j))).slots.getD _ _ = _
        rw [esp, Array.getD_eq_getD_getElem?, arrV_read _ _ (by omega)]
        rfl
      rw [e]
      cases hy : f (sp + i) with
      | none => exact ⟨rfl, trivial⟩
      | some y =>
        obtain ⟨n2, z, hz⟩ := hel i hi y hy
        obtain ⟨kc', hkc', -⟩ := hal.2.2 _ _ k3
        refine ⟨rfl, _, (show T.heap[y]? = some _ by rw [hT]; exact hV0 y _ hz), (fun q h => by cases h), ⟨kc', hkc'⟩, ⟨kc', hkc'⟩, va_asg _ _⟩)
    (g := F0 m pc ls (.int (nI n) :: .int (nI dp) :: .ref a :: .int (nI sp) :: .ref a0 :: rest)) rfl (by rw [hml]) (rest := rest) rfl (by rw [hb]; exact hdg) hframes (by show 2 * 0 + _ + _ ≤ _; omega)
  have e1 : copied (vp_cell (G.2 3) (n0, .inr (.inr (.inr (.inr f))))) (vp_cell (G.2 3) (n1, .inr (.inr (.inr (.inr g))))) (nI sp) (nI dp) (nI n) = vp_cell (G.2 3) (n1, .inr (.inr (.inr (.inr (va_cpy f g sp dp n))))) := by
    have h9 : copied (vp_cell (G.2 3) (n0, .inr (.inr (.inr (.inr f))))) (vp_cell (G.2 3) (n1, .inr (.inr (.inr (.inr g))))) (nI sp) (nI dp) (nI n) = vp_cell (G.2 3) (n1, .inr (.inr (.inr (.inr (va_cpy f g (nI sp).toNatClampNeg (nI dp).toNatClampNeg (nI n).toNatClampNeg))))) := by
      rw [vp_cell_q, vp_cell_q, vp_cell_q]
      exact va_copied (fun z => va_rf z) (G.2 3) (G.2 3) f g (by rw [esp, en]; exact h4)
    rw [esp, edp, en] at h9
    exact h9
  rw [e1] at X' step
  have hl : a < H.size := (Array.getElem?_eq_some_iff.mp hc1).1
  have hheap : ((T.setVm vm').setCell a (vp_cell (G.2 3) (n1, .inr (.inr (.inr (.inr (va_cpy f g sp dp n))))))).heap = H.setIfInBounds a (vp_cell (G.2 3) (n1, .inr (.inr (.inr (.inr (va_cpy f g sp dp n)))))) := by rw [← hT]; rfl
  have oq : ∀ q : Nat, q ≠ a → (H.setIfInBounds a (vp_cell (G.2 3) (n1, .inr (.inr (.inr (.inr (va_cpy f g sp dp n)))))))[q]? = H[q]? := fun q hq => by simp [Array.getElem?_setIfInBounds, Ne.symm hq]
  obtain ⟨t, a1, b1⟩ := kk _ _ (hV0.put (e := eQ 3 n1 (va_cpy f g sp dp n)) (show (H.setIfInBounds a _)[a]? = some _ by simp [Array.getElem?_setIfInBounds, hl]) oq) (hA0.put (hA0 a _ ha1)) ⟨by simp; exact hS.1, fun q g1 g2 => by
      rw [oq q (fun e => g2 (by rw [e]; exact hA0 a _ ha1))]
      exact hS.2.1 q g1 g2, fun q hq => by
      rcases List.mem_append.mp hq with h | h
      · exact hS.2.2 q h
      · obtain ⟨z, -, hz⟩ := List.mem_map.mp h
        rw [← hz]
        exact hA0 a _ ha1⟩ _ hheap X'
  exact ⟨t, step t a1, b1⟩
theorem h_castA (hexec : p.tables.exec = Jvm.exec) (hb : c.code = cc) {own nm : String} {index : Nat} (hown : s.vm.findClass own = some m.cls) (hlink : (Cond.classLink own index nm).before args s = true) (hV0 : hV G hp H) {t : Nat} {x : vp_A} (he : hp a = some (.inl (t, x))) (hnm : s.vm.findClass nm = some (G.2 t)) (hdg : decode cc pc = .ok (.checkcast index, 3))
    (k : W p l e R s m args below meth c H locs cells slots Q (F0 m (pc + 3) ls (.ref a :: rest))) : W p l e R s m args below meth c H locs cells slots Q (F0 m pc ls (.ref a :: rest)) :=
  va_castA hexec hb hown hlink (hV0.P2 he) 0 rfl hnm hdg k
theorem h_clone (hexec : p.tables.exec = Jvm.exec) (hb : c.code = cc) (hml : c.maxLocals = ls.size) {own ad : String} {index : Nat} (hown : s.vm.findClass own = some m.cls)
    (hlink : (Cond.methodLink own index ⟨ad, "clone", "()Ljava/lang/Object;"⟩).before args s = true) (hsame : (Cond.sameMethod ad "java/lang/Object" "clone" "()Ljava/lang/Object;").before args s = true)
    (hnat : (Cond.native ⟨"java/lang/Object", "clone", "()Ljava/lang/Object;"⟩).before args s = true) (hinst : (Cond.instanceMethod ⟨"java/lang/Object", "clone", "()Ljava/lang/Object;"⟩).before args s = true)
    (hsel : (Cond.selects ad ⟨ad, "clone", "()Ljava/lang/Object;"⟩ ⟨"java/lang/Object", "clone", "()Ljava/lang/Object;"⟩).before args s = true) (hcl : va_Nw (.castable ad "java/lang/Cloneable") s)
    (hK0 : hK G s) (hV0 : hV G hp H) (hA0 : hIn A hp) (hS : va_S A H0 H locs) (hA : ∀ q, H0.size ≤ q → A q) {t : Nat} {x : vp_A} {ty : FieldType} (he : hp a = some (.inl (t, x))) (ht : (hTs G)[t]? = some (G.2 t, ty))
    (hnm : s.vm.findClass ad = some (G.2 t)) (hfit : ∀ (i : Nat) (v : Value), (vp_cell (G.2 t) x).slots[i]? = some v → fits ty v = true)
    (hframes : 1 ≤ R.frames) (hlocals : (rest.map fun v => v.category).sum + 14 ≤ R.locals) (hcells : cells + 1 ≤ R.cells) (hslots : slots + x.1 ≤ R.slots) (hdg : decode cc pc = .ok (.invokevirtual index, 3))
    (kk : ∀ (q : Nat) (H1 : Heap), hp q = none → hV G (hput hp q (.inl (t, x))) H1 → hIn A (hput hp q (.inl (t, x))) → va_S A H0 H1 locs → W p l e R s m args below meth c H1 locs (cells + 1) (slots + x.1) Q (F0 m (pc + 3) ls (.ref q :: rest))) : W p l e R s m args below meth c H locs cells slots Q (F0 m pc ls (.ref a :: rest)) := by
  have hsz : (vp_cell (G.2 t) x).slots.size = x.1 := by
    obtain ⟨n, f | f | f | f | f⟩ := x <;> exact arrV_size _ _ _
  have hvm0 : (vp_cell (G.2 t) x).vm = .none := by
    obtain ⟨n, f | f | f | f | f⟩ := x <;> rfl
  have hcl0 : (vp_cell (G.2 t) x).cls = G.2 t := by
    obtain ⟨n, f | f | f | f | f⟩ := x <;> rfl
  have hcellE : ({ cls := (vp_cell (G.2 t) x).cls, slots := (vp_cell (G.2 t) x).slots } : Cell) = vp_cell (G.2 t) x := by
    obtain ⟨n, f | f | f | f | f⟩ := x <;> rfl
  obtain ⟨c0, t0', f1, f2, f3⟩ := Cond.castable_spec (va_Nw.use (A := args) rfl hcl)
  have hc0 : c0 = G.2 t := Option.some.inj (f1.symm.trans hnm)
  subst hc0
  intro T hT X
  have hcellT : T.heap[a]? = some (vp_cell (G.2 t) x) := by rw [hT]; exact hV0 a _ he
  obtain ⟨-, kA, hkA, comp, hkind⟩ := State.isArrayOf_alike X.warmed.alike ((hK0.1.2 t _ ht).1 0 (fun _ => .null))
  obtain ⟨-, kS, hkS, compS, hkindS⟩ := (hK0.1.2 t _ ht).1 0 (fun _ => .null)
  obtain ⟨vm', X', st⟩ := X.cloneArray hexec hown hlink hsame hnat hinst hsel (a := a) (cell := vp_cell (G.2 t) x) hcellT (fun k h => by rw [hvm0] at h; cases h) (by rw [hvm0]; exact fun h => by cases h) (by rw [hcl0]; exact hnm) f2 (by rw [hcl0]; exact f3)
    (fun i v hv => by
      rw [hcl0]
      have hk' : T.vm.classes[G.2 t]? = some kA := hkA
      simpa [State.fitsSlot, State.slotType?, hk', hkind] using hfit i v hv)
    (g := F0 m pc ls (.ref a :: rest)) rfl (by rw [hml]) rfl (by rw [hb]; exact hdg) hframes (by show 2 * 0 + _ + 14 ≤ _; omega) hcells (by rw [hsz]; exact hslots) (hloader := by rw [hcl0]; exact Vm.clonesLoader_of_array hkS hkindS)
  rw [hcellE, hsz] at X'
  generalize hH1 : H.push (vp_cell (G.2 t) x) = H1
  have z1 : H1.size = H.size + 1 := by rw [← hH1, Array.size_push]
  have e1 : H1[H.size]? = some (vp_cell (G.2 t) x) := by rw [← hH1, Array.getElem?_push_size]
  have o1 : ∀ q : Nat, q < H.size → H1[q]? = H[q]? := fun q hq => by rw [← hH1, Array.getElem?_push, if_neg (Nat.ne_of_lt hq)]
  obtain ⟨t9, b1, b2⟩ := kk H.size H1 (hV0.none (Nat.le_refl _)) (hV0.new (e := .inl (t, x)) rfl e1 o1) (hA0.put (hA _ hS.1)) ⟨Nat.le_trans hS.1 (by omega), fun y h1 h2 => (o1 y (Nat.lt_of_lt_of_le h1 hS.1)).trans (hS.2.1 y h1 h2), hS.2.2⟩
    ((T.setVm vm').pushCell (vp_cell (G.2 t) x)) (by rw [← hH1, ← hT]; rfl) X'
  refine ⟨t9, st t9 ?_, b2⟩
  rw [hcellE, hT]
  exact b1
end HQ
