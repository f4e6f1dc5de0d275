/-! arrays of references: made, written, copied, cloned -/
theorem hnmI {G : hG} {s : State} (h : hK G s) : s.vm.findClass "[I" = some (G.2 0) := (h.1.2 0 _ rfl).2
theorem hnmA {G : hG} {s : State} (h : hK G s) : s.vm.findClass "[[I" = some (G.2 3) := (h.1.2 3 _ rfl).2
theorem hnmB {G : hG} {s : State} (h : hK G s) : s.vm.findClass "[[[I" = some (G.2 4) := (h.1.2 4 _ rfl).2
theorem hkdA {G : hG} {s : State} (h : hK G s) : ∃ k kc : Class, s.vm.classes[G.2 3]? = some k ∧ k.kind = .array (G.2 0) (.array .int) ∧ s.vm.classes[G.2 0]? = some kc := by
  obtain ⟨comp, c, k, h1, h2, h3, h4, h5⟩ := arrayOverA_spec h.2.2.1
  cases (hnmI h).symm.trans h1
  cases (hnmA h).symm.trans h5
  obtain ⟨kc, hkc, -⟩ := Vm.findClass_spec h1
  exact ⟨k, kc, h3, h4, hkc⟩
theorem hkdB {G : hG} {s : State} (h : hK G s) : ∃ k kc : Class, s.vm.classes[G.2 4]? = some k ∧ k.kind = .array (G.2 3) (.array (.array .int)) ∧ s.vm.classes[G.2 3]? = some kc := by
  obtain ⟨comp, c, k, h1, h2, h3, h4, h5⟩ := arrayOverA_spec h.2.2.2.1
  cases (hnmA h).symm.trans h1
  cases (hnmB h).symm.trans h5
  obtain ⟨kc, hkc, -⟩ := Vm.findClass_spec h1
  exact ⟨k, kc, h3, h4, hkc⟩
theorem hnmC {G : hG} {s : State} (h : hK G s) : s.vm.findClass "[[[[I" = some (G.2 5) := (h.1.2 5 _ rfl).2
theorem hkdC {G : hG} {s : State} (h : hK G s) : ∃ k kc : Class, s.vm.classes[G.2 5]? = some k ∧ k.kind = .array (G.2 4) (.array (.array (.array .int))) ∧ s.vm.classes[G.2 4]? = some kc := by
  obtain ⟨comp, c, k, h1, h2, h3, h4, h5⟩ := arrayOverA_spec h.2.2.2.2.1
  cases (hnmB h).symm.trans h1
  cases (hnmC h).symm.trans h5
  obtain ⟨kc, hkc, -⟩ := Vm.findClass_spec h1
  exact ⟨k, kc, h3, h4, hkc⟩
section HQ
variable {p : Program} {l : Launch} {e : Env} {R : Room} {s : State} {m : MethodId} {args : Array Value} {below : List Frame} {meth : Method} {c : Code} {H : Heap} {locs : List Loc} {cells slots : Nat} {Q : State → Prop}
variable {cc : ByteArray} {pc : Nat} {ls : Array Slot} {rest st0 : List Value} {G : hG} {hp : HP} {A : Nat → Prop} {a : Nat} {H0 : Heap} {mc ms : Nat}
theorem h_newqE {t n : Nat} (hV0 : hV G hp H) (hA0 : hIn A hp) (hS : va_S A H0 H locs) (hA : ∀ q : Nat, H0.size ≤ q → A q)
    (kk : ∀ (q : Nat) (H1 : Heap), hp q = none → hV G (hput hp q (eQ t n (fun _ => none))) H1 → hIn A (hput hp q (eQ t n (fun _ => none))) → va_S A H0 H1 locs → W p l e R s m args below meth c H1 locs cells slots Q (F0 m pc ls (.ref q :: rest))) :
    W p l e R s m args below meth c (H.push { cls := G.2 t, slots := Array.replicate n .null, vm := .none }) locs cells slots Q (F0 m pc ls (.ref H.size :: rest)) := by
  generalize hH1 : H.push ({ cls := G.2 t, slots := Array.replicate n .null, vm := .none } : Cell) = H1
  have z1 : H1.size = H.size + 1 := by rw [← hH1, Array.size_push]
  have e1 : H1[H.size]? = some (arrV (G.2 t) n (fun _ => .null)) := by rw [← hH1, Array.getElem?_push_size, ← arrV_new]
  have o1 : ∀ q : Nat, q < H.size → H1[q]? = H[q]? := fun q hq => by rw [← hH1, Array.getElem?_push, if_neg (Nat.ne_of_lt hq)]
  refine kk H.size H1 (hV0.none (Nat.le_refl _)) (hV0.new (e := eQ t n (fun _ => none)) rfl ?_ o1) (hA0.put (hA _ hS.1)) ⟨Nat.le_trans hS.1 (by omega), fun x h1 h2 => (o1 x (Nat.lt_of_lt_of_le h1 hS.1)).trans (hS.2.1 x h1 h2), hS.2.2⟩
  show H1[H.size]? = some (vp_cell _ _)
  rw [vp_cell_q]
  exact e1
theorem h_newqO (hexec : p.tables.exec = Jvm.exec) (hb : c.code = cc) {own : String} {index : Nat} (hown : s.vm.findClass own = some m.cls) (hclink : (Cond.classLink own index RX1).before args s = true) (hK0 : hK G s) (hV0 : hV G hp H) (hA0 : hIn A hp) (hS : va_S A H0 H locs) (hA : ∀ q : Nat, H0.size ≤ q → A q)
    {n : Nat} (hn : n < 2 ^ 20) (hcells : cells + 1 ≤ R.cells) (hslots : slots + n ≤ R.slots) (hdg : decode cc pc = .ok (.anewarray index, 3))
    (kk : ∀ (q : Nat) (H1 : Heap), hp q = none → hV G (hput hp q (eQ 2 n (fun _ => none))) H1 → hIn A (hput hp q (eQ 2 n (fun _ => none))) → va_S A H0 H1 locs → W p l e R s m args below meth c H1 locs (cells + 1) (slots + n) Q (F0 m (pc + 3) ls (.ref q :: rest))) : W p l e R s m args below meth c H locs cells slots Q (F0 m pc ls (.int (nI n) :: rest)) := by
  have hcl : (nI n).toNatClampNeg = n := nI_clamp (by omega)
  refine W.anew hexec hb hown hclink (va_AO.use hK0.2.1) rfl hdg rfl (nI_pos (by omega)) (by rw [hcl]; omega) hcells (by rw [hcl]; exact hslots) fun cA kA comp f1 f2 f3 f4 => ?_
  obtain ⟨_, _, _, _, _, h6⟩ := (hK0.1.2 2 _ rfl).2
  have hc : cA = G.2 2 := Option.some.inj (f1.symm.trans h6)
  subst hc
  rw [hcl]
  exact h_newqE hV0 hA0 hS hA kk
theorem h_newqA (hexec : p.tables.exec = Jvm.exec) (hb : c.code = cc) {own : String} {index : Nat} {t : Nat} {ty : FieldType} (hao : hAA ty s) (ht : (hTs G)[t]? = some (G.2 t, .array ty)) (hown : s.vm.findClass own = some m.cls) (hclink : (Cond.classLink own index (FieldType.array ty).toString).before args s = true) (hK0 : hK G s) (hV0 : hV G hp H) (hA0 : hIn A hp) (hS : va_S A H0 H locs) (hA : ∀ q : Nat, H0.size ≤ q → A q)
    {n : Nat} (hn : n < 2 ^ 20) (hcells : cells + 1 ≤ R.cells) (hslots : slots + n ≤ R.slots) (hdg : decode cc pc = .ok (.anewarray index, 3))
    (kk : ∀ (q : Nat) (H1 : Heap), hp q = none → hV G (hput hp q (eQ t n (fun _ => none))) H1 → hIn A (hput hp q (eQ t n (fun _ => none))) → va_S A H0 H1 locs → W p l e R s m args below meth c H1 locs (cells + 1) (slots + n) Q (F0 m (pc + 3) ls (.ref q :: rest))) : W p l e R s m args below meth c H locs cells slots Q (F0 m pc ls (.int (nI n) :: rest)) := by
  have hcl : (nI n).toNatClampNeg = n := nI_clamp (by omega)
  refine W.anewA hexec hb hown hclink (hAA.use hao) rfl hdg rfl (nI_pos (by omega)) (by rw [hcl]; omega) hcells (by rw [hcl]; exact hslots) fun cA kA comp f1 f2 f3 f4 => ?_
  have hc : cA = G.2 t := Option.some.inj (f1.symm.trans (hK0.1.2 t _ ht).2)
  subst hc
  rw [hcl]
  exact h_newqE hV0 hA0 hS hA kk
theorem h_aastE (hexec : p.tables.exec = Jvm.exec) (hb : c.code = cc) (hV0 : hV G hp H) (hA0 : hIn A hp) (hS : va_S A H0 H locs) {t n v : Nat} {f : Nat → Option Nat} {cv : Cell} {k kv kc : Class} {comp : ClassId} {ty : FieldType} (he : hp a = some (eQ t n f)) (hk : s.vm.classes[G.2 t]? = some k) (hkind : k.kind = .array comp ty) (href : ty.isReference = true) (hkc : s.vm.classes[comp]? = some kc)
    (hv : H[v]? = some cv) (hvo : cv.vm.isStatics = false) (hkv : s.vm.classes[cv.cls]? = some kv) (hasg : s.vm.assignable cv.cls comp = true) {i : Nat} (hi : i < n) (hn : n < 2 ^ 31) (hdg : decode cc pc = .ok (.aastore, 1))
    (kk : ∀ (H1 : Heap) (locs1 : List Loc), hV G (hput hp a (eQ t n (va_up f i (some v)))) H1 → hIn A (hput hp a (eQ t n (va_up f i (some v)))) → va_S A H0 H1 locs1 → W p l e R s m args below meth c H1 locs1 cells slots Q (F0 m (pc + 1) ls rest)) : W p l e R s m args below meth c H locs cells slots Q (F0 m pc ls (.ref v :: .int (nI i) :: .ref a :: rest)) := by
  have hcl : (nI i).toNatClampNeg = i := nI_clamp (show i < 2 ^ 31 by omega)
  refine W.aast hexec hb (hV0 a _ he) (fun q h => by cases h) (fun h => by cases h) hk hkind href hkc ⟨nI_pos (by omega), by show _ < (arrV _ _ _).slots.size; rw [arrV_size, hcl]; exact hi⟩ hv (fun q h => by rw [h] at hvo; cases hvo) hkv hasg rfl rfl hdg fun H1 e z oq => ?_
  refine kk H1 _ (hV0.put (e := eQ t n (va_up f i (some v))) ?_ oq) (hA0.put (hA0 a _ he)) (hS.put z oq (hA0 a _ he))
  show H1[a]? = some (vp_cell _ _)
  rw [e, hcl]
  rw [vp_cell_q, vp_cell_q, arrV_store]
  congr 2
  funext q
  by_cases hq : q = i
  · subst hq
    simp [updV, va_up, va_rf]
  · simp [updV, va_up, hq]
theorem h_aastO (hexec : p.tables.exec = Jvm.exec) (hb : c.code = cc) (hK0 : hK G s) (hV0 : hV G hp H) (hA0 : hIn A hp) (hS : va_S A H0 H locs) {n v : Nat} {f : Nat → Option Nat} {fs : List Value} (he : hp a = some (eQ 2 n f)) (hv : hp v = some (eO 1 fs)) {i : Nat} (hi : i < n) (hn : n < 2 ^ 31) (hdg : decode cc pc = .ok (.aastore, 1))
    (kk : ∀ (H1 : Heap) (locs1 : List Loc), hV G (hput hp a (eQ 2 n (va_up f i (some v)))) H1 → hIn A (hput hp a (eQ 2 n (va_up f i (some v)))) → va_S A H0 H1 locs1 → W p l e R s m args below meth c H1 locs1 cells slots Q (F0 m (pc + 1) ls rest)) : W p l e R s m args below meth c H locs cells slots Q (F0 m pc ls (.ref v :: .int (nI i) :: .ref a :: rest)) := by
  obtain ⟨cell, g1, g2, g3⟩ := h_recv hK0 hV0 hv (q := (RX1, TX1, 6)) rfl
  obtain ⟨kA, comp, k1, k2, k3, -⟩ := (hK0.1.2 2 _ rfl).2
  have hcomp : comp = cell.cls := Option.some.inj (k3.symm.trans g3)
  obtain ⟨kC, hkC, -⟩ := Vm.findClass_spec k3
  exact h_aastE hexec hb hV0 hA0 hS he k1 k2 rfl hkC g1 g2 (by rw [← hcomp]; exact hkC) (by rw [hcomp]; exact va_asg _ _) hi hn hdg kk
theorem h_aastI (hexec : p.tables.exec = Jvm.exec) (hb : c.code = cc) (hK0 : hK G s) (hV0 : hV G hp H) (hA0 : hIn A hp) (hS : va_S A H0 H locs) {n v n2 : Nat} {f : Nat → Option Nat} {g : Nat → Int32} (he : hp a = some (eQ 3 n f)) (hv : hp v = some (eI n2 g)) {i : Nat} (hi : i < n) (hn : n < 2 ^ 31) (hdg : decode cc pc = .ok (.aastore, 1))
    (kk : ∀ (H1 : Heap) (locs1 : List Loc), hV G (hput hp a (eQ 3 n (va_up f i (some v)))) H1 → hIn A (hput hp a (eQ 3 n (va_up f i (some v)))) → va_S A H0 H1 locs1 → W p l e R s m args below meth c H1 locs1 cells slots Q (F0 m (pc + 1) ls rest)) : W p l e R s m args below meth c H locs cells slots Q (F0 m pc ls (.ref v :: .int (nI i) :: .ref a :: rest)) := by
  obtain ⟨k, kc, k1, k2, k3⟩ := hkdA hK0
  exact h_aastE hexec hb hV0 hA0 hS he k1 k2 rfl k3 (hV0 v _ hv) rfl k3 (va_asg _ _) hi hn hdg kk
theorem h_aastA (hexec : p.tables.exec = Jvm.exec) (hb : c.code = cc) (hK0 : hK G s) (hV0 : hV G hp H) (hA0 : hIn A hp) (hS : va_S A H0 H locs) {n v n2 : Nat} {f g : Nat → Option Nat} (he : hp a = some (eQ 4 n f)) (hv : hp v = some (eQ 3 n2 g)) {i : Nat} (hi : i < n) (hn : n < 2 ^ 31) (hdg : decode cc pc = .ok (.aastore, 1))
    (kk : ∀ (H1 : Heap) (locs1 : List Loc), hV G (hput hp a (eQ 4 n (va_up f i (some v)))) H1 → hIn A (hput hp a (eQ 4 n (va_up f i (some v)))) → va_S A H0 H1 locs1 → W p l e R s m args below meth c H1 locs1 cells slots Q (F0 m (pc + 1) ls rest)) : W p l e R s m args below meth c H locs cells slots Q (F0 m pc ls (.ref v :: .int (nI i) :: .ref a :: rest)) := by
  obtain ⟨k, kc, k1, k2, k3⟩ := hkdB hK0
  exact h_aastE hexec hb hV0 hA0 hS he k1 k2 rfl k3 (hV0 v _ hv) rfl k3 (va_asg _ _) hi hn hdg kk
theorem h_aastB (hexec : p.tables.exec = Jvm.exec) (hb : c.code = cc) (hK0 : hK G s) (hV0 : hV G hp H) (hA0 : hIn A hp) (hS : va_S A H0 H locs) {n v n2 : Nat} {f g : Nat → Option Nat} (he : hp a = some (eQ 5 n f)) (hv : hp v = some (eQ 4 n2 g)) {i : Nat} (hi : i < n) (hn : n < 2 ^ 31) (hdg : decode cc pc = .ok (.aastore, 1))
    (kk : ∀ (H1 : Heap) (locs1 : List Loc), hV G (hput hp a (eQ 5 n (va_up f i (some v)))) H1 → hIn A (hput hp a (eQ 5 n (va_up f i (some v)))) → va_S A H0 H1 locs1 → W p l e R s m args below meth c H1 locs1 cells slots Q (F0 m (pc + 1) ls rest)) : W p l e R s m args below meth c H locs cells slots Q (F0 m pc ls (.ref v :: .int (nI i) :: .ref a :: rest)) := by
  obtain ⟨k, kc, k1, k2, k3⟩ := hkdC hK0
  exact h_aastE hexec hb hV0 hA0 hS he k1 k2 rfl k3 (hV0 v _ hv) rfl k3 (va_asg _ _) hi hn hdg kk
end HQ
