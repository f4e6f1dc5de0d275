/-! rows that copy, that make -/
section HC
variable {p : Program} {l : Launch} {e : Env} {R : Room} {s : State} {m : MethodId} {args : Array Value} {below : List Frame} {meth : Method} {c : Code} {H : Heap} {locs : List Loc} {cells slots : Nat} {Q : State → Prop}
variable {cc : ByteArray} {pc : Nat} {ls : Array Slot} {rest st0 : List Value} {G : hG} {hp : HP} {A : Nat → Prop} {a : Nat} {H0 : Heap} {mc ms : Nat}
theorem h_copyi (hexec : p.tables.exec = Jvm.exec) (hb : c.code = cc) (hml : c.maxLocals = ls.size) {own : String} {index : Nat} (hown : s.vm.findClass own = some m.cls) (hlink : (Cond.methodLink own index arraycopyName).before args s = true) (hnat : (Cond.native arraycopyName).before args s = true) (hstat : (Cond.static arraycopyName).before args s = true) (hini : (Cond.initialized "java/lang/System").before args s = true)
    (hK0 : hK G s) (hV0 : hV G hp H) (hA0 : hIn A hp) (hS : va_S A H0 H locs) {a0 n0 n1 : Nat} {f g : Nat → Int32} (ha0 : hp a0 = some (eI n0 f)) (ha1 : hp a = some (eI n1 g))
    {sp dp n : Nat} (h4 : sp + n ≤ n0) (h5 : dp + n ≤ n1) (hn0 : n0 < 2 ^ 31) (hn1 : n1 < 2 ^ 31)
    (hframes : 1 ≤ R.frames) (hlocals : (rest.map fun v => v.category).sum + (nativeFrameWords "java/lang/System" "arraycopy" 5 + 11) ≤ R.locals) (hdg : decode cc pc = .ok (.invokestatic index, 3))
    (kk : ∀ (H1 : Heap) (locs1 : List Loc), hV G (hput hp a (eI n1 (va_cpy f g sp dp n))) H1 → hIn A (hput hp a (eI n1 (va_cpy f g sp dp n))) → va_S A H0 H1 locs1 → W p l e R s m args below meth c H1 locs1 cells slots Q (F0 m (pc + 3) ls rest)) : W p l e R s m args below meth c H locs cells slots Q (F0 m pc ls (.int (nI n) :: .int (nI dp) :: .ref a :: .int (nI sp) :: .ref a0 :: rest)) := by
  intro T hT X
  have hc0 : H[a0]? = some (vp_cell (G.2 0) (n0, .inl f)) := hV0 a0 _ ha0
  have hc1 : H[a]? = some (vp_cell (G.2 0) (n1, .inl g)) := hV0 a _ ha1
  obtain ⟨-, k0, hk0, cm0, hkk0⟩ := (hK0.1.2 0 _ rfl).1 n0 (fun j => .int (f j))
  obtain ⟨-, k1, hk1, cm1, hkk1⟩ := (hK0.1.2 0 _ rfl).1 n1 (fun j => .int (g j))
  have esp : (nI sp).toNatClampNeg = sp := nI_clamp (by omega)
  have edp : (nI dp).toNatClampNeg = dp := nI_clamp (by omega)
  have en : (nI n).toNatClampNeg = n := nI_clamp (by omega)
  have tsp : (nI sp).toInt = (sp : Int) := nI_toInt (by omega)
  have tdp : (nI dp).toInt = (dp : Int) := nI_toInt (by omega)
  have tn : (nI n).toInt = (n : Int) := nI_toInt (by omega)
  obtain ⟨vm', X', step⟩ := X.arraycopy hexec hown hlink hnat hstat hini (src := a0) (dst := a) (cs := vp_cell (G.2 0) (n0, .inl f)) (cd := vp_cell (G.2 0) (n1, .inl g)) (srcPos := nI sp) (destPos := nI dp) (n := nI n) (by rw [hT]; exact hc0) (by rw [hT]; exact hc1)
    (fun _ h => by cases h) (fun _ h => by cases h) (fun h => by cases h) (fun h => by cases h) hk0 hk1 hkk0 hkk1 (by rfl) (nI_pos (by omega)) (nI_pos (by omega)) (nI_pos (by omega))
    (by rw [tsp, tn]; show ¬ _ > ((arrV (G.2 0) n0 (fun j => .int (f j))).slots.size : Int); rw [arrV_size]; omega)
    (by rw [tdp, tn]; show ¬ _ > ((arrV (G.2 0) n1 (fun j => .int (g j))).slots.size : Int); rw [arrV_size]; omega)
    (fun vm₁ _ i hi => by
      rw [en] at hi
      have e : (vp_cell (G.2 0) (n0, .inl f)).slots.getD ((nI sp).toNatClampNeg + i) .null = .int (f (sp + i)) := by
        show (arrV (G.2 0) n0 (fun j => .int (f j))).slots.getD _ _ = _
        rw [esp, Array.getD_eq_getD_getElem?, arrV_read _ _ (by omega)]
        rfl
      refine ⟨?_, ?_⟩
      · rw [e]
        rfl
      · rw [e]
        exact trivial)
    (g := F0 m pc ls (.int (nI n) :: .int (nI dp) :: .ref a :: .int (nI sp) :: .ref a0 :: rest)) rfl (by rw [hml]) (rest := rest) rfl (by rw [hb]; exact hdg) hframes (by show 2 * 0 + _ + _ ≤ _; omega)
  have e1 : copied (vp_cell (G.2 0) (n0, .inl f)) (vp_cell (G.2 0) (n1, .inl g)) (nI sp) (nI dp) (nI n) = vp_cell (G.2 0) (n1, .inl (va_cpy f g sp dp n)) := by
    have h9 : copied (vp_cell (G.2 0) (n0, .inl f)) (vp_cell (G.2 0) (n1, .inl g)) (nI sp) (nI dp) (nI n) = vp_cell (G.2 0) (n1, .inl (va_cpy f g (nI sp).toNatClampNeg (nI dp).toNatClampNeg (nI n).toNatClampNeg)) := va_copied (fun z => .int z) (G.2 0) (G.2 0) f g (by rw [esp, en]; exact h4)
    rw [esp, edp, en] at h9
    exact h9
  rw [e1] at X' step
  have hl : a < H.size := (Array.getElem?_eq_some_iff.mp hc1).1
  have hheap : ((T.setVm vm').setCell a (vp_cell (G.2 0) (n1, .inl (va_cpy f g sp dp n)))).heap = H.setIfInBounds a (vp_cell (G.2 0) (n1, .inl (va_cpy f g sp dp n))) := by rw [← hT]; rfl
  have oq : ∀ q : Nat, q ≠ a → (H.setIfInBounds a (vp_cell (G.2 0) (n1, .inl (va_cpy f g sp dp n))))[q]? = H[q]? := fun q hq => by simp [Array.getElem?_setIfInBounds, Ne.symm hq]
  obtain ⟨t, a1, b1⟩ := kk _ _ (hV0.put (e := eI n1 (va_cpy f g sp dp n)) (show (H.setIfInBounds a _)[a]? = some _ by simp [Array.getElem?_setIfInBounds, hl]) oq) (hA0.put (hA0 a _ ha1)) ⟨by simp; exact hS.1, fun q g1 g2 => by
      rw [oq q (fun e => g2 (by rw [e]; exact hA0 a _ ha1))]
      exact hS.2.1 q g1 g2, fun q hq => by
      rcases List.mem_append.mp hq with h | h
      · exact hS.2.2 q h
      · obtain ⟨z, -, hz⟩ := List.mem_map.mp h
        rw [← hz]
        exact hA0 a _ ha1⟩ _ hheap X'
  exact ⟨t, step t a1, b1⟩
theorem h_newI (hexec : p.tables.exec = Jvm.exec) (hb : c.code = cc) (harr : (Cond.arrayClass .int).before args s = true) (hK0 : hK G s) (hV0 : hV G hp H) (hA0 : hIn A hp) (hS : va_S A H0 H locs) (hA : ∀ q : Nat, H0.size ≤ q → A q)
    {n : Nat} (hn : n < 2 ^ 20) (hcells : cells + 1 ≤ R.cells) (hslots : slots + n ≤ R.slots) (hdg : decode cc pc = .ok (.newarray .int, 2))
    (kk : ∀ (q : Nat) (H1 : Heap), hp q = none → hV G (hput hp q (eI n (fun _ => 0))) H1 → hIn A (hput hp q (eI n (fun _ => 0))) → va_S A H0 H1 locs → W p l e R s m args below meth c H1 locs (cells + 1) (slots + n) Q (F0 m (pc + 2) ls (.ref q :: rest))) : W p l e R s m args below meth c H locs cells slots Q (F0 m pc ls (.int (nI n) :: rest)) := by
  refine va_newaK (atype := .int) hexec hb harr rfl hdg rfl (nI_pos (by omega)) (nI_clamp (by omega)) (by show n * 4 ≤ _; omega) hcells hslots rfl fun H1 cA e1 z1 o1 hAr hNm => ?_
  have hc : cA = G.2 0 := Option.some.inj (hNm.symm.trans (hK0.1.2 0 _ rfl).2)
  subst hc
  exact kk H.size H1 (hV0.none (Nat.le_refl _)) (hV0.new (e := eI n (fun _ => 0)) rfl e1 o1) (hA0.put (hA _ hS.1)) ⟨Nat.le_trans hS.1 (by omega), fun x h1 h2 => (o1 x (Nat.lt_of_lt_of_le h1 hS.1)).trans (hS.2.1 x h1 h2), hS.2.2⟩
theorem h_new (hexec : p.tables.exec = Jvm.exec) (hb : c.code = cc) {own C : String} {T : u_T} {N ci index : Nat} {Ts : List Cond} (hts : ∀ w ∈ Ts, w.before args s = true) (hin : ∀ w ∈ u_ws C T N, w ∈ Ts) (ty : Nat → FieldType) (hty : ∀ k, k < N → parseFieldDescriptor (T k).2.2.1 = some (ty k)) (hown : s.vm.findClass own = some m.cls) (hcl : (Cond.classLink own index C).before args s = true) (hinst : (Cond.instantiable C N).before args s = true) (hini : (Cond.initialized C).before args s = true)
    (hK0 : hK G s) (hV0 : hV G hp H) (hA0 : hIn A hp) (hS : va_S A H0 H locs) (hA : ∀ q : Nat, H0.size ≤ q → A q) (hc : vwCl[ci]? = some (C, T, N)) {fs : List Value} (hfs : ∀ j, j < N → defaultValue (ty j) = vp_V fs j) (hcells : cells + 1 ≤ R.cells) (hslots : slots + N ≤ R.slots) (hdg : decode cc pc = .ok (.new index, 3))
    (kk : ∀ (q : Nat) (H1 : Heap), hp q = none → hV G (hput hp q (eO ci fs)) H1 → hIn A (hput hp q (eO ci fs)) → va_S A H0 H1 locs → W p l e R s m args below meth c H1 locs (cells + 1) (slots + N) Q (F0 m (pc + 3) ls (.ref q :: rest))) : W p l e R s m args below meth c H locs cells slots Q (F0 m pc ls rest) := by
  have hKn := hK0.1.1 ci _ hc
  refine W.newcK hexec hb hown hcl hinst hini rfl hdg hcells hslots hKn.2.1 rfl fun H1 kC hkC e1 z1 o1 => ?_
  exact kk H.size H1 (hV0.none (Nat.le_refl _)) (hV0.new (e := eO ci fs) rfl ⟨_, hc, (u_born ty hts hin hKn hkC e1 hty).to hfs⟩ o1) (hA0.put (hA _ hS.1)) ⟨Nat.le_trans hS.1 (by omega), fun x h1 h2 => (o1 x (Nat.lt_of_lt_of_le h1 hS.1)).trans (hS.2.1 x h1 h2), hS.2.2⟩
end HC
theorem hput_mid (hp : HP) (a w : Nat) (e1 e2 x : hE) : hput (hput (hput hp a e1) w x) a e2 = hput (hput hp w x) a e2 := by
  funext q
  by_cases h1 : q = a
  · simp [hput, h1]
  · by_cases h2 : q = w <;> simp [hput, h1, h2]
def fillF (v : Int32) (f : Nat → Int32) (i : Nat) : Nat → Int32 := fun k => if k < i then v else f k
theorem fillF_0 (v : Int32) (f : Nat → Int32) : fillF v f 0 = f := by funext k; simp [fillF]
theorem fillF_s (v : Int32) (f : Nat → Int32) (i : Nat) : upd (fillF v f i) i v = fillF v f (i + 1) := by
  funext k
  by_cases h : k = i
  · subst h; simp [upd, fillF]
  · by_cases h2 : k < i
    · simp [upd, fillF, h, h2, Nat.lt_succ_of_lt h2]
    · have : ¬ k < i + 1 := by omega
      simp [upd, fillF, h, h2, this]
theorem hV.reI {G : hG} {hp : HP} {H : Heap} {a n : Nat} {f g : Nat → Int32} (h : hV G (hput hp a (eI n f)) H) (hfg : ∀ j, j < n → f j = g j) : hV G (hput hp a (eI n g)) H := by
  intro q x hx
  by_cases h1 : q = a
  · subst h1
    rw [hput_s] at hx
    cases hx
    exact hat_congr (h q _ (hput_s _ _ _)) hfg
  · rw [hput_n _ _ h1] at hx
    exact h q x (by rw [hput_n _ _ h1]; exact hx)
theorem hIn.re {A : Nat → Prop} {hp : HP} {a : Nat} {e e2 : hE} (h : hIn A (hput hp a e)) : hIn A (hput hp a e2) := by
  intro q x hx
  by_cases h1 : q = a
  · subst h1
    exact h q e (hput_s _ _ _)
  · rw [hput_n _ _ h1] at hx
    exact h q x (by rw [hput_n _ _ h1]; exact hx)
