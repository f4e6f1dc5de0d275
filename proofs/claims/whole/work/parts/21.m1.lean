/-! THE MODEL: its rows (-1 no slip, -2 a tomb) -/
section HM
variable {p : Program} {l : Launch} {e : Env} {R : Room} {s : State} {m : MethodId} {args : Array Value} {below : List Frame} {meth : Method} {c : Code} {H : Heap} {locs : List Loc} {cells slots : Nat} {Q : State → Prop}
variable {cc : ByteArray} {pc : Nat} {ls : Array Slot} {rest st0 : List Value} {G : hG} {hp : HP} {A : Nat → Prop} {a : Nat} {H0 : Heap} {mc ms : Nat}
theorem h_ialdS {n : Nat} {f : Nat → Int32} {i : Nat} {x : Int32} (hfx : f i = x) (hexec : p.tables.exec = Jvm.exec) (hb : c.code = cc) (hK0 : hK G s) (hV0 : hV G hp H) (he : hp a = some (eI n f)) (hi : i < n) (hn : n < 2 ^ 31) (hdg : decode cc pc = .ok (.iaload, 1))
    (kk : W p l e R s m args below meth c H locs cells slots Q (F0 m (pc + 1) ls (.int x :: rest))) : W p l e R s m args below meth c H locs cells slots Q (F0 m pc ls (.int (nI i) :: .ref a :: rest)) := by
  subst hfx
  exact h_iald hexec hb hK0 hV0 he hi hn hdg kk
theorem h_aaldS {t n : Nat} {ty : FieldType} {f : Nat → Option Nat} {i x : Nat} (hfx : f i = some x) (hexec : p.tables.exec = Jvm.exec) (hb : c.code = cc) (hK0 : hK G s) (hV0 : hV G hp H) (he : hp a = some (eQ t n f)) (ht : (hTs G)[t]? = some (G.2 t, ty)) (hr : ty.isReference = true) (hi : i < n) (hn : n < 2 ^ 31) (hdg : decode cc pc = .ok (.aaload, 1))
    (kk : W p l e R s m args below meth c H locs cells slots Q (F0 m (pc + 1) ls (.ref x :: rest))) : W p l e R s m args below meth c H locs cells slots Q (F0 m pc ls (.int (nI i) :: .ref a :: rest)) :=
  h_aald hexec hb hK0 hV0 he ht hr hi hn hdg (by rw [hfx]; exact kk)
end HM
def sw (v : Int32) : Int32 := if v = -2 then -1 else if v = -1 then -2 else v
theorem sw_2 : sw (-2) = -1 := by decide
theorem sw_1 : sw (-1) = -2 := by decide
theorem sw_e {v : Int32} (h1 : v ≠ -2) (h2 : v ≠ -1) : sw v = v := by
  unfold sw
  rw [if_neg h1, if_neg h2]
theorem sw_sw (v : Int32) : sw (sw v) = v := by
  by_cases h1 : v = -2
  · rw [h1, sw_2, sw_1]
  · by_cases h2 : v = -1
    · rw [h2, sw_1, sw_2]
    · rw [sw_e h1 h2, sw_e h1 h2]
theorem sw_n1 {v : Int32} : sw v = -1 ↔ v = -2 := ⟨fun h => by rw [← sw_sw v, h, sw_1], fun h => by rw [h, sw_2]⟩
theorem sw_n2 {v : Int32} : sw v = -2 ↔ v = -1 := ⟨fun h => by rw [← sw_sw v, h, sw_2], fun h => by rw [h, sw_1]⟩
theorem sw_hf {f : Row} {k : Nat} (h : sw (f k) = -1) : hasR f k = false := by
  simp [hasR, sw_n1.mp h]
theorem sw_ht {f : Row} {k : Nat} (h : ¬ sw (f k) = -1) : hasR f k = true := hasR_true (fun z => h (sw_n1.mpr z))
theorem sw_tt {f : Row} {k : Nat} (h : sw (f k) = -2) : isT f k = true := decide_eq_true (sw_n2.mp h)
theorem sw_tf {f : Row} {k : Nat} (h : ¬ sw (f k) = -2) : isT f k = false := decide_eq_false (fun z => h (sw_n2.mpr z))
def mR (hp : HP) (a : Nat) (f : Row) : Prop := ∃ F : Nat → Int32, hp a = some (eI 64 F) ∧ ∀ k, k < 64 → F k = sw (f k)
theorem opR_t {f : Row} {h j : Nat} (hj : j < 8) (hh : hasR f (h + 8 * j) = true) : opR f h = true := by
  unfold opR
  rcases (show j = 0 ∨ j = 1 ∨ j = 2 ∨ j = 3 ∨ j = 4 ∨ j = 5 ∨ j = 6 ∨ j = 7 by omega) with q | q | q | q | q | q | q | q <;> subst q <;> simp at hh <;> simp [hh]
theorem opR_f {f : Row} {h : Nat} (hh : ∀ j, j < 8 → hasR f (h + 8 * j) = false) : opR f h = false := by
  unfold opR
  have h0 := hh 0 (by omega)
  have h1 := hh 1 (by omega)
  have h2 := hh 2 (by omega)
  have h3 := hh 3 (by omega)
  have h4 := hh 4 (by omega)
  have h5 := hh 5 (by omega)
  have h6 := hh 6 (by omega)
  have h7 := hh 7 (by omega)
  simp at h0 h1 h2 h3 h4 h5 h6 h7
  simp [h0, h1, h2, h3, h4, h5, h6, h7]
theorem cnt_ex {p : Nat → Bool} {k : Nat} : ∀ {m : Nat}, k < cntB p m → ∃ y, y < m ∧ p y = true ∧ cntB p y = k
  | 0, h => absurd h (Nat.not_lt_zero _)
  | m + 1, h => by
    rw [cntB_s] at h
    by_cases h1 : k < cntB p m
    · obtain ⟨y, h2, h3, h4⟩ := cnt_ex h1
      exact ⟨y, by omega, h3, h4⟩
    · by_cases h2 : p m = true
      · rw [if_pos h2] at h
        exact ⟨m, Nat.lt_succ_self m, h2, by omega⟩
      · rw [if_neg h2] at h
        omega
theorem nth_at {f : Row} {k : Nat} (h : k < szR f) : nthR f k < 64 ∧ hasR f (nthR f k) = true ∧ cntB (hasR f) (nthR f k) = k := by
  obtain ⟨y, h1, h2, h3⟩ := cnt_ex (p := hasR f) (m := 64) h
  rw [nthR_of h1 h2 h3]
  exact ⟨h1, h2, h3⟩
theorem nth_lo {f : Row} (h : 0 < szR f) : ∀ k, 0 ≤ k → k < nthR f 0 → hasR f k = false := fun k _ hk => by
  obtain ⟨h1, h2, h3⟩ := nth_at h
  cases hq : hasR f k with
  | false => rfl
  | true =>
    have h4 : cntB (hasR f) (k + 1) = cntB (hasR f) k + 1 := cntB_y hq
    have h5 := cntB_mono (hasR f) (k + 1) (nthR f 0) (by omega)
    omega
theorem nth_up {f : Row} {k : Nat} (h : k + 1 < szR f) : nthR f k + 1 ≤ nthR f (k + 1) ∧ ∀ j, nthR f k + 1 ≤ j → j < nthR f (k + 1) → hasR f j = false := by
  obtain ⟨h1, h2, h3⟩ := nth_at (f := f) (k := k) (by omega)
  obtain ⟨g1, g2, g3⟩ := nth_at h
  have h4 : cntB (hasR f) (nthR f k + 1) = cntB (hasR f) (nthR f k) + 1 := cntB_y h2
  refine ⟨?_, fun j hj hk => ?_⟩
  · by_cases q : nthR f k + 1 ≤ nthR f (k + 1)
    · exact q
    · have := cntB_mono (hasR f) (nthR f (k + 1)) (nthR f k) (by omega)
      omega
  · cases hq : hasR f j with
    | false => rfl
    | true =>
      have h5 : cntB (hasR f) (j + 1) = cntB (hasR f) j + 1 := cntB_y hq
      have h6 := cntB_mono (hasR f) (j + 1) (nthR f (k + 1)) (by omega)
      have h7 := cntB_mono (hasR f) (nthR f k + 1) j hj
      omega
theorem tld_t {f : Row} {n : Nat} (h : sw (f n) = -2) : -1 - nI n = toldR f n := (if_pos (sw_n2.mp h)).symm
theorem tld_n {f : Row} {n : Nat} (hh : hasR f n = true) (h : ¬ sw (f n) = -2) : nI 100 * nI n + sw (f n) = toldR f n := by
  unfold toldR
  have h1 : ¬ f n = -1 := fun z => h (sw_n2.mpr z)
  rw [if_neg h1, sw_e (fun z => by simp [hasR, z] at hh) h1]

set_option maxHeartbeats 1000000 in
set_option maxRecDepth 100000 in
theorem c_X3_size (l : Launch) (G : hG) (hp : HP) (a : Nat) (f : Row) (hmr : mR hp a f) : hRd l yX3_size wsX3_size 0 0 G hp [.ref a] (some (.int (nI (szR f)))) := by
  refine Met.ofW (cc := cX3_size) (maxL := 6) (ret := (some .int)) (by decide) rfl ?_
  intro p e s m args below meth c s₁ B hml hv
  obtain ⟨rfl, hV0, hK0⟩ := hv
  have hx := B.exec
  have hb := B.bytes
  have hr := B.returns
  have hts := atoms_spec (ws := wsX3_size) B.pre
  have hown : s.vm.findClass RX3 = some m.cls := findClass_of_methodNamed B.named
  have hlocks := B.notSynchronized
  have hF : CallFix p m c cX3_size 6 s [.ref a].toArray wsX3_size RX3 := ⟨hx, hb, hml, hown, hts⟩
  have hl := lv_entry ([.ref a]) (n := 6) (Nat.le_of_ble_eq_true rfl)
  rw [lg_entry_eq]
  generalize (lg_sl ([.ref a]) ++ List.replicate (6 - (lg_sl ([.ref a])).length) Slot.unset).toArray = ls at hl ⊢
  replace hl : lv_has ls 6 [(0, .ref a)] := hl
  obtain ⟨F, hFe, hFs⟩ := hmr
  refine lv_iconst (v := nI 0) hx hb dX3_size_0 (by decide) ?_
  refine lv_istore_n (lv' := [(1, .int (nI 0)), (0, .ref a)]) hx hb dX3_size_1 rfl hl (by decide) rfl (fun ls hl => ?_)
  refine lv_aload_n hx hb dX3_size_2 rfl (lv_at hl 1 rfl) ?_
  refine lv_astore_n (lv' := [(2, .ref a), (1, .int (nI 0)), (0, .ref a)]) hx hb dX3_size_3 rfl hl (by decide) rfl (fun ls hl => ?_)
  refine lv_aload_n hx hb dX3_size_4 rfl (lv_at hl 0 rfl) ?_
  refine h_alen hx hb hK0 hV0 hFe rfl dX3_size_5 ?_
  refine lv_istore_n (lv' := [(3, .int (nI 64)), (2, .ref a), (1, .int (nI 0)), (0, .ref a)]) hx hb dX3_size_6 rfl hl (by decide) rfl (fun ls hl => ?_)
  refine lv_iconst (v := nI 0) hx hb dX3_size_7 (by decide) ?_
  refine lv_istore (lv' := [(4, .int (nI 0)), (3, .int (nI 64)), (2, .ref a), (1, .int (nI 0)), (0, .ref a)]) hx hb dX3_size_8 hl (by decide) rfl (fun ls hl => ?_)
  replace hl : lv_has ls 6 [(4, .int (nI 0)), (1, .int (nI (cntB (hasR f) 0))), (3, .int (nI 64)), (2, .ref a), (0, .ref a)] := lv_sub hl [0, 3, 1, 2, 4] rfl
  revert ls
  refine h_loop 64 (fun i => [(4, .int (nI i)), (1, .int (nI (cntB (hasR f) i))), (3, .int (nI 64)), (2, .ref a), (0, .ref a)]) (fun i => True) (fun i hi10 hI10 ih10 ls hl => ?_) 0 (Nat.zero_le _) trivial
  refine lv_iload hx hb dX3_size_10 (lv_at hl 0 rfl) ?_
  refine lv_iload_n hx hb dX3_size_12 rfl (lv_at hl 2 rfl) ?_
  refine h_icmp_ge (a := i) (b := 64) (tgt := 42) hx hb dX3_size_13 (by decide) (by omega) (by omega) (fun c_13 => ?_) (fun c_13 => ?_)
  · refine lv_iload_n hx hb dX3_size_42 rfl (lv_at hl 1 rfl) ?_
    exact h_iretR hx hb hr hlocks (by rw [show i = 64 by omega]; rfl) dX3_size_43
  · refine lv_aload_n hx hb dX3_size_16 rfl (lv_at hl 3 rfl) ?_
    refine lv_iload hx hb dX3_size_17 (lv_at hl 0 rfl) ?_
    refine h_ialdS (i := i) (x := (sw (f i))) (hFs _ (by omega)) hx hb hK0 hV0 hFe (by omega) (by omega) dX3_size_19 ?_
    refine lv_istore (lv' := [(5, .int (sw (f i))), (4, .int (nI i)), (1, .int (nI (cntB (hasR f) i))), (3, .int (nI 64)), (2, .ref a), (0, .ref a)]) hx hb dX3_size_20 hl (by decide) rfl (fun ls hl => ?_)
    refine lv_iload_n hx hb dX3_size_22 rfl (lv_at hl 2 rfl) ?_
    refine lv_iload hx hb dX3_size_23 (lv_at hl 0 rfl) ?_
    refine lv_iconst (v := (-1)) hx hb dX3_size_25 (by decide) ?_
    refine lv_icmp_ne (tgt := 33) hx hb dX3_size_26 (by decide) (fun c_26 => ?_) (fun c_26 => ?_)
    · refine lv_iconst (v := nI 1) hx hb dX3_size_33 (by decide) ?_
      refine h_iaddN hx hb dX3_size_34 ?_
      refine lv_istore_n (lv' := [(1, .int (nI (cntB (hasR f) i + 1))), (5, .int (sw (f i))), (4, .int (nI i)), (3, .int (nI 64)), (2, .ref a), (0, .ref a)]) hx hb dX3_size_35 rfl hl (by decide) rfl (fun ls hl => ?_)
      refine lv_iinc (v := nI (i + 1)) (lv' := [(4, .int (nI (i + 1))), (1, .int (nI (cntB (hasR f) i + 1))), (5, .int (sw (f i))), (3, .int (nI 64)), (2, .ref a), (0, .ref a)]) hx hb dX3_size_36 hl (k := 2) rfl (nI_add (i) 1) (by decide) rfl (fun ls hl => ?_)
      refine lv_goto (tgt := 10) hx hb dX3_size_39 (by decide) ?_
      exact ih10 (by omega) trivial ls (by show lv_has ls 6 [(4, .int (nI (i + 1))), (1, .int (nI (cntB (hasR f) (i + 1)))), (3, .int (nI 64)), (2, .ref a), (0, .ref a)]; rw [cntB_y (p := hasR f) (sw_ht c_26)]; exact lv_sub hl [0, 1, 3, 4, 5] rfl)
    · refine lv_iconst (v := nI 0) hx hb dX3_size_29 (by decide) ?_
      refine lv_goto (tgt := 34) hx hb dX3_size_30 (by decide) ?_
      refine h_iaddN hx hb dX3_size_34 ?_
      refine lv_istore_n (lv' := [(1, .int (nI (cntB (hasR f) i + 0))), (5, .int (sw (f i))), (4, .int (nI i)), (3, .int (nI 64)), (2, .ref a), (0, .ref a)]) hx hb dX3_size_35 rfl hl (by decide) rfl (fun ls hl => ?_)
      refine lv_iinc (v := nI (i + 1)) (lv' := [(4, .int (nI (i + 1))), (1, .int (nI (cntB (hasR f) i + 0))), (5, .int (sw (f i))), (3, .int (nI 64)), (2, .ref a), (0, .ref a)]) hx hb dX3_size_36 hl (k := 2) rfl (nI_add (i) 1) (by decide) rfl (fun ls hl => ?_)
      refine lv_goto (tgt := 10) hx hb dX3_size_39 (by decide) ?_
      exact ih10 (by omega) trivial ls (by show lv_has ls 6 [(4, .int (nI (i + 1))), (1, .int (nI (cntB (hasR f) (i + 1)))), (3, .int (nI 64)), (2, .ref a), (0, .ref a)]; rw [cntB_n (p := hasR f) (sw_hf c_26)]; exact lv_sub hl [0, 1, 3, 4, 5] rfl)

set_option maxHeartbeats 1000000 in
set_option maxRecDepth 100000 in
theorem c_X3_tombs (l : Launch) (G : hG) (hp : HP) (a : Nat) (f : Row) (hmr : mR hp a f) : hRd l yX3_tombs wsX3_tombs 0 0 G hp [.ref a] (some (.int (nI (tbR f)))) := by
  refine Met.ofW (cc := cX3_tombs) (maxL := 6) (ret := (some .int)) (by decide) rfl ?_
  intro p e s m args below meth c s₁ B hml hv
  obtain ⟨rfl, hV0, hK0⟩ := hv
  have hx := B.exec
  have hb := B.bytes
  have hr := B.returns
  have hts := atoms_spec (ws := wsX3_tombs) B.pre
  have hown : s.vm.findClass RX3 = some m.cls := findClass_of_methodNamed B.named
  have hlocks := B.notSynchronized
  have hF : CallFix p m c cX3_tombs 6 s [.ref a].toArray wsX3_tombs RX3 := ⟨hx, hb, hml, hown, hts⟩
  have hl := lv_entry ([.ref a]) (n := 6) (Nat.le_of_ble_eq_true rfl)
  rw [lg_entry_eq]
  generalize (lg_sl ([.ref a]) ++ List.replicate (6 - (lg_sl ([.ref a])).length) Slot.unset).toArray = ls at hl ⊢
  replace hl : lv_has ls 6 [(0, .ref a)] := hl
  obtain ⟨F, hFe, hFs⟩ := hmr
  refine lv_iconst (v := nI 0) hx hb dX3_tombs_0 (by decide) ?_
  refine lv_istore_n (lv' := [(1, .int (nI 0)), (0, .ref a)]) hx hb dX3_tombs_1 rfl hl (by decide) rfl (fun ls hl => ?_)
  refine lv_aload_n hx hb dX3_tombs_2 rfl (lv_at hl 1 rfl) ?_
  refine lv_astore_n (lv' := [(2, .ref a), (1, .int (nI 0)), (0, .ref a)]) hx hb dX3_tombs_3 rfl hl (by decide) rfl (fun ls hl => ?_)
  refine lv_aload_n hx hb dX3_tombs_4 rfl (lv_at hl 0 rfl) ?_
  refine h_alen hx hb hK0 hV0 hFe rfl dX3_tombs_5 ?_
  refine lv_istore_n (lv' := [(3, .int (nI 64)), (2, .ref a), (1, .int (nI 0)), (0, .ref a)]) hx hb dX3_tombs_6 rfl hl (by decide) rfl (fun ls hl => ?_)
  refine lv_iconst (v := nI 0) hx hb dX3_tombs_7 (by decide) ?_
  refine lv_istore (lv' := [(4, .int (nI 0)), (3, .int (nI 64)), (2, .ref a), (1, .int (nI 0)), (0, .ref a)]) hx hb dX3_tombs_8 hl (by decide) rfl (fun ls hl => ?_)
  replace hl : lv_has ls 6 [(4, .int (nI 0)), (1, .int (nI (cntB (isT f) 0))), (3, .int (nI 64)), (2, .ref a), (0, .ref a)] := lv_sub hl [0, 3, 1, 2, 4] rfl
  revert ls
  refine h_loop 64 (fun i => [(4, .int (nI i)), (1, .int (nI (cntB (isT f) i))), (3, .int (nI 64)), (2, .ref a), (0, .ref a)]) (fun i => True) (fun i hi10 hI10 ih10 ls hl => ?_) 0 (Nat.zero_le _) trivial
  refine lv_iload hx hb dX3_tombs_10 (lv_at hl 0 rfl) ?_
  refine lv_iload_n hx hb dX3_tombs_12 rfl (lv_at hl 2 rfl) ?_
  refine h_icmp_ge (a := i) (b := 64) (tgt := 43) hx hb dX3_tombs_13 (by decide) (by omega) (by omega) (fun c_13 => ?_) (fun c_13 => ?_)
  · refine lv_iload_n hx hb dX3_tombs_43 rfl (lv_at hl 1 rfl) ?_
    exact h_iretR hx hb hr hlocks (by rw [show i = 64 by omega]; rfl) dX3_tombs_44
  · refine lv_aload_n hx hb dX3_tombs_16 rfl (lv_at hl 3 rfl) ?_
    refine lv_iload hx hb dX3_tombs_17 (lv_at hl 0 rfl) ?_
    refine h_ialdS (i := i) (x := (sw (f i))) (hFs _ (by omega)) hx hb hK0 hV0 hFe (by omega) (by omega) dX3_tombs_19 ?_
    refine lv_istore (lv' := [(5, .int (sw (f i))), (4, .int (nI i)), (1, .int (nI (cntB (isT f) i))), (3, .int (nI 64)), (2, .ref a), (0, .ref a)]) hx hb dX3_tombs_20 hl (by decide) rfl (fun ls hl => ?_)
    refine lv_iload_n hx hb dX3_tombs_22 rfl (lv_at hl 2 rfl) ?_
    refine lv_iload hx hb dX3_tombs_23 (lv_at hl 0 rfl) ?_
    refine lv_bipush (v := (-2)) hx hb dX3_tombs_25 (by decide) ?_
    refine lv_icmp_ne (tgt := 34) hx hb dX3_tombs_27 (by decide) (fun c_27 => ?_) (fun c_27 => ?_)
    · refine lv_iconst (v := nI 0) hx hb dX3_tombs_34 (by decide) ?_
      refine h_iaddN hx hb dX3_tombs_35 ?_
      refine lv_istore_n (lv' := [(1, .int (nI (cntB (isT f) i + 0))), (5, .int (sw (f i))), (4, .int (nI i)), (3, .int (nI 64)), (2, .ref a), (0, .ref a)]) hx hb dX3_tombs_36 rfl hl (by decide) rfl (fun ls hl => ?_)
      refine lv_iinc (v := nI (i + 1)) (lv' := [(4, .int (nI (i + 1))), (1, .int (nI (cntB (isT f) i + 0))), (5, .int (sw (f i))), (3, .int (nI 64)), (2, .ref a), (0, .ref a)]) hx hb dX3_tombs_37 hl (k := 2) rfl (nI_add (i) 1) (by decide) rfl (fun ls hl => ?_)
      refine lv_goto (tgt := 10) hx hb dX3_tombs_40 (by decide) ?_
      exact ih10 (by omega) trivial ls (by show lv_has ls 6 [(4, .int (nI (i + 1))), (1, .int (nI (cntB (isT f) (i + 1)))), (3, .int (nI 64)), (2, .ref a), (0, .ref a)]; rw [cntB_n (p := isT f) (sw_tf c_27)]; exact lv_sub hl [0, 1, 3, 4, 5] rfl)
    · refine lv_iconst (v := nI 1) hx hb dX3_tombs_30 (by decide) ?_
      refine lv_goto (tgt := 35) hx hb dX3_tombs_31 (by decide) ?_
      refine h_iaddN hx hb dX3_tombs_35 ?_
      refine lv_istore_n (lv' := [(1, .int (nI (cntB (isT f) i + 1))), (5, .int (sw (f i))), (4, .int (nI i)), (3, .int (nI 64)), (2, .ref a), (0, .ref a)]) hx hb dX3_tombs_36 rfl hl (by decide) rfl (fun ls hl => ?_)
      refine lv_iinc (v := nI (i + 1)) (lv' := [(4, .int (nI (i + 1))), (1, .int (nI (cntB (isT f) i + 1))), (5, .int (sw (f i))), (3, .int (nI 64)), (2, .ref a), (0, .ref a)]) hx hb dX3_tombs_37 hl (k := 2) rfl (nI_add (i) 1) (by decide) rfl (fun ls hl => ?_)
      refine lv_goto (tgt := 10) hx hb dX3_tombs_40 (by decide) ?_
      exact ih10 (by omega) trivial ls (by show lv_has ls 6 [(4, .int (nI (i + 1))), (1, .int (nI (cntB (isT f) (i + 1)))), (3, .int (nI 64)), (2, .ref a), (0, .ref a)]; rw [cntB_y (p := isT f) (sw_tt c_27)]; exact lv_sub hl [0, 1, 3, 4, 5] rfl)

set_option maxHeartbeats 1000000 in
set_option maxRecDepth 100000 in
theorem c_X3_endU (l : Launch) (G : hG) (hp : HP) (a : Nat) (f : Row) (hmr : mR hp a f) (x y : Nat) (hxy : x ≤ y) (hy6 : y < 64) (hhy : hasR f y = true) (hno : ∀ k, x ≤ k → k < y → hasR f k = false) : hRd l yX3_end wsX3_end 0 0 G hp [.ref a, .int (nI x), .int (nI 1)] (some (.int (nI y))) := by
  refine Met.ofW (cc := cX3_end) (maxL := 4) (ret := (some .int)) (by decide) rfl ?_
  intro p e s m args below meth c s₁ B hml hv
  obtain ⟨rfl, hV0, hK0⟩ := hv
  have hx := B.exec
  have hb := B.bytes
  have hr := B.returns
  have hts := atoms_spec (ws := wsX3_end) B.pre
  have hown : s.vm.findClass RX3 = some m.cls := findClass_of_methodNamed B.named
  have hlocks := B.notSynchronized
  have hF : CallFix p m c cX3_end 4 s [.ref a, .int (nI x), .int (nI 1)].toArray wsX3_end RX3 := ⟨hx, hb, hml, hown, hts⟩
  have hl := lv_entry ([.ref a, .int (nI x), .int (nI 1)]) (n := 4) (Nat.le_of_ble_eq_true rfl)
  rw [lg_entry_eq]
  generalize (lg_sl ([.ref a, .int (nI x), .int (nI 1)]) ++ List.replicate (4 - (lg_sl ([.ref a, .int (nI x), .int (nI 1)])).length) Slot.unset).toArray = ls at hl ⊢
  replace hl : lv_has ls 4 [(0, .ref a), (1, .int (nI x)), (2, .int (nI 1))] := hl
  obtain ⟨F, hFe, hFs⟩ := hmr
  refine lv_iload_n hx hb dX3_end_0 rfl (lv_at hl 1 rfl) ?_
  refine lv_istore_n (lv' := [(3, .int (nI x)), (0, .ref a), (1, .int (nI x)), (2, .int (nI 1))]) hx hb dX3_end_1 rfl hl (by decide) rfl (fun ls hl => ?_)
  replace hl : lv_has ls 4 [(3, .int (nI x)), (0, .ref a), (1, .int (nI x)), (2, .int (nI 1))] := lv_sub hl [0, 1, 2, 3] rfl
  revert ls
  refine h_loop y (fun i => [(3, .int (nI i)), (0, .ref a), (1, .int (nI x)), (2, .int (nI 1))]) (fun i => x ≤ i) (fun i hi2 hI2 ih2 ls hl => ?_) x hxy (Nat.le_refl _)
  refine lv_aload_n hx hb dX3_end_2 rfl (lv_at hl 1 rfl) ?_
  refine lv_iload_n hx hb dX3_end_3 rfl (lv_at hl 0 rfl) ?_
  refine h_ialdS (i := i) (x := (sw (f i))) (hFs _ (by omega)) hx hb hK0 hV0 hFe (by omega) (by omega) dX3_end_4 ?_
  refine lv_iconst (v := (-1)) hx hb dX3_end_5 (by decide) ?_
  refine lv_icmp_ne (tgt := 16) hx hb dX3_end_6 (by decide) (fun c_6 => ?_) (fun c_6 => ?_)
  · refine lv_iload_n hx hb dX3_end_16 rfl (lv_at hl 0 rfl) ?_
    exact h_iretR hx hb hr hlocks (by rcases Nat.lt_or_ge i y with q | q; exact absurd (hno i hI2 q) (by rw [sw_ht c_6]; decide); rw [show i = y by omega]) dX3_end_17
  · have hne : i ≠ y := fun z => absurd (sw_hf c_6) (by rw [z, hhy]; decide)
    have hlt : i < y := by omega
    refine lv_iload_n hx hb dX3_end_9 rfl (lv_at hl 0 rfl) ?_
    refine lv_iload_n hx hb dX3_end_10 rfl (lv_at hl 3 rfl) ?_
    refine h_iaddN hx hb dX3_end_11 ?_
    refine lv_istore_n (lv' := [(3, .int (nI (i + 1))), (0, .ref a), (1, .int (nI x)), (2, .int (nI 1))]) hx hb dX3_end_12 rfl hl (by decide) rfl (fun ls hl => ?_)
    refine lv_goto (tgt := 2) hx hb dX3_end_13 (by decide) ?_
    exact ih2 (by omega) (by omega) ls (lv_sub hl [0, 1, 2, 3] rfl)

set_option maxHeartbeats 1000000 in
set_option maxRecDepth 100000 in
theorem c_X3_endD (l : Launch) (G : hG) (hp : HP) (a : Nat) (f : Row) (hmr : mR hp a f) (y : Nat) (hy6 : y < 64) (hhy : hasR f y = true) (hno : ∀ k, y < k → k < 64 → hasR f k = false) : hRd l yX3_end wsX3_end 0 0 G hp [.ref a, .int (nI 63), .int (-1)] (some (.int (nI y))) := by
  refine Met.ofW (cc := cX3_end) (maxL := 4) (ret := (some .int)) (by decide) rfl ?_
  intro p e s m args below meth c s₁ B hml hv
  obtain ⟨rfl, hV0, hK0⟩ := hv
  have hx := B.exec
  have hb := B.bytes
  have hr := B.returns
  have hts := atoms_spec (ws := wsX3_end) B.pre
  have hown : s.vm.findClass RX3 = some m.cls := findClass_of_methodNamed B.named
  have hlocks := B.notSynchronized
  have hF : CallFix p m c cX3_end 4 s [.ref a, .int (nI 63), .int (-1)].toArray wsX3_end RX3 := ⟨hx, hb, hml, hown, hts⟩
  have hl := lv_entry ([.ref a, .int (nI 63), .int (-1)]) (n := 4) (Nat.le_of_ble_eq_true rfl)
  rw [lg_entry_eq]
  generalize (lg_sl ([.ref a, .int (nI 63), .int (-1)]) ++ List.replicate (4 - (lg_sl ([.ref a, .int (nI 63), .int (-1)])).length) Slot.unset).toArray = ls at hl ⊢
  replace hl : lv_has ls 4 [(0, .ref a), (1, .int (nI 63)), (2, .int (-1))] := hl
  obtain ⟨F, hFe, hFs⟩ := hmr
  refine lv_iload_n hx hb dX3_end_0 rfl (lv_at hl 1 rfl) ?_
  refine lv_istore_n (lv' := [(3, .int (nI 63)), (0, .ref a), (1, .int (nI 63)), (2, .int (-1))]) hx hb dX3_end_1 rfl hl (by decide) rfl (fun ls hl => ?_)
  replace hl : lv_has ls 4 [(3, .int (nI (63 - 0))), (0, .ref a), (1, .int (nI 63)), (2, .int (-1))] := lv_sub hl [0, 1, 2, 3] rfl
  revert ls
  refine h_loop (63 - y) (fun i => [(3, .int (nI (63 - i))), (0, .ref a), (1, .int (nI 63)), (2, .int (-1))]) (fun i => True) (fun i hi2 hI2 ih2 ls hl => ?_) 0 (Nat.zero_le _) trivial
  refine lv_aload_n hx hb dX3_end_2 rfl (lv_at hl 1 rfl) ?_
  refine lv_iload_n hx hb dX3_end_3 rfl (lv_at hl 0 rfl) ?_
  refine h_ialdS (i := 63 - i) (x := (sw (f (63 - i)))) (hFs _ (by omega)) hx hb hK0 hV0 hFe (by omega) (by omega) dX3_end_4 ?_
  refine lv_iconst (v := (-1)) hx hb dX3_end_5 (by decide) ?_
  refine lv_icmp_ne (tgt := 16) hx hb dX3_end_6 (by decide) (fun c_6 => ?_) (fun c_6 => ?_)
  · refine lv_iload_n hx hb dX3_end_16 rfl (lv_at hl 0 rfl) ?_
    exact h_iretR hx hb hr hlocks (by rcases Nat.lt_or_ge i (63 - y) with q | q; exact absurd (hno (63 - i) (by omega) (by omega)) (by rw [sw_ht c_6]; decide); rw [show 63 - i = y by omega]) dX3_end_17
  · have hne : 63 - i ≠ y := fun z => absurd (sw_hf c_6) (by rw [z, hhy]; decide)
    have hlt : i < 63 - y := by omega
    have hdec : nI (63 - (i + 1)) = nI (63 - i) + (-1) := by rw [show 63 - (i + 1) = 63 - i - 1 by omega, ← nI_dec (show 0 < 63 - i by omega)]; rfl
    refine lv_iload_n hx hb dX3_end_9 rfl (lv_at hl 0 rfl) ?_
    refine lv_iload_n hx hb dX3_end_10 rfl (lv_at hl 3 rfl) ?_
    refine lv_iadd hx hb dX3_end_11 ?_
    refine lv_istore_n (lv' := [(3, .int (nI (63 - i) + (-1))), (0, .ref a), (1, .int (nI 63)), (2, .int (-1))]) hx hb dX3_end_12 rfl hl (by decide) rfl (fun ls hl => ?_)
    refine lv_goto (tgt := 2) hx hb dX3_end_13 (by decide) ?_
    exact ih2 (by omega) trivial ls (by show lv_has ls 4 [(3, .int (nI (63 - (i + 1)))), (0, .ref a), (1, .int (nI 63)), (2, .int (-1))]; rw [hdec]; exact lv_sub hl [0, 1, 2, 3] rfl)

set_option maxHeartbeats 1000000 in
set_option maxRecDepth 100000 in
theorem c_X3_isOpen (l : Launch) (G : hG) (hp : HP) (a : Nat) (f : Row) (hmr : mR hp a f) (h : Nat) (hh8 : h < 8) : hRd l yX3_isOpen wsX3_isOpen 0 0 G hp [.ref a, .int (nI h)] (some (.int (bI (opR f h)))) := by
  refine Met.ofW (cc := cX3_isOpen) (maxL := 3) (ret := (some .boolean)) (by decide) rfl ?_
  intro p e s m args below meth c s₁ B hml hv
  obtain ⟨rfl, hV0, hK0⟩ := hv
  have hx := B.exec
  have hb := B.bytes
  have hr := B.returns
  have hts := atoms_spec (ws := wsX3_isOpen) B.pre
  have hown : s.vm.findClass RX3 = some m.cls := findClass_of_methodNamed B.named
  have hlocks := B.notSynchronized
  have hF : CallFix p m c cX3_isOpen 3 s [.ref a, .int (nI h)].toArray wsX3_isOpen RX3 := ⟨hx, hb, hml, hown, hts⟩
  have hl := lv_entry ([.ref a, .int (nI h)]) (n := 3) (Nat.le_of_ble_eq_true rfl)
  rw [lg_entry_eq]
  generalize (lg_sl ([.ref a, .int (nI h)]) ++ List.replicate (3 - (lg_sl ([.ref a, .int (nI h)])).length) Slot.unset).toArray = ls at hl ⊢
  replace hl : lv_has ls 3 [(0, .ref a), (1, .int (nI h))] := hl
  obtain ⟨F, hFe, hFs⟩ := hmr
  refine lv_iload_n hx hb dX3_isOpen_0 rfl (lv_at hl 1 rfl) ?_
  refine lv_istore_n (lv' := [(2, .int (nI h)), (0, .ref a), (1, .int (nI h))]) hx hb dX3_isOpen_1 rfl hl (by decide) rfl (fun ls hl => ?_)
  replace hl : lv_has ls 3 [(2, .int (nI (h + 8 * 0))), (0, .ref a), (1, .int (nI h))] := lv_sub hl [0, 1, 2] rfl
  revert ls
  refine h_loop 8 (fun i => [(2, .int (nI (h + 8 * i))), (0, .ref a), (1, .int (nI h))]) (fun i => ∀ j, j < i → hasR f (h + 8 * j) = false) (fun i hi2 hI2 ih2 ls hl => ?_) 0 (Nat.zero_le _) (fun j hj => absurd hj (Nat.not_lt_zero j))
  refine lv_iload_n hx hb dX3_isOpen_2 rfl (lv_at hl 0 rfl) ?_
  refine lv_bipush (v := nI 64) hx hb dX3_isOpen_3 (by decide) ?_
  refine h_icmp_ge (a := h + 8 * i) (b := 64) (tgt := 23) hx hb dX3_isOpen_5 (by decide) (by omega) (by omega) (fun c_5 => ?_) (fun c_5 => ?_)
  · refine lv_iconst (v := nI 0) hx hb dX3_isOpen_23 (by decide) ?_
    exact h_zretR hx hb hr hlocks (by rw [opR_f (fun j hj => hI2 j (by omega))]; rfl) dX3_isOpen_24
  · refine lv_aload_n hx hb dX3_isOpen_8 rfl (lv_at hl 1 rfl) ?_
    refine lv_iload_n hx hb dX3_isOpen_9 rfl (lv_at hl 0 rfl) ?_
    refine h_ialdS (i := h + 8 * i) (x := (sw (f (h + 8 * i)))) (hFs _ (by omega)) hx hb hK0 hV0 hFe (by omega) (by omega) dX3_isOpen_10 ?_
    refine lv_iconst (v := (-1)) hx hb dX3_isOpen_11 (by decide) ?_
    refine lv_icmp_eq (tgt := 17) hx hb dX3_isOpen_12 (by decide) (fun c_12 => ?_) (fun c_12 => ?_)
    · refine lv_iinc (v := nI (h + 8 * i + 8)) (lv' := [(2, .int (nI (h + 8 * i + 8))), (0, .ref a), (1, .int (nI h))]) hx hb dX3_isOpen_17 hl (k := 0) rfl (nI_add (h + 8 * i) 8) (by decide) rfl (fun ls hl => ?_)
      refine lv_goto (tgt := 2) hx hb dX3_isOpen_20 (by decide) ?_
      exact ih2 (by omega) (fun j hj => by rcases (show j < i ∨ j = i by omega) with q | q; exact hI2 j q; rw [q]; exact sw_hf c_12) ls (lv_sub hl [0, 1, 2] rfl)
    · refine lv_iconst (v := nI 1) hx hb dX3_isOpen_15 (by decide) ?_
      exact h_zretR hx hb hr hlocks (by rw [opR_t (j := i) (by omega) (sw_ht c_12)]; rfl) dX3_isOpen_16

set_option maxHeartbeats 1000000 in
set_option maxRecDepth 100000 in
theorem c_X3_slipTold (l : Launch) (G : hG) (hp : HP) (a : Nat) (f : Row) (hmr : mR hp a f) (k : Nat) (hk : k < szR f) : hRd l yX3_slipTold wsX3_slipTold 1 23 G hp [.ref a, .int (nI k)] (some (.int (toldR f (nthR f k)))) := by
  refine Met.ofW (cc := cX3_slipTold) (maxL := 4) (ret := (some .int)) (by decide) rfl ?_
  intro p e s m args below meth c s₁ B hml hv
  obtain ⟨rfl, hV0, hK0⟩ := hv
  have hx := B.exec
  have hb := B.bytes
  have hr := B.returns
  have hts := atoms_spec (ws := wsX3_slipTold) B.pre
  have hown : s.vm.findClass RX3 = some m.cls := findClass_of_methodNamed B.named
  have hlocks := B.notSynchronized
  have hF : CallFix p m c cX3_slipTold 4 s [.ref a, .int (nI k)].toArray wsX3_slipTold RX3 := ⟨hx, hb, hml, hown, hts⟩
  have hl := lv_entry ([.ref a, .int (nI k)]) (n := 4) (Nat.le_of_ble_eq_true rfl)
  rw [lg_entry_eq]
  generalize (lg_sl ([.ref a, .int (nI k)]) ++ List.replicate (4 - (lg_sl ([.ref a, .int (nI k)])).length) Slot.unset).toArray = ls at hl ⊢
  replace hl : lv_has ls 4 [(0, .ref a), (1, .int (nI k))] := hl
  have hr2 := hmr
  obtain ⟨F, hFe, hFs⟩ := hmr
  have hz := szR_le f
  refine lv_aload_n hx hb dX3_slipTold_0 rfl (lv_at hl 0 rfl) ?_
  refine lv_iconst (v := nI 0) hx hb dX3_slipTold_1 (by decide) ?_
  refine lv_iconst (v := nI 1) hx hb dX3_slipTold_2 (by decide) ?_
  refine h_rdS (As := [.ref a, .int (nI 0), .int (nI 1)]) (rest := []) hF (c_X3_endU l G hp a f hr2 0 (nthR f 0) (Nat.zero_le _) (nth_at (f := f) (k := 0) (by omega)).1 (nth_at (f := f) (k := 0) (by omega)).2.1 (nth_lo (by omega))) 3 gX3_slipTold_X3_end rfl (by decide +kernel) ⟨Nat.le_of_ble_eq_true rfl, Nat.le_of_ble_eq_true rfl⟩ hK0 hV0 rfl hl.1 rfl (Nat.le_of_ble_eq_true rfl) (Nat.le_refl _) (Nat.le_refl _) dX3_slipTold_3 ?_
  refine lv_istore_n (lv' := [(2, .int (nI (nthR f 0))), (0, .ref a), (1, .int (nI k))]) hx hb dX3_slipTold_6 rfl hl (by decide) rfl (fun ls hl => ?_)
  refine lv_iconst (v := nI 0) hx hb dX3_slipTold_7 (by decide) ?_
  refine lv_istore_n (lv' := [(3, .int (nI 0)), (2, .int (nI (nthR f 0))), (0, .ref a), (1, .int (nI k))]) hx hb dX3_slipTold_8 rfl hl (by decide) rfl (fun ls hl => ?_)
  replace hl : lv_has ls 4 [(3, .int (nI 0)), (2, .int (nI (nthR f 0))), (0, .ref a), (1, .int (nI k))] := lv_sub hl [0, 1, 2, 3] rfl
  revert ls
  refine h_loop k (fun i => [(3, .int (nI i)), (2, .int (nI (nthR f i))), (0, .ref a), (1, .int (nI k))]) (fun i => True) (fun i hi9 hI9 ih9 ls hl => ?_) 0 (Nat.zero_le _) trivial
  refine lv_iload_n hx hb dX3_slipTold_9 rfl (lv_at hl 0 rfl) ?_
  refine lv_iload_n hx hb dX3_slipTold_10 rfl (lv_at hl 3 rfl) ?_
  refine h_icmp_ge (a := i) (b := k) (tgt := 29) hx hb dX3_slipTold_11 (by decide) (by omega) (by omega) (fun c_11 => ?_) (fun c_11 => ?_)
  · have hnl := (nth_at (f := f) (k := i) (by omega)).1
    have hnh := (nth_at (f := f) (k := i) (by omega)).2.1
    refine lv_aload_n hx hb dX3_slipTold_29 rfl (lv_at hl 2 rfl) ?_
    refine lv_iload_n hx hb dX3_slipTold_30 rfl (lv_at hl 1 rfl) ?_
    refine h_ialdS (i := nthR f i) (x := (sw (f (nthR f i)))) (hFs _ (by omega)) hx hb hK0 hV0 hFe (by omega) (by omega) dX3_slipTold_31 ?_
    refine lv_bipush (v := (-2)) hx hb dX3_slipTold_32 (by decide) ?_
    refine lv_icmp_ne (tgt := 43) hx hb dX3_slipTold_34 (by decide) (fun c_34 => ?_) (fun c_34 => ?_)
    · refine lv_bipush (v := nI 100) hx hb dX3_slipTold_43 (by decide) ?_
      refine lv_iload_n hx hb dX3_slipTold_45 rfl (lv_at hl 1 rfl) ?_
      refine lv_imul hx hb dX3_slipTold_46 ?_
      refine lv_aload_n hx hb dX3_slipTold_47 rfl (lv_at hl 2 rfl) ?_
      refine lv_iload_n hx hb dX3_slipTold_48 rfl (lv_at hl 1 rfl) ?_
      refine h_ialdS (i := nthR f i) (x := (sw (f (nthR f i)))) (hFs _ (by omega)) hx hb hK0 hV0 hFe (by omega) (by omega) dX3_slipTold_49 ?_
      refine lv_iadd hx hb dX3_slipTold_50 ?_
      exact h_iretR hx hb hr hlocks ((tld_n hnh c_34).trans (by rw [show i = k by omega])) dX3_slipTold_51
    · refine lv_iconst (v := (-1)) hx hb dX3_slipTold_37 (by decide) ?_
      refine lv_iload_n hx hb dX3_slipTold_38 rfl (lv_at hl 1 rfl) ?_
      refine lv_isub hx hb dX3_slipTold_39 ?_
      refine lv_goto (tgt := 51) hx hb dX3_slipTold_40 (by decide) ?_
      exact h_iretR hx hb hr hlocks ((tld_t c_34).trans (by rw [show i = k by omega])) dX3_slipTold_51
  · have hnl := (nth_at (f := f) (k := i) (by omega)).1
    refine lv_aload_n hx hb dX3_slipTold_14 rfl (lv_at hl 2 rfl) ?_
    refine lv_iload_n hx hb dX3_slipTold_15 rfl (lv_at hl 1 rfl) ?_
    refine lv_iconst (v := nI 1) hx hb dX3_slipTold_16 (by decide) ?_
    refine h_iaddN hx hb dX3_slipTold_17 ?_
    refine lv_iconst (v := nI 1) hx hb dX3_slipTold_18 (by decide) ?_
    refine h_rdS (As := [.ref a, .int (nI (nthR f i + 1)), .int (nI 1)]) (rest := []) hF (c_X3_endU l G hp a f hr2 (nthR f i + 1) (nthR f (i + 1)) (nth_up (by omega)).1 (nth_at (f := f) (k := i + 1) (by omega)).1 (nth_at (f := f) (k := i + 1) (by omega)).2.1 (nth_up (by omega)).2) 3 gX3_slipTold_X3_end rfl (by decide +kernel) ⟨Nat.le_of_ble_eq_true rfl, Nat.le_of_ble_eq_true rfl⟩ hK0 hV0 rfl hl.1 rfl (Nat.le_of_ble_eq_true rfl) (Nat.le_refl _) (Nat.le_refl _) dX3_slipTold_19 ?_
    refine lv_istore_n (lv' := [(2, .int (nI (nthR f (i + 1)))), (3, .int (nI i)), (0, .ref a), (1, .int (nI k))]) hx hb dX3_slipTold_22 rfl hl (by decide) rfl (fun ls hl => ?_)
    refine lv_iinc (v := nI (i + 1)) (lv' := [(3, .int (nI (i + 1))), (2, .int (nI (nthR f (i + 1)))), (0, .ref a), (1, .int (nI k))]) hx hb dX3_slipTold_23 hl (k := 1) rfl (nI_add (i) 1) (by decide) rfl (fun ls hl => ?_)
    refine lv_goto (tgt := 9) hx hb dX3_slipTold_26 (by decide) ?_
    exact ih9 (by omega) trivial ls (lv_sub hl [0, 1, 2, 3] rfl)

set_option maxHeartbeats 1000000 in
set_option maxRecDepth 100000 in
theorem c_X3_isIn (l : Launch) (G : hG) (hp : HP) (v lo hi : Int32) : hRd l yX3_isIn wsX3_isIn 0 0 G hp [.int v, .int lo, .int hi] (some (.int (bI (decide (lo ≤ v) && decide (v ≤ hi))))) := by
  refine Met.ofW (cc := cX3_isIn) (maxL := 3) (ret := (some .boolean)) (by decide) rfl ?_
  intro p e s m args below meth c s₁ B hml hv
  obtain ⟨rfl, hV0, hK0⟩ := hv
  have hx := B.exec
  have hb := B.bytes
  have hr := B.returns
  have hts := atoms_spec (ws := wsX3_isIn) B.pre
  have hown : s.vm.findClass RX3 = some m.cls := findClass_of_methodNamed B.named
  have hlocks := B.notSynchronized
  have hF : CallFix p m c cX3_isIn 3 s [.int v, .int lo, .int hi].toArray wsX3_isIn RX3 := ⟨hx, hb, hml, hown, hts⟩
  have hl := lv_entry ([.int v, .int lo, .int hi]) (n := 3) (Nat.le_of_ble_eq_true rfl)
  rw [lg_entry_eq]
  generalize (lg_sl ([.int v, .int lo, .int hi]) ++ List.replicate (3 - (lg_sl ([.int v, .int lo, .int hi])).length) Slot.unset).toArray = ls at hl ⊢
  replace hl : lv_has ls 3 [(0, .int v), (1, .int lo), (2, .int hi)] := hl
  refine lv_iload_n hx hb dX3_isIn_0 rfl (lv_at hl 0 rfl) ?_
  refine lv_iload_n hx hb dX3_isIn_1 rfl (lv_at hl 1 rfl) ?_
  refine lv_icmp_lt (tgt := 14) hx hb dX3_isIn_2 (by decide) (fun c_2 => ?_) (fun c_2 => ?_)
  · refine lv_iconst (v := nI 0) hx hb dX3_isIn_14 (by decide) ?_
    exact h_zretR hx hb hr hlocks (by rw [decide_eq_false (Int32.not_le.mpr c_2)]; rfl) dX3_isIn_15
  · refine lv_iload_n hx hb dX3_isIn_5 rfl (lv_at hl 0 rfl) ?_
    refine lv_iload_n hx hb dX3_isIn_6 rfl (lv_at hl 2 rfl) ?_
    refine lv_icmp_gt (tgt := 14) hx hb dX3_isIn_7 (by decide) (fun c_7 => ?_) (fun c_7 => ?_)
    · refine lv_iconst (v := nI 0) hx hb dX3_isIn_14 (by decide) ?_
      exact h_zretR hx hb hr hlocks (by rw [decide_eq_false (Int32.not_le.mpr c_7)]; simp; rfl) dX3_isIn_15
    · refine lv_iconst (v := nI 1) hx hb dX3_isIn_10 (by decide) ?_
      refine lv_goto (tgt := 15) hx hb dX3_isIn_11 (by decide) ?_
      exact h_zretR hx hb hr hlocks (by rw [decide_eq_true (Int32.not_lt.mp c_2), decide_eq_true (Int32.not_lt.mp c_7)]; rfl) dX3_isIn_15

set_option maxHeartbeats 1000000 in
set_option maxRecDepth 100000 in
theorem c_X3_isNumber (l : Launch) (G : hG) (hp : HP) (v : Int32) : hRd l yX3_isNumber wsX3_isNumber 1 22 G hp [.int v] (some (.int (bI (decide (nI 0 ≤ v) && decide (v ≤ nI 63))))) := by
  refine Met.ofW (cc := cX3_isNumber) (maxL := 1) (ret := (some .boolean)) (by decide) rfl ?_
  intro p e s m args below meth c s₁ B hml hv
  obtain ⟨rfl, hV0, hK0⟩ := hv
  have hx := B.exec
  have hb := B.bytes
  have hr := B.returns
  have hts := atoms_spec (ws := wsX3_isNumber) B.pre
  have hown : s.vm.findClass RX3 = some m.cls := findClass_of_methodNamed B.named
  have hlocks := B.notSynchronized
  have hF : CallFix p m c cX3_isNumber 1 s [.int v].toArray wsX3_isNumber RX3 := ⟨hx, hb, hml, hown, hts⟩
  have hl := lv_entry ([.int v]) (n := 1) (Nat.le_of_ble_eq_true rfl)
  rw [lg_entry_eq]
  generalize (lg_sl ([.int v]) ++ List.replicate (1 - (lg_sl ([.int v])).length) Slot.unset).toArray = ls at hl ⊢
  replace hl : lv_has ls 1 [(0, .int v)] := hl
  refine lv_iload_n hx hb dX3_isNumber_0 rfl (lv_at hl 0 rfl) ?_
  refine lv_iconst (v := nI 0) hx hb dX3_isNumber_1 (by decide) ?_
  refine lv_bipush (v := nI 63) hx hb dX3_isNumber_2 (by decide) ?_
  refine h_rdS (As := [.int v, .int (nI 0), .int (nI 63)]) (rest := []) hF (c_X3_isIn l G hp (v) (nI 0) (nI 63)) 3 gX3_isNumber_X3_isIn rfl (by decide +kernel) ⟨Nat.le_of_ble_eq_true rfl, Nat.le_of_ble_eq_true rfl⟩ hK0 hV0 rfl hl.1 rfl (Nat.le_of_ble_eq_true rfl) (Nat.le_refl _) (Nat.le_refl _) dX3_isNumber_4 ?_
  exact h_zretR hx hb hr hlocks (by first | rfl | assumption) dX3_isNumber_7

set_option maxHeartbeats 1000000 in
set_option maxRecDepth 100000 in
theorem c_X3_isLevel (l : Launch) (G : hG) (hp : HP) (v : Int32) : hRd l yX3_isLevel wsX3_isLevel 1 22 G hp [.int v] (some (.int (bI (decide (nI 0 ≤ v) && decide (v ≤ nI 3))))) := by
  refine Met.ofW (cc := cX3_isLevel) (maxL := 1) (ret := (some .boolean)) (by decide) rfl ?_
  intro p e s m args below meth c s₁ B hml hv
  obtain ⟨rfl, hV0, hK0⟩ := hv
  have hx := B.exec
  have hb := B.bytes
  have hr := B.returns
  have hts := atoms_spec (ws := wsX3_isLevel) B.pre
  have hown : s.vm.findClass RX3 = some m.cls := findClass_of_methodNamed B.named
  have hlocks := B.notSynchronized
  have hF : CallFix p m c cX3_isLevel 1 s [.int v].toArray wsX3_isLevel RX3 := ⟨hx, hb, hml, hown, hts⟩
  have hl := lv_entry ([.int v]) (n := 1) (Nat.le_of_ble_eq_true rfl)
  rw [lg_entry_eq]
  generalize (lg_sl ([.int v]) ++ List.replicate (1 - (lg_sl ([.int v])).length) Slot.unset).toArray = ls at hl ⊢
  replace hl : lv_has ls 1 [(0, .int v)] := hl
  refine lv_iload_n hx hb dX3_isLevel_0 rfl (lv_at hl 0 rfl) ?_
  refine lv_iconst (v := nI 0) hx hb dX3_isLevel_1 (by decide) ?_
  refine lv_iconst (v := nI 3) hx hb dX3_isLevel_2 (by decide) ?_
  refine h_rdS (As := [.int v, .int (nI 0), .int (nI 3)]) (rest := []) hF (c_X3_isIn l G hp (v) (nI 0) (nI 3)) 3 gX3_isLevel_X3_isIn rfl (by decide +kernel) ⟨Nat.le_of_ble_eq_true rfl, Nat.le_of_ble_eq_true rfl⟩ hK0 hV0 rfl hl.1 rfl (Nat.le_of_ble_eq_true rfl) (Nat.le_refl _) (Nat.le_refl _) dX3_isLevel_3 ?_
  exact h_zretR hx hb hr hlocks (by first | rfl | assumption) dX3_isLevel_6
