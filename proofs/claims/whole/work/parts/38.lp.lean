/-! the law: its loop, its start -/
theorem and31 (x : Int32) : ∃ n : Nat, n < 32 ∧ x &&& nI 31 = nI n := by
  refine ⟨x.toBitVec.toNat % 32, Nat.mod_lt _ (by decide), ?_⟩
  apply Int32.toBitVec_inj.mp
  apply BitVec.eq_of_toNat_eq
  rw [Int32.toBitVec_and, BitVec.toNat_and]
  show x.toBitVec.toNat &&& 31 = (BitVec.ofNat 32 (x.toBitVec.toNat % 32)).toNat
  rw [BitVec.toNat_ofNat, Nat.mod_eq_of_lt (show x.toBitVec.toNat % 32 < 2 ^ 32 by omega)]
  exact Nat.and_two_pow_sub_one_eq_mod _ 5
theorem lp_in {L i : Nat} (hL : L ≤ 2048) (hi : 4 * i ≤ 2048) (h : ¬ nI L - nI 4 < nI (4 * i)) : 4 * i + 4 ≤ L := by
  rcases Nat.lt_or_ge L 4 with q | q
  · exfalso
    apply h
    have h0 : (0 : Int32) ≤ nI (4 * i) := nI_pos' (by omega)
    have h1 : nI L - nI 4 < 0 := by
      rcases (show L = 0 ∨ L = 1 ∨ L = 2 ∨ L = 3 by omega) with e | e | e | e <;> subst e <;> decide
    exact Int32.lt_of_lt_of_le h1 h0
  · have e : nI L - nI 4 = nI (L - 4) := by
      have h3 := nI_add (L - 4) 4
      rw [show L - 4 + 4 = L by omega] at h3
      rw [← h3]
      exact Int32.add_sub_cancel _ _
    rw [e] at h
    have h2 : ¬ L - 4 < 4 * i := fun z => h ((nI_ltI (by omega) (by omega)).mpr z)
    omega
theorem sub_hV {G : hG} {hp hp2 : HP} {H : Heap} (h : hV G hp H) (hs : ∀ q e, hp2 q = some e → hp q = some e) : hV G hp2 H := fun q e he => h q e (hs q e he)
theorem law_hK {args : Array Value} {s : State} (hts : ∀ w ∈ lw_tbl, w.before args s = true) : ∃ G : hG, hK G s := by
  obtain ⟨c0, i0, k0⟩ := u_known (C := RX0) (T := TX0) (N := 5) (n := 5) hts inX0 (hts (.instantiable RX0 5) (by decide +kernel))
  obtain ⟨c1, i1, k1⟩ := u_known (C := RX1) (T := TX1) (N := 6) (n := 6) hts inX1 (hts (.instantiable RX1 6) (by decide +kernel))
  obtain ⟨c2, i2, k2⟩ := u_known (C := RX2) (T := TX2) (N := 5) (n := 5) hts inX2 (hts (.instantiable RX2 5) (by decide +kernel))
  obtain ⟨c3, i3, k3⟩ := u_known (C := RX3) (T := TX3) (N := 4) (n := 4) hts inX3 (hts (.instantiable RX3 4) (by decide +kernel))
  have hI := hts (.arrayClass .int) (by decide +kernel)
  have hJ := hts (.arrayClass .long) (by decide +kernel)
  have hO := hts (.arrayOver (.object RX1)) (by decide +kernel)
  have hA := hts (.arrayOver (.array .int)) (by decide +kernel)
  have hB := hts (.arrayOver (.array (.array .int))) (by decide +kernel)
  obtain ⟨aI, kI, pI, a1, a2, a3⟩ := Cond.arrayClass_spec hI
  obtain ⟨aJ, kJ, pJ, b1, b2, b3⟩ := Cond.arrayClass_spec hJ
  obtain ⟨pO, aO, kO, o1, o2, o3, o4, o5⟩ := Cond.arrayOver_spec hO
  obtain ⟨pA, aA, kA, e1, e2, e3, e4, e5⟩ := arrayOverA_spec hA
  obtain ⟨pB, aB, kB, f1, f2, f3, f4, f5⟩ := arrayOverA_spec hB
  refine ⟨((fun k => if k = 0 then c0 else if k = 1 then c1 else if k = 2 then c2 else c3, fun k => if k = 0 then i0 else if k = 1 then i1 else if k = 2 then i2 else i3), fun k => if k = 0 then aI else if k = 1 then aJ else if k = 2 then aO else if k = 3 then aA else aB), ⟨?_, ?_⟩, va_AO.of hO, hA, hB, va_Nw.of rfl (hts (.castable "[I" "java/lang/Cloneable") (by decide +kernel)), va_Nw.of rfl (hts (.castable "[[[I" "java/lang/Cloneable") (by decide +kernel))⟩
  · intro k q hq
    match k, hq with
    | 0, hq => cases hq; exact k0
    | 1, hq => cases hq; exact k1
    | 2, hq => cases hq; exact k2
    | 3, hq => cases hq; exact k3
    | k + 4, hq => simp [vwCl] at hq
  · intro k q hq
    match k, hq with
    | 0, hq => cases hq; exact ⟨fun N z => ⟨(fun k h => by cases h), kI, a2, pI, a3⟩, a1⟩
    | 1, hq => cases hq; exact ⟨fun N z => ⟨(fun k h => by cases h), kJ, b2, pJ, b3⟩, b1⟩
    | 2, hq => cases hq; exact ⟨fun N z => ⟨(fun k h => by cases h), kO, o3, pO, o4⟩, kO, pO, o3, o4, o1, o5⟩
    | 3, hq => cases hq; exact ⟨fun N z => ⟨(fun k h => by cases h), kA, e3, pA, e4⟩, e5⟩
    | 4, hq => cases hq; exact ⟨fun N z => ⟨(fun k h => by cases h), kB, f3, pB, f4⟩, f5⟩
    | k + 5, hq => simp at hq
theorem strs_tbl : ∀ q ∈ strs, Cond.stringRef RX2 q.1 q.2 ∈ lw_tbl := by decide +kernel
theorem law_hZ {b : Nat} {s : State} (hts : ∀ w ∈ lw_tbl, w.before #[Value.ref b] s = true) (hgv : (Jvm.Cond.and given_1 narrow_1).before #[Value.ref b] s = true) : hZ (fun q => s.heap.size ≤ q) s := by
  have hs := flat_of_before _ hgv
  have hA : ∀ a : Nat, a < s.heap.size → ¬ (fun q => s.heap.size ≤ q) a := fun a ha => Nat.not_le.mpr ha
  have m1 := hs (.isRef (.static Bundle.tN "UNASSIGNED_STACK" Bundle.steD)) (by decide +kernel)
  have m2 := hs (.isRef (.static Bundle.tN "SUPPRESSED_SENTINEL" Bundle.listD)) (by decide +kernel)
  have m3 := hs (.not (.castable IAE IOE)) (by decide +kernel)
  have m4 := hs (.not (.castable ISE IOE)) (by decide +kernel)
  have mem : ∀ q ∈ strs, (Cond.exactly (.string RX2 q.1) "java/lang/String").before #[Value.ref b] s = true := by
    intro q hq
    refine hs _ ?_
    revert q
    decide +kernel
  have hini := hts (.initialized Bundle.tN) (by decide +kernel)
  refine ⟨vx_Zqof (hts (.laysStatic Bundle.tN "UNASSIGNED_STACK" Bundle.steD) (by decide +kernel)) hini m1 hA, vx_Zqof (hts (.laysStatic Bundle.tN "SUPPRESSED_SENTINEL" Bundle.listD) (by decide +kernel)) hini m2 hA, fun q hq => ?_, ?_⟩
  · obtain ⟨a, c, cA, kA, q1, -⟩ := Cond.exactly_spec (args := #[Value.ref b]) (first := s) (o := none) (s := s) (idx := []) (t := .string RX2 q.1) (cls := "java/lang/String") (mem q hq)
    exact ⟨a, vk_R.of (hts _ (strs_tbl q hq)) q1⟩
  · have hb : ∀ w ∈ zB, w ∈ lw_tbl := by decide +kernel
    exact ⟨va_Nw.of rfl (hts _ (hb _ (by decide +kernel))), va_Nw.of rfl (hts _ (hb _ (by decide +kernel))), va_Nw.of rfl (hts _ (hb _ (by decide +kernel))), va_Nw.of rfl (hts _ (hb _ (by decide +kernel))), va_Nw.of rfl (hts _ (hb _ (by decide +kernel))), va_Nw.of rfl (hts _ (hb _ (by decide +kernel))), va_Nc.of m3, va_Nc.of m4⟩
set_option maxHeartbeats 4000000 in
set_option maxRecDepth 100000 in
theorem law_loop {p : Program} {l : Launch} (hlt : l.stackTraces = false) {e : Env} {s : State} {m : MethodId} {below : List Frame} {meth : Method} {c : Code} {b L : Nat} {xs : Nat → Int32} (hL : L ≤ 2048) (C0 : lw_At p s m meth c b L xs) {G : hG} (hK0 : hK G s) (hZ0 : hZ (fun q => s.heap.size ≤ q) s) {ad : Nat → Nat} {q mo : Nat} (hqk : ∀ key, key < 61 → q ≠ ad key) : ∀ (n i : Nat), i + n = 513 → 4 * i ≤ 2048 → ∀ (H : Heap) (locs : List Loc) (ls : Array Slot), lwJ G s ad q mo H locs → lv_has ls 9 [(4, .int (nI (4 * i))), (0, .ref b), (1, .ref (aX ad)), (2, .ref mo), (3, .ref q)] → W p l e room_1 s m #[Value.ref b] below meth c H locs (100 + 136 * i) (2100 + 2744 * i) (lw_Z below #[Value.ref b] s) (F0 m 23 ls []) := by
  obtain ⟨hx, hb, hr, hml, hown, hts, hX, hbl, hlocks, hgv⟩ := id C0
  have hbA : ¬ (fun q : Nat => s.heap.size ≤ q) b := Nat.not_le.mpr hbl
  intro n
  induction n with
  | zero => intro i h1 h2; exact absurd h2 (by omega)
  | succ n ih =>
    intro i hin hi8 H locs ls J hl
    have hS : va_S (fun q => s.heap.size ≤ q) s.heap H locs := by
      obtain ⟨S, th, hpX, hpM, -, -, -, -, -, hS⟩ := J
      exact hS
    refine lv_iload hx hb dL_law_23 (lv_at hl 0 rfl) ?_
    refine lv_aload_n hx hb dL_law_25 rfl (lv_at hl 1 rfl) ?_
    refine va_slen hx hb hX hbl hbA hS dL_law_26 ?_
    refine lv_iconst (v := nI 4) hx hb dL_law_27 (by decide) ?_
    refine lv_isub hx hb dL_law_28 ?_
    refine lv_icmp_gt (tgt := 1093) hx hb dL_law_29 (by decide) (fun c_29 => ?_) (fun c_29 => ?_)
    · refine lv_iconst (v := 1) hx hb dL_law_1093 (by decide) ?_
      refine va_forget (fun q hq => hS.2.2 q hq) ?_
      refine W.widen (k := 601024) (n := 7293034) (by omega) (by omega) ?_
      exact lw_ret (d0 := s.drawn) (Drawn.sameBut.refl s.drawn lw_cs) hx hb hr hlocks dL_law_1094
    · have hi : 4 * i + 4 ≤ L := lp_in hL hi8 c_29
      have hk : ∀ (H1 : Heap) (locs1 : List Loc) (ls : Array Slot), lwJ G s ad q mo H1 locs1 → lv_has ls 9 [(4, .int (nI (4 * i))), (0, .ref b), (1, .ref (aX ad)), (2, .ref mo), (3, .ref q)] → W p l e room_1 s m #[Value.ref b] below meth c H1 locs1 (100 + 136 * i + 136) (2100 + 2744 * i + 2744) (lw_Z below #[Value.ref b] s) (F0 m 1087 ls []) := by
        intro H1 locs1 ls J hl
        refine lv_iinc (v := nI (4 * i + 4)) (lv' := [(4, .int (nI (4 * i + 4))), (0, .ref b), (1, .ref (aX ad)), (2, .ref mo), (3, .ref q)]) hx hb dL_law_1087 hl (k := 0) rfl (nI_add (4 * i) 4) (by decide) rfl (fun ls hl => ?_)
        refine lv_goto (tgt := 23) hx hb dL_law_1090 (by decide) ?_
        exact ih (i + 1) (by omega) (by omega) H1 locs1 ls J hl
      refine lv_aload_n hx hb dL_law_32 rfl (lv_at hl 1 rfl) ?_
      refine lv_iload hx hb dL_law_33 (lv_at hl 0 rfl) ?_
      refine lw_sld (j := 4 * i) hx hb hX hbl hbA hS (by omega) (by omega) dL_law_35 ?_
      refine lv_bipush (v := nI 31) hx hb dL_law_36 (by decide) ?_
      refine lv_iand hx hb dL_law_38 ?_
      obtain ⟨t, ht, het⟩ := and31 (xs (4 * i))
      rw [het]
      rcases (show t = 0 ∨ t = 1 ∨ t = 2 ∨ t = 3 ∨ t = 4 ∨ t = 5 ∨ t = 6 ∨ t = 7 ∨ t = 8 ∨ t = 9 ∨ t = 10 ∨ t = 11 ∨ t = 12 ∨ t = 13 ∨ t = 14 ∨ t = 15 ∨ t = 16 ∨ t = 17 ∨ 18 ≤ t by omega) with z | z | z | z | z | z | z | z | z | z | z | z | z | z | z | z | z | z | z
      · subst z
        refine lv_tableIn (off := 85) (tgt := 124) hx hb dL_law_39 (by decide) (by decide) (by decide) (by decide) ?_
        exact lc_write hlt hL C0 hK0 hZ0 hi (by omega) (by omega) hqk J hl hk
      · subst z
        refine lv_tableIn (off := 160) (tgt := 199) hx hb dL_law_39 (by decide) (by decide) (by decide) (by decide) ?_
        exact lc_strike hlt hL C0 hK0 hZ0 hi (by omega) (by omega) hqk J hl hk
      · subst z
        refine lv_tableIn (off := 223) (tgt := 262) hx hb dL_law_39 (by decide) (by decide) (by decide) (by decide) ?_
        exact lc_bind hlt hL C0 hK0 hZ0 hi (by omega) (by omega) hqk J hl hk
      · subst z
        refine lv_tableIn (off := 236) (tgt := 275) hx hb dL_law_39 (by decide) (by decide) (by decide) (by decide) ?_
        exact lc_merge hlt hL C0 hK0 hZ0 hi (by omega) (by omega) hqk J hl hk
      · subst z
        refine lv_tableIn (off := 292) (tgt := 331) hx hb dL_law_39 (by decide) (by decide) (by decide) (by decide) ?_
        exact lc_setRoom hlt hL C0 hK0 hZ0 hi (by omega) (by omega) hqk J hl hk
      · subst z
        refine lv_tableIn (off := 348) (tgt := 387) hx hb dL_law_39 (by decide) (by decide) (by decide) (by decide) ?_
        exact lc_read hlt hL C0 hK0 hZ0 hi (by omega) (by omega) hqk J hl hk
      · subst z
        refine lv_tableIn (off := 404) (tgt := 443) hx hb dL_law_39 (by decide) (by decide) (by decide) (by decide) ?_
        exact lc_detours hlt hL C0 hK0 hZ0 hi (by omega) (by omega) hqk J hl hk
      · subst z
        refine lv_tableIn (off := 460) (tgt := 499) hx hb dL_law_39 (by decide) (by decide) (by decide) (by decide) ?_
        exact lc_next hlt hL C0 hK0 hZ0 hi (by omega) (by omega) hqk J hl hk
      · subst z
        refine lv_tableIn (off := 516) (tgt := 555) hx hb dL_law_39 (by decide) (by decide) (by decide) (by decide) ?_
        exact lc_sum hlt hL C0 hK0 hZ0 hi (by omega) (by omega) hqk J hl hk
      · subst z
        refine lv_tableIn (off := 584) (tgt := 623) hx hb dL_law_39 (by decide) (by decide) (by decide) (by decide) ?_
        exact lc_run hlt hL C0 hK0 hZ0 hi (by omega) (by omega) hqk J hl hk
      · subst z
        refine lv_tableIn (off := 664) (tgt := 703) hx hb dL_law_39 (by decide) (by decide) (by decide) (by decide) ?_
        exact lc_slip hlt hL C0 hK0 hZ0 hi (by omega) (by omega) hqk J hl hk
      · subst z
        refine lv_tableIn (off := 744) (tgt := 783) hx hb dL_law_39 (by decide) (by decide) (by decide) (by decide) ?_
        exact lc_desk hlt hL C0 hK0 hZ0 hi (by omega) (by omega) hqk J hl hk
      · subst z
        refine lv_tableIn (off := 800) (tgt := 839) hx hb dL_law_39 (by decide) (by decide) (by decide) (by decide) ?_
        exact lc_level hlt hL C0 hK0 hZ0 hi (by omega) (by omega) hqk J hl hk
      · subst z
        refine lv_tableIn (off := 868) (tgt := 907) hx hb dL_law_39 (by decide) (by decide) (by decide) (by decide) ?_
        exact lc_count hlt hL C0 hK0 hZ0 hi (by omega) (by omega) hqk J hl hk
      · subst z
        refine lv_tableIn (off := 924) (tgt := 963) hx hb dL_law_39 (by decide) (by decide) (by decide) (by decide) ?_
        exact lc_spares hlt hL C0 hK0 hZ0 hi (by omega) (by omega) hqk J hl hk
      · subst z
        refine lv_tableIn (off := 980) (tgt := 1019) hx hb dL_law_39 (by decide) (by decide) (by decide) (by decide) ?_
        exact lc_advise hlt hL C0 hK0 hZ0 hi (by omega) (by omega) hqk J hl hk
      · subst z
        refine lv_tableIn (off := 993) (tgt := 1032) hx hb dL_law_39 (by decide) (by decide) (by decide) (by decide) ?_
        exact lc_mean hlt hL C0 hK0 hZ0 hi (by omega) (by omega) hqk J hl hk
      · subst z
        refine lv_tableIn (off := 1034) (tgt := 1073) hx hb dL_law_39 (by decide) (by decide) (by decide) (by decide) ?_
        exact lc_digest hlt hL C0 hK0 hZ0 hi (by omega) (by omega) hqk J hl hk
      · refine lv_tableOut (tgt := 1087) hx hb dL_law_39 (Or.inr (by rw [nI_toInt (show t < 2 ^ 31 by omega)]; omega)) (by decide) ?_
        refine W.widen (k := 100 + 136 * i + 136) (n := 2100 + 2744 * i + 2744) (by omega) (by omega) ?_
        exact hk H locs ls J hl
theorem dfX2 : ∀ j, j < 5 → defaultValue (tyX2 j) = vp_V [.null, .null, .null, .int 0, .int 0] j := fun j hj => match j, hj with
  | 0, _ => rfl
  | 1, _ => rfl
  | 2, _ => rfl
  | 3, _ => rfl
  | 4, _ => rfl
theorem dfX3 : ∀ j, j < 4 → defaultValue (tyX3 j) = vp_V [.int 0, .null, .null, .null] j := fun j hj => match j, hj with
  | 0, _ => rfl
  | 1, _ => rfl
  | 2, _ => rfl
  | 3, _ => rfl
/-- both worlds -/
def hun (a b : HP) : HP := fun q => match a q with
  | some e => some e
  | none => b q
theorem hun_l {a b : HP} {q : Nat} {e : hE} (h : a q = some e) : hun a b q = some e := by
  unfold hun
  rw [h]
theorem hun_r {a b : HP} {q : Nat} (h : a q = none) : hun a b q = b q := by
  unfold hun
  rw [h]
theorem hun_n {a b : HP} {q : Nat} (h : hun a b q = none) : a q = none ∧ b q = none := by
  cases ha : a q with
  | none => exact ⟨rfl, by rw [hun_r ha] at h; exact h⟩
  | some e => rw [hun_l ha] at h; cases h
theorem hun_e {a b : HP} {q : Nat} {e : hE} (h : hun a b q = some e) : a q = some e ∨ b q = some e := by
  cases ha : a q with
  | none => rw [hun_r ha] at h; exact Or.inr h
  | some e2 => rw [hun_l ha] at h; exact Or.inl h
theorem lwS.un {G : hG} {n : Nat} {H : Heap} {a b : HP} (h : lwS G n H a b) : hV G (hun a b) H ∧ hIn (fun q => n ≤ q) (hun a b) := ⟨fun q e he => (hun_e he).elim (h.1 q e) (h.2.1 q e), fun q e he => (hun_e he).elim (h.2.2.2.1 q e) (h.2.2.2.2.1 q e)⟩
theorem lwS.add {G : hG} {n : Nat} {H H1 : Heap} {a b : HP} (h : lwS G n H a b) {q : Nat} {e : hE} (hq : hun a b q = none) (hV1 : hV G (hput (hun a b) q e) H1) (hI : hIn (fun q => n ≤ q) (hput (hun a b) q e)) (hz : n ≤ H1.size) : lwS G n H1 (hput a q e) b := by
  obtain ⟨-, -, a3, a4, a5, -⟩ := h
  have hqn := hun_n hq
  refine ⟨sub_hV hV1 (fun x e2 he => ?_), sub_hV hV1 (fun x e2 he => ?_), fun x e2 he => ?_, fun x e2 he => ?_, a5, hz⟩
  · by_cases hx : x = q
    · subst hx
      rw [hput_s] at he ⊢
      exact he
    · rw [hput_n _ _ hx] at he ⊢
      exact hun_l he
  · have hx : x ≠ q := fun z => by
      rw [z, hqn.2] at he
      cases he
    rw [hput_n _ _ hx]
    cases ha : a x with
    | none => rw [hun_r ha]; exact he
    | some e3 =>
      rw [a3 x e3 ha] at he
      cases he
  · by_cases hx : x = q
    · rw [hx]; exact hqn.2
    · rw [hput_n _ _ hx] at he
      exact a3 x e2 he
  · by_cases hx : x = q
    · rw [hx]; exact hI q e (hput_s _ _ _)
    · rw [hput_n _ _ hx] at he
      exact a4 x e2 he
section LST
variable {p : Program} {l : Launch} {e : Env} {R : Room} {s : State} {m : MethodId} {args : Array Value} {below : List Frame} {meth : Method} {c : Code} {H : Heap} {locs : List Loc} {cells slots : Nat} {Q : State → Prop}
variable {cc : ByteArray} {pc : Nat} {ls : Array Slot} {rest st0 : List Value} {G : hG} {hpX hpM : HP} {a : Nat} {mc ms : Nat}
theorem lw_new (hexec : p.tables.exec = Jvm.exec) (hb : c.code = cc) {own C : String} {T : u_T} {N ci index : Nat} {Ts : List Cond} (hts : ∀ w ∈ Ts, w.before args s = true) (hin : ∀ w ∈ u_ws C T N, w ∈ Ts) (ty : Nat → FieldType) (hty : ∀ k, k < N → parseFieldDescriptor (T k).2.2.1 = some (ty k)) (hown : s.vm.findClass own = some m.cls) (hcl : (Cond.classLink own index C).before args s = true) (hinst : (Cond.instantiable C N).before args s = true) (hini : (Cond.initialized C).before args s = true)
    (hK0 : hK G s) (hL : lwS G s.heap.size H hpX hpM) (hS : va_S (fun q => s.heap.size ≤ q) s.heap H locs) (hc : vwCl[ci]? = some (C, T, N)) {fs : List Value} (hfs : ∀ j, j < N → defaultValue (ty j) = vp_V fs j) (hcells : cells + 1 ≤ R.cells) (hslots : slots + N ≤ R.slots) (hdg : decode cc pc = .ok (.new index, 3))
    (kk : ∀ (q : Nat) (H1 : Heap), hpX q = none → lwS G s.heap.size H1 (hput hpX q (eO ci fs)) hpM → va_S (fun q => s.heap.size ≤ q) s.heap H1 locs → W p l e R s m args below meth c H1 locs (cells + 1) (slots + N) Q (F0 m (pc + 3) ls (.ref q :: rest))) : W p l e R s m args below meth c H locs cells slots Q (F0 m pc ls rest) :=
  h_new hexec hb hts hin ty hty hown hcl hinst hini hK0 hL.un.1 hL.un.2 hS (fun _ h => h) hc hfs hcells hslots hdg (fun q H1 hq hV1 hI hS1 => kk q H1 (hun_n hq).1 (hL.add hq hV1 hI hS1.1) hS1)
theorem lw_newJ (hexec : p.tables.exec = Jvm.exec) (hb : c.code = cc) (harr : (Cond.arrayClass .long).before args s = true) (hK0 : hK G s) (hL : lwS G s.heap.size H hpX hpM) (hS : va_S (fun q => s.heap.size ≤ q) s.heap H locs) {n : Nat} (hn : n < 2 ^ 20) (hcells : cells + 1 ≤ R.cells) (hslots : slots + n ≤ R.slots) (hdg : decode cc pc = .ok (.newarray .long, 2))
    (kk : ∀ (q : Nat) (H1 : Heap), hpX q = none → lwS G s.heap.size H1 (hput hpX q (eJ n (fun _ => 0))) hpM → va_S (fun q => s.heap.size ≤ q) s.heap H1 locs → W p l e R s m args below meth c H1 locs (cells + 1) (slots + n) Q (F0 m (pc + 2) ls (.ref q :: rest))) : W p l e R s m args below meth c H locs cells slots Q (F0 m pc ls (.int (nI n) :: rest)) :=
  h_newJ hexec hb harr hK0 hL.un.1 hL.un.2 hS (fun _ h => h) hn hcells hslots hdg (fun q H1 hq hV1 hI hS1 => kk q H1 (hun_n hq).1 (hL.add hq hV1 hI hS1.1) hS1)
theorem lw_wrI {own : String} {index maxL nL fr lo : Nat} {y : MethodName} {bytes : ByteArray} {Ts ws ws' : List Cond} {As : List Value} {P : Option Value → HP → Prop} (S : CallFix p m c cc nL s args Ts own) (hM : hWr l y ws fr lo mc ms G (dA hpX H.size) hpX (.ref a :: As) P) (n : Nat) (hT : GoodIn Ts ws) (hw : ws = Cond.code y bytes maxL none :: ws') (hini : (Cond.initialized y.cls).before args s = true) (hlk : (Cond.methodLink own index y).before args s = true) (hins : (Cond.instanceMethod y).before args s = true) (hy1 : y.name = "<init>")
    (hd : y.cls ≠ "java/lang/invoke/MethodHandle" ∧ y.cls ≠ "java/lang/invoke/VarHandle" ∧ (parseMethodDescriptor y.desc).map (fun d => d.parameters.length) = some n) (hRm : fr + 1 ≤ R.frames ∧ 8 + (maxL + 11) + lo ≤ R.locals) (hK0 : hK G s) (hL : lwS G s.heap.size H hpX hpM) (hS : va_S (fun q => s.heap.size ≤ q) s.heap H locs)
    (hn : As.length = n) (hsize : ls.size = nL) (hstack : st0 = As.reverse ++ .ref a :: rest) (hWs : (rest.map fun v => v.category).sum ≤ 8) (hcl : cells + mc ≤ R.cells ∧ slots + ms ≤ R.slots) (hdg : decode cc pc = .ok (.invokespecial index, 3))
    (kk : ∀ (ro : Option Value) (hp' : HP) (H1 : Heap) (locs1 : List Loc), P ro hp' → lwS G s.heap.size H1 hp' hpM → va_S (fun q => s.heap.size ≤ q) s.heap H1 locs1 → W p l e R s m args below meth c H1 locs1 (cells + mc) (slots + ms) Q (F0 m (pc + 3) ls (ro.toList ++ rest))) : W p l e R s m args below meth c H locs cells slots Q (F0 m pc ls st0) :=
  lw_callW (va_runI (As := As) (rest := rest) S hM (cwI n S.2.2.2.2 hT hw rfl rfl hini hlk hins hy1 hd hRm) ⟨hPw_blind, fun U hU hW => ⟨rfl, by rw [hU]; exact hL.1, hK.moved hW.alike hK0, fun q hq => Or.inr (by rw [← hU]; exact hq)⟩⟩ rfl hn hsize hstack (lv_room hWs) hdg hcl) hS (lw_sub hL) (fun ro hp' H1 locs1 hP hV1 hI hz hk hS1 => kk ro hp' H1 locs1 hP (hL.call hV1 hI hz hk) hS1)
end LST
theorem vw_S0 : vw S0 0 = V0 := bv_ext rfl (by
  funext l2 r
  show (if r < 0 then sF S0 (1 + 13 * 0 + (3 * l2 + (0 - 1 - r))) else emR) = emR
  rw [if_neg (Nat.not_lt_zero r)]) rfl rfl
theorem gZ_law_X3_init : GoodIn wsZ_law wsZ_init := goodIn_app (gZl gL_law_X3_init) (gZr gZw)
