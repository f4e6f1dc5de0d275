/-! THE CLAIM OUT OF ONE WALK OF THE LAW'S BODY. Your part is whole_start (and what it stands on); all else here is the same for every law, but numbers. -/
def R_law : String := "SlipLevelsLaw"
def lw_P (b : Addr) (xs : List Int32) (args : Array Value) (s : State) : Prop := args = #[.ref b] ∧ s.IntsAt b xs ∧ xs.length ≤ 2048 ∧ (Jvm.Cond.and given_1 narrow_1).before args s = true
/-- what a walk over the start with the record d0 says of its end, said of the start itself -/
theorem lw_closed {s t : State} {o : Outcome} {d0 : Drawn} {L : List Loc} {k n : Nat} (hd0 : s.drawn.sameBut d0 lw_cs) (hv : ∃ v, o = .returned v) (hW : (s.setDrawn d0).WarmedH t.vm) (hs : (s.setDrawn d0).sameButNew ({ t with vm := s.vm } : State) L k n) : State.butDraws s t lw_cs (fun t1 => Framed s o t1 L k n) := by
  have h2 : t.drawn = d0 := congrArg State.drawn hs.1
  refine ⟨⟨hv, hW, State.sameButNew.setDrawn hs s.drawn⟩, ?_, by decide⟩
  rw [h2]
  exact hd0
def lw_Q (_ : Array Value) (s : State) (o : Outcome) (t : State) : Prop := o = .returned (some (.int 1)) ∧ State.butDraws s t lw_cs (fun t1 => Framed s o t1 [] 601024 7293034)
def lw_Z (below : List Frame) (a : Array Value) (s : State) : State → Prop := fun t => ∃ o, t.status = .running ∧ Ended t below o ∧ lw_Q a s o t
/-- the law's own end, with 1 on the stack, nothing written that was there before, its room as the claim has it; d0: the record of draws at this point (at the entry s.drawn: begin with 'refine W.base ?_' and 'have hd0 := Drawn.sameBut.refl s.drawn lw_cs') -/
theorem lw_ret {p : Program} {l : Launch} {e : Env} {s : State} {m : MethodId} {below : List Frame} {meth : Method} {c : Code} {b : Nat} {d0 : Drawn} (hd0 : s.drawn.sameBut d0 lw_cs) (hx : p.tables.exec = Jvm.exec) (hb : c.code = code) (hr : meth.sig.returnType = ret) (hlocks : meth.locks = false) {pc : Nat} {H : Heap} {ls : Array Slot} (hdg : decode code pc = .ok (.ireturn, 1)) : W p l e room_1 (s.setDrawn d0) m #[Value.ref b] below meth c H [] 601024 7293034 (lw_Z below #[Value.ref b] s) (F0 m pc ls [.int 1]) := by
  intro T hT X
  obtain ⟨fs, hret, hrun, hended, hW, hframe⟩ := X.leave (v := some (.int 1)) (hlocks := hlocks) (fun h => by rw [hr] at h; cases h)
  have hmeth' : T.vm.method? m = some meth := X.method'
  refine ⟨T.setFrames fs, ?_, .returned (some (.int 1)), hrun, hended, rfl, lw_closed hd0 ⟨_, rfl⟩ hW hframe⟩
  jvm_step X.here [X.here.top, hx, hb, hdg, hmeth', hr, ret, narrow_b1]
  (try refine ⟨rfl, ?_⟩); (try refine ⟨rfl, ?_⟩)
  first | (intro acts; rw [hret _ acts rfl rfl rfl]) | rw [hret _ _ rfl rfl rfl]
  exact Steps.refl _
/-- what holds at the law's entry: the machine, the code, the tables' words (any of lw_tbl by 'hts w (by decide +kernel)'), the script of L ints xs at the cell b, what the Statement gives of the start (any of its parts by flat_of_before) -/
def lw_At (p : Program) (s : State) (m : MethodId) (meth : Method) (c : Code) (b L : Nat) (xs : Nat → Int32) : Prop :=
  p.tables.exec = Jvm.exec ∧ c.code = code ∧ meth.sig.returnType = ret ∧ c.maxLocals = 9 ∧ s.vm.findClass R_law = some m.cls ∧ (∀ w ∈ lw_tbl, w.before #[Value.ref b] s = true) ∧ va_X b L xs s s.heap ∧ b < s.heap.size ∧ meth.locks = false ∧ (Jvm.Cond.and given_1 narrow_1).before #[Value.ref b] s = true
/-! the law's body: one call of the script -/
def lwJ (G : hG) (s : State) (ad : Nat → Nat) (q mo : Nat) (H : Heap) (locs : List Loc) : Prop := ∃ (S : CS) (th : Int32) (hpX hpM : HP), cW ad S hpX ∧ cI S ∧ (∃ f, hpX q = some (eJ 1 f)) ∧ mS mo th (sF S 0) (vw S 0) (sR S) (sD S) hpM ∧ lwS G s.heap.size H hpX hpM ∧ va_S (fun q => s.heap.size ≤ q) s.heap H locs
def wsZ_law : List Cond := wsL_law ++ wsZw
theorem wsZ_in : ∀ w ∈ wsZ_law, w ∈ lw_tbl := mem_ap wsL_law_in wsZw_il
theorem gZ_V2 {o1 o2 : String} {idx : Nat} {y : MethodName} {a ws : List Cond} (h : GoodIn a (wsV o1 idx o2 y ws)) : GoodIn (a ++ wsZw) (wsV o1 idx o2 y (ws ++ wsZw)) := by
  intro w hw
  have hw2 : w ∈ wsV o1 idx o2 y ws ∨ w ∈ wsZw := by
    unfold wsV at hw ⊢
    simp only [List.mem_append] at hw ⊢
    rcases hw with hw | hw | hw
    · exact Or.inl (Or.inl hw)
    · exact Or.inl (Or.inr hw)
    · exact Or.inr hw
  rcases hw2 with hw2 | hw2
  · exact gZl h w hw2
  · exact gZr gZw w hw2
section LW7
variable {p : Program} {l : Launch} {e : Env} {R : Room} {s : State} {m : MethodId} {args : Array Value} {below : List Frame} {meth : Method} {c : Code} {H : Heap} {locs : List Loc} {cells slots : Nat} {Q : State → Prop}
variable {cc : ByteArray} {pc : Nat} {ls : Array Slot} {rest : List Value} {A : Nat → Prop} {H0 : Heap}
theorem lw_sld (hexec : p.tables.exec = Jvm.exec) (hb : c.code = cc) {b L : Nat} {xs : Nat → Int32} (hX : va_X b L xs s H0) (hbl : b < H0.size) (hbA : ¬ A b) (hS : va_S A H0 H locs) {j : Nat} (hj : j < L) (hL : L < 2 ^ 31) (hdg : decode cc pc = .ok (.iaload, 1))
    (kk : W p l e R s m args below meth c H locs cells slots Q (F0 m (pc + 1) ls (.int (xs j) :: rest))) : W p l e R s m args below meth c H locs cells slots Q (F0 m pc ls (.int (nI j) :: .ref b :: rest)) :=
  va_sld hexec hb hX hbl hbA hS (vp_in_nI hj hL) hdg (by rw [nI_clamp (show j < 2 ^ 31 by omega)]; exact kk)
end LW7
theorem mn_c (k : Nat) (hk : k ≤ 768) : Op.cmpValue (FP.dcmp (mnV k) (mnV k)) .l = 0 := by
  have h := (mnV_ok ⟨k, by omega⟩).2
  have h2 : FP.dcmp (mnV k) (mnV k) = FP.dcmp (mnV 0) (mnV 0) := h
  rw [h2]
  decide +kernel

set_option maxHeartbeats 1000000 in
set_option maxRecDepth 100000 in
theorem lc_write {p : Program} {l : Launch} (hlt : l.stackTraces = false) {e : Env} {s : State} {m : MethodId} {below : List Frame} {meth : Method} {c : Code} {b L : Nat} {xs : Nat → Int32} (hL : L ≤ 2048) (C0 : lw_At p s m meth c b L xs) {G : hG} (hK0 : hK G s) (hZ0 : hZ (fun q => s.heap.size ≤ q) s) {i : Nat} (hi : 4 * i + 4 ≤ L) {H : Heap} {locs : List Loc} {cells slots : Nat} (hcl : cells + 136 ≤ 601024) (hsl : slots + 2744 ≤ 7293034) {ad : Nat → Nat} {q mo : Nat} (hqk : ∀ key, key < 61 → q ≠ ad key) (J : lwJ G s ad q mo H locs) {ls : Array Slot} {Q : State → Prop} (hl : lv_has ls 9 [(4, .int (nI (4 * i))), (0, .ref b), (1, .ref (aX ad)), (2, .ref mo), (3, .ref q)]) (kk : ∀ (H1 : Heap) (locs1 : List Loc) (ls : Array Slot), lwJ G s ad q mo H1 locs1 → lv_has ls 9 [(4, .int (nI (4 * i))), (0, .ref b), (1, .ref (aX ad)), (2, .ref mo), (3, .ref q)] → W p l e room_1 s m #[Value.ref b] below meth c H1 locs1 (cells + 136) (slots + 2744) Q (F0 m 1087 ls [])) : W p l e room_1 s m #[Value.ref b] below meth c H locs cells slots Q (F0 m 124 ls []) := by
  obtain ⟨hx, hb, hr, hml, hown, hts, hX, hbl, hlocks, hgv⟩ := C0
  obtain ⟨S, th, hpX, hpM, hC, hI, hq, hM, hLw, hS⟩ := J
  have hbA : ¬ (fun q : Nat => s.heap.size ≤ q) b := Nat.not_le.mpr hbl
  have hF : CallFix p m c cL_law 9 s #[Value.ref b] wsZ_law RL := ⟨hx, hb, hml, hown, fun w h => hts w (wsZ_in w h)⟩
  refine lv_aload_n hx hb dL_law_124 rfl (lv_at hl 2 rfl) ?_
  refine lv_aload_n hx hb dL_law_125 rfl (lv_at hl 1 rfl) ?_
  refine lv_iload hx hb dL_law_126 (lv_at hl 0 rfl) ?_
  refine lv_iconst (v := nI 1) hx hb dL_law_128 (by decide) ?_
  refine h_iaddN hx hb dL_law_129 ?_
  refine lw_sld (j := 4 * i + 1) hx hb hX hbl hbA hS (by omega) (by omega) dL_law_130 ?_
  refine lv_aload_n hx hb dL_law_131 rfl (lv_at hl 1 rfl) ?_
  refine lv_iload hx hb dL_law_132 (lv_at hl 0 rfl) ?_
  refine lv_iconst (v := nI 2) hx hb dL_law_134 (by decide) ?_
  refine h_iaddN hx hb dL_law_135 ?_
  refine lw_sld (j := 4 * i + 2) hx hb hX hbl hbA hS (by omega) (by omega) dL_law_136 ?_
  refine lv_aload_n hx hb dL_law_137 rfl (lv_at hl 4 rfl) ?_
  obtain ⟨k, v, bb, S2, hk3, hI2, hkv, hhX, hhM⟩ := cs_write hlt hC hI hq hqk hM ((xs (4 * i + 1))) ((xs (4 * i + 2)))
  refine lw_wrS (As := [.ref (aX ad), .int (xs (4 * i + 1)), .int (xs (4 * i + 2)), .ref q]) (rest := []) hF (hhX (dA hpX H.size) (dA_in _ _)) 4 (gZl gL_law_L_write) rfl (by decide +kernel) ⟨(Nat.le_of_ble_eq_true rfl), (Nat.le_of_ble_eq_true rfl)⟩ hK0 hZ0 hLw hS rfl hl.1 rfl (Nat.le_of_ble_eq_true rfl) ⟨by show _ ≤ 601024; omega, by show _ ≤ 7293034; omega⟩ dL_law_138 (k1 := cells + 68) (k2 := slots + 1372) (by omega) (by omega) (fun ro hpX2 H locs hP1 hLw hS => ?_)
  obtain ⟨rfl, hC2, f, hq2, hfv⟩ := hP1
  refine lv_istore (lv' := [(5, .int (nI k)), (4, .int (nI (4 * i))), (0, .ref b), (1, .ref (aX ad)), (2, .ref mo), (3, .ref q)]) hx hb dL_law_141 hl (by decide) rfl (fun ls hl => ?_)
  refine lv_aload_n hx hb dL_law_143 rfl (lv_at hl 4 rfl) ?_
  refine lv_aload_n hx hb dL_law_144 rfl (lv_at hl 2 rfl) ?_
  refine lv_iload hx hb dL_law_145 (lv_at hl 1 rfl) ?_
  refine lv_iconst (v := nI 1) hx hb dL_law_147 (by decide) ?_
  refine h_iaddN hx hb dL_law_148 ?_
  refine lw_sld (j := 4 * i + 1) hx hb hX hbl hbA hS (by omega) (by omega) dL_law_149 ?_
  refine lv_aload_n hx hb dL_law_150 rfl (lv_at hl 2 rfl) ?_
  refine lv_iload hx hb dL_law_151 (lv_at hl 1 rfl) ?_
  refine lv_iconst (v := nI 2) hx hb dL_law_153 (by decide) ?_
  refine h_iaddN hx hb dL_law_154 ?_
  refine lw_sld (j := 4 * i + 2) hx hb hX hbl hbA hS (by omega) (by omega) dL_law_155 ?_
  obtain ⟨fr, lo, mc, ms, g1, g2, g3, g4, hcM⟩ := hhM (dA hpM H.size) (dA_in _ _)
  obtain ⟨dk0, lv0_, nb0, lvl0, row0, hm0, -⟩ := hM
  refine lw_wrV (As := [.int (xs (4 * i + 1)), .int (xs (4 * i + 2))]) (rest := []) hF hcM 2 (gZl gL_law_X3_write) rfl (by decide +kernel) ⟨by show fr + 1 ≤ 11; omega, by show 8 + (3 + 11) + lo ≤ 392; omega⟩ hK0 hLw.swap hS hm0.cmo rfl rfl rfl hl.1 rfl (Nat.le_of_ble_eq_true rfl) ⟨by show _ ≤ 601024; omega, by show _ ≤ 7293034; omega⟩ dL_law_156 (k1 := cells + 136) (k2 := slots + 2744) (by omega) (by omega) (fun ro hpM2 H locs hP1 hLw hS => ?_)
  obtain ⟨rfl, hM2⟩ := hP1
  replace hLw := hLw.swap
  refine lv_istore (lv' := [(6, .int bb), (5, .int (nI k)), (4, .int (nI (4 * i))), (0, .ref b), (1, .ref (aX ad)), (2, .ref mo), (3, .ref q)]) hx hb dL_law_159 hl (by decide) rfl (fun ls hl => ?_)
  refine lv_aload_n hx hb dL_law_161 rfl (lv_at hl 5 rfl) ?_
  obtain ⟨dk, lv, nb, lvl, row, hm2, hD2⟩ := hM2
  refine h_rdV (As := []) (rest := []) hF (c_X3_thrown l G hpM2 mo dk lv nb lvl row _ _ _ _ _ hm2) 0 (gZl gL_law_X3_thrown) rfl (by decide +kernel) ⟨(Nat.le_of_ble_eq_true rfl), (Nat.le_of_ble_eq_true rfl)⟩ hK0 hLw.2.1 hm2.cmo rfl rfl rfl hl.1 rfl (Nat.le_of_ble_eq_true rfl) (by show _ ≤ 601024; omega) (by show _ ≤ 7293034; omega) dL_law_162 ?_
  refine lv_iload hx hb dL_law_165 (lv_at hl 1 rfl) ?_
  refine h_icmp_eq (a := k) (b := k) (tgt := 172) hx hb dL_law_167 (by decide) (by omega) (by omega) (fun c_167 => ?_) (fun c_167 => absurd rfl c_167)
  refine lv_iload hx hb dL_law_172 (lv_at hl 1 rfl) ?_
  refine h_if_ne (a := k) (tgt := 196) hx hb dL_law_174 (by decide) (by omega) (fun c_174 => ?_) (fun c_174 => ?_)
  · refine lv_goto (tgt := 1087) hx hb dL_law_196 (by decide) ?_
    exact kk H locs ls ⟨S2, _, hpX2, hpM2, hC2, hI2, ⟨f, hq2⟩, ⟨dk, lv, nb, lvl, row, hm2, hD2⟩, hLw, hS⟩ (lv_sub hl [2, 3, 4, 5, 6] rfl)
  · refine lv_aload_n hx hb dL_law_177 rfl (lv_at hl 6 rfl) ?_
    refine lv_iconst (v := nI 0) hx hb dL_law_178 (by decide) ?_
    refine h_lald (i := 0) hx hb hK0 hLw.1 hq2 (by omega) (by omega) dL_law_179 ?_
    refine lv_iload hx hb dL_law_180 (lv_at hl 0 rfl) ?_
    refine lv_if_eq (tgt := 189) hx hb dL_law_182 (by decide) (fun c_182 => ?_) (fun c_182 => ?_)
    · refine lv_lconst (v := 0) hx hb dL_law_189 (by decide) ?_
      refine lv_lcmpE (x := f 0) (y := 0) hx hb (((hfv c_174).trans (hkv c_174)).trans (if_pos c_182)) dL_law_190 ?_
      refine lv_if_eq (tgt := 196) hx hb dL_law_191 (by decide) (fun c_191 => ?_) (fun c_191 => absurd rfl c_191)
      refine lv_goto (tgt := 1087) hx hb dL_law_196 (by decide) ?_
      exact kk H locs ls ⟨S2, _, hpX2, hpM2, hC2, hI2, ⟨f, hq2⟩, ⟨dk, lv, nb, lvl, row, hm2, hD2⟩, hLw, hS⟩ (lv_sub hl [2, 3, 4, 5, 6] rfl)
    · refine lv_lconst (v := 1) hx hb dL_law_185 (by decide) ?_
      refine lv_goto (tgt := 190) hx hb dL_law_186 (by decide) ?_
      refine lv_lcmpE (x := f 0) (y := 1) hx hb (((hfv c_174).trans (hkv c_174)).trans (if_neg c_182)) dL_law_190 ?_
      refine lv_if_eq (tgt := 196) hx hb dL_law_191 (by decide) (fun c_191 => ?_) (fun c_191 => absurd rfl c_191)
      refine lv_goto (tgt := 1087) hx hb dL_law_196 (by decide) ?_
      exact kk H locs ls ⟨S2, _, hpX2, hpM2, hC2, hI2, ⟨f, hq2⟩, ⟨dk, lv, nb, lvl, row, hm2, hD2⟩, hLw, hS⟩ (lv_sub hl [2, 3, 4, 5, 6] rfl)

set_option maxHeartbeats 1000000 in
set_option maxRecDepth 100000 in
theorem lc_strike {p : Program} {l : Launch} (hlt : l.stackTraces = false) {e : Env} {s : State} {m : MethodId} {below : List Frame} {meth : Method} {c : Code} {b L : Nat} {xs : Nat → Int32} (hL : L ≤ 2048) (C0 : lw_At p s m meth c b L xs) {G : hG} (hK0 : hK G s) (hZ0 : hZ (fun q => s.heap.size ≤ q) s) {i : Nat} (hi : 4 * i + 4 ≤ L) {H : Heap} {locs : List Loc} {cells slots : Nat} (hcl : cells + 136 ≤ 601024) (hsl : slots + 2744 ≤ 7293034) {ad : Nat → Nat} {q mo : Nat} (hqk : ∀ key, key < 61 → q ≠ ad key) (J : lwJ G s ad q mo H locs) {ls : Array Slot} {Q : State → Prop} (hl : lv_has ls 9 [(4, .int (nI (4 * i))), (0, .ref b), (1, .ref (aX ad)), (2, .ref mo), (3, .ref q)]) (kk : ∀ (H1 : Heap) (locs1 : List Loc) (ls : Array Slot), lwJ G s ad q mo H1 locs1 → lv_has ls 9 [(4, .int (nI (4 * i))), (0, .ref b), (1, .ref (aX ad)), (2, .ref mo), (3, .ref q)] → W p l e room_1 s m #[Value.ref b] below meth c H1 locs1 (cells + 136) (slots + 2744) Q (F0 m 1087 ls [])) : W p l e room_1 s m #[Value.ref b] below meth c H locs cells slots Q (F0 m 199 ls []) := by
  obtain ⟨hx, hb, hr, hml, hown, hts, hX, hbl, hlocks, hgv⟩ := C0
  obtain ⟨S, th, hpX, hpM, hC, hI, hq, hM, hLw, hS⟩ := J
  have hbA : ¬ (fun q : Nat => s.heap.size ≤ q) b := Nat.not_le.mpr hbl
  have hF : CallFix p m c cL_law 9 s #[Value.ref b] wsZ_law RL := ⟨hx, hb, hml, hown, fun w h => hts w (wsZ_in w h)⟩
  refine lv_aload_n hx hb dL_law_199 rfl (lv_at hl 2 rfl) ?_
  refine lv_aload_n hx hb dL_law_200 rfl (lv_at hl 1 rfl) ?_
  refine lv_iload hx hb dL_law_201 (lv_at hl 0 rfl) ?_
  refine lv_iconst (v := nI 1) hx hb dL_law_203 (by decide) ?_
  refine h_iaddN hx hb dL_law_204 ?_
  refine lw_sld (j := 4 * i + 1) hx hb hX hbl hbA hS (by omega) (by omega) dL_law_205 ?_
  refine lv_aload_n hx hb dL_law_206 rfl (lv_at hl 4 rfl) ?_
  obtain ⟨k, v, bb, S2, hk3, hI2, hkv, hhX, hhM⟩ := cs_strike hlt hC hI hq hqk hM ((xs (4 * i + 1)))
  refine lw_wrS (As := [.ref (aX ad), .int (xs (4 * i + 1)), .ref q]) (rest := []) hF (hhX (dA hpX H.size) (dA_in _ _)) 3 (gZl gL_law_L_strike) rfl (by decide +kernel) ⟨(Nat.le_of_ble_eq_true rfl), (Nat.le_of_ble_eq_true rfl)⟩ hK0 hZ0 hLw hS rfl hl.1 rfl (Nat.le_of_ble_eq_true rfl) ⟨by show _ ≤ 601024; omega, by show _ ≤ 7293034; omega⟩ dL_law_207 (k1 := cells + 68) (k2 := slots + 1372) (by omega) (by omega) (fun ro hpX2 H locs hP1 hLw hS => ?_)
  obtain ⟨rfl, hC2, f, hq2, hfv⟩ := hP1
  refine lv_istore (lv' := [(5, .int (nI k)), (4, .int (nI (4 * i))), (0, .ref b), (1, .ref (aX ad)), (2, .ref mo), (3, .ref q)]) hx hb dL_law_210 hl (by decide) rfl (fun ls hl => ?_)
  refine lv_aload_n hx hb dL_law_212 rfl (lv_at hl 4 rfl) ?_
  refine lv_aload_n hx hb dL_law_213 rfl (lv_at hl 2 rfl) ?_
  refine lv_iload hx hb dL_law_214 (lv_at hl 1 rfl) ?_
  refine lv_iconst (v := nI 1) hx hb dL_law_216 (by decide) ?_
  refine h_iaddN hx hb dL_law_217 ?_
  refine lw_sld (j := 4 * i + 1) hx hb hX hbl hbA hS (by omega) (by omega) dL_law_218 ?_
  obtain ⟨fr, lo, mc, ms, g1, g2, g3, g4, hcM⟩ := hhM (dA hpM H.size) (dA_in _ _)
  obtain ⟨dk0, lv0_, nb0, lvl0, row0, hm0, -⟩ := hM
  refine lw_wrV (As := [.int (xs (4 * i + 1))]) (rest := []) hF hcM 1 (gZl gL_law_X3_strike) rfl (by decide +kernel) ⟨by show fr + 1 ≤ 11; omega, by show 8 + (2 + 11) + lo ≤ 392; omega⟩ hK0 hLw.swap hS hm0.cmo rfl rfl rfl hl.1 rfl (Nat.le_of_ble_eq_true rfl) ⟨by show _ ≤ 601024; omega, by show _ ≤ 7293034; omega⟩ dL_law_219 (k1 := cells + 136) (k2 := slots + 2744) (by omega) (by omega) (fun ro hpM2 H locs hP1 hLw hS => ?_)
  obtain ⟨rfl, hM2⟩ := hP1
  replace hLw := hLw.swap
  refine lv_istore (lv' := [(6, .int bb), (5, .int (nI k)), (4, .int (nI (4 * i))), (0, .ref b), (1, .ref (aX ad)), (2, .ref mo), (3, .ref q)]) hx hb dL_law_222 hl (by decide) rfl (fun ls hl => ?_)
  refine lv_aload_n hx hb dL_law_224 rfl (lv_at hl 5 rfl) ?_
  obtain ⟨dk, lv, nb, lvl, row, hm2, hD2⟩ := hM2
  refine h_rdV (As := []) (rest := []) hF (c_X3_thrown l G hpM2 mo dk lv nb lvl row _ _ _ _ _ hm2) 0 (gZl gL_law_X3_thrown) rfl (by decide +kernel) ⟨(Nat.le_of_ble_eq_true rfl), (Nat.le_of_ble_eq_true rfl)⟩ hK0 hLw.2.1 hm2.cmo rfl rfl rfl hl.1 rfl (Nat.le_of_ble_eq_true rfl) (by show _ ≤ 601024; omega) (by show _ ≤ 7293034; omega) dL_law_225 ?_
  refine lv_iload hx hb dL_law_228 (lv_at hl 1 rfl) ?_
  refine h_icmp_eq (a := k) (b := k) (tgt := 235) hx hb dL_law_230 (by decide) (by omega) (by omega) (fun c_230 => ?_) (fun c_230 => absurd rfl c_230)
  refine lv_iload hx hb dL_law_235 (lv_at hl 1 rfl) ?_
  refine h_if_ne (a := k) (tgt := 259) hx hb dL_law_237 (by decide) (by omega) (fun c_237 => ?_) (fun c_237 => ?_)
  · refine lv_goto (tgt := 1087) hx hb dL_law_259 (by decide) ?_
    exact kk H locs ls ⟨S2, _, hpX2, hpM2, hC2, hI2, ⟨f, hq2⟩, ⟨dk, lv, nb, lvl, row, hm2, hD2⟩, hLw, hS⟩ (lv_sub hl [2, 3, 4, 5, 6] rfl)
  · refine lv_aload_n hx hb dL_law_240 rfl (lv_at hl 6 rfl) ?_
    refine lv_iconst (v := nI 0) hx hb dL_law_241 (by decide) ?_
    refine h_lald (i := 0) hx hb hK0 hLw.1 hq2 (by omega) (by omega) dL_law_242 ?_
    refine lv_iload hx hb dL_law_243 (lv_at hl 0 rfl) ?_
    refine lv_if_eq (tgt := 252) hx hb dL_law_245 (by decide) (fun c_245 => ?_) (fun c_245 => ?_)
    · refine lv_lconst (v := 0) hx hb dL_law_252 (by decide) ?_
      refine lv_lcmpE (x := f 0) (y := 0) hx hb (((hfv c_237).trans (hkv c_237)).trans (if_pos c_245)) dL_law_253 ?_
      refine lv_if_eq (tgt := 259) hx hb dL_law_254 (by decide) (fun c_254 => ?_) (fun c_254 => absurd rfl c_254)
      refine lv_goto (tgt := 1087) hx hb dL_law_259 (by decide) ?_
      exact kk H locs ls ⟨S2, _, hpX2, hpM2, hC2, hI2, ⟨f, hq2⟩, ⟨dk, lv, nb, lvl, row, hm2, hD2⟩, hLw, hS⟩ (lv_sub hl [2, 3, 4, 5, 6] rfl)
    · refine lv_lconst (v := 1) hx hb dL_law_248 (by decide) ?_
      refine lv_goto (tgt := 253) hx hb dL_law_249 (by decide) ?_
      refine lv_lcmpE (x := f 0) (y := 1) hx hb (((hfv c_237).trans (hkv c_237)).trans (if_neg c_245)) dL_law_253 ?_
      refine lv_if_eq (tgt := 259) hx hb dL_law_254 (by decide) (fun c_254 => ?_) (fun c_254 => absurd rfl c_254)
      refine lv_goto (tgt := 1087) hx hb dL_law_259 (by decide) ?_
      exact kk H locs ls ⟨S2, _, hpX2, hpM2, hC2, hI2, ⟨f, hq2⟩, ⟨dk, lv, nb, lvl, row, hm2, hD2⟩, hLw, hS⟩ (lv_sub hl [2, 3, 4, 5, 6] rfl)

set_option maxHeartbeats 1000000 in
set_option maxRecDepth 100000 in
theorem lc_bind {p : Program} {l : Launch} (hlt : l.stackTraces = false) {e : Env} {s : State} {m : MethodId} {below : List Frame} {meth : Method} {c : Code} {b L : Nat} {xs : Nat → Int32} (hL : L ≤ 2048) (C0 : lw_At p s m meth c b L xs) {G : hG} (hK0 : hK G s) (hZ0 : hZ (fun q => s.heap.size ≤ q) s) {i : Nat} (hi : 4 * i + 4 ≤ L) {H : Heap} {locs : List Loc} {cells slots : Nat} (hcl : cells + 136 ≤ 601024) (hsl : slots + 2744 ≤ 7293034) {ad : Nat → Nat} {q mo : Nat} (hqk : ∀ key, key < 61 → q ≠ ad key) (J : lwJ G s ad q mo H locs) {ls : Array Slot} {Q : State → Prop} (hl : lv_has ls 9 [(4, .int (nI (4 * i))), (0, .ref b), (1, .ref (aX ad)), (2, .ref mo), (3, .ref q)]) (kk : ∀ (H1 : Heap) (locs1 : List Loc) (ls : Array Slot), lwJ G s ad q mo H1 locs1 → lv_has ls 9 [(4, .int (nI (4 * i))), (0, .ref b), (1, .ref (aX ad)), (2, .ref mo), (3, .ref q)] → W p l e room_1 s m #[Value.ref b] below meth c H1 locs1 (cells + 136) (slots + 2744) Q (F0 m 1087 ls [])) : W p l e room_1 s m #[Value.ref b] below meth c H locs cells slots Q (F0 m 262 ls []) := by
  obtain ⟨hx, hb, hr, hml, hown, hts, hX, hbl, hlocks, hgv⟩ := C0
  obtain ⟨S, th, hpX, hpM, hC, hI, hq, hM, hLw, hS⟩ := J
  have hbA : ¬ (fun q : Nat => s.heap.size ≤ q) b := Nat.not_le.mpr hbl
  have hF : CallFix p m c cL_law 9 s #[Value.ref b] wsZ_law RL := ⟨hx, hb, hml, hown, fun w h => hts w (wsZ_in w h)⟩
  refine lv_aload_n hx hb dL_law_262 rfl (lv_at hl 2 rfl) ?_
  obtain ⟨v, S2, th2, hg, hI2, hhX, hhM⟩ := cs_bind hlt hC hI hq hqk hM
  obtain ⟨r, rfl⟩ := hg
  obtain ⟨fr, lo, g1, g2, hcX⟩ := hhX (dA hpX H.size) (dA_in _ _)
  refine lw_wrV (As := []) (rest := []) hF hcX 0 (gZl gL_law_X2_bind) rfl (by decide +kernel) ⟨by show fr + 1 ≤ 11; omega, by show 8 + (1 + 11) + lo ≤ 392; omega⟩ hK0 hLw hS hC.xo rfl rfl rfl hl.1 rfl (Nat.le_of_ble_eq_true rfl) ⟨by show _ ≤ 601024; omega, by show _ ≤ 7293034; omega⟩ dL_law_263 (k1 := cells + 68) (k2 := slots + 1372) (by omega) (by omega) (fun ro hpX2 H locs hP1 hLw hS => ?_)
  obtain ⟨rfl, hC2, f, hq2⟩ := hP1
  skip
  refine lv_aload_n hx hb dL_law_266 rfl (lv_at hl 3 rfl) ?_
  obtain ⟨fr, lo, mc, ms, g1, g2, g3, g4, hcM⟩ := hhM (dA hpM H.size) (dA_in _ _)
  obtain ⟨dk0, lv0_, nb0, lvl0, row0, hm0, -⟩ := hM
  refine lw_wrV (As := []) (rest := [.int r]) hF hcM 0 (gZl gL_law_X3_bind) rfl (by decide +kernel) ⟨by show fr + 1 ≤ 11; omega, by show 8 + (1 + 11) + lo ≤ 392; omega⟩ hK0 hLw.swap hS hm0.cmo rfl rfl rfl hl.1 rfl (Nat.le_of_ble_eq_true rfl) ⟨by show _ ≤ 601024; omega, by show _ ≤ 7293034; omega⟩ dL_law_267 (k1 := cells + 136) (k2 := slots + 2744) (by omega) (by omega) (fun ro hpM2 H locs hP1 hLw hS => ?_)
  obtain ⟨rfl, hM2⟩ := hP1
  replace hLw := hLw.swap
  refine lv_icmp_eq (tgt := 1087) hx hb dL_law_270 (by decide) (fun c_270 => ?_) (fun c_270 => absurd rfl c_270)
  exact kk H locs ls ⟨S2, _, hpX2, hpM2, hC2, hI2, ⟨f, hq2⟩, hM2, hLw, hS⟩ (lv_sub hl [0, 1, 2, 3, 4] rfl)

set_option maxHeartbeats 1000000 in
set_option maxRecDepth 100000 in
theorem lc_merge {p : Program} {l : Launch} (hlt : l.stackTraces = false) {e : Env} {s : State} {m : MethodId} {below : List Frame} {meth : Method} {c : Code} {b L : Nat} {xs : Nat → Int32} (hL : L ≤ 2048) (C0 : lw_At p s m meth c b L xs) {G : hG} (hK0 : hK G s) (hZ0 : hZ (fun q => s.heap.size ≤ q) s) {i : Nat} (hi : 4 * i + 4 ≤ L) {H : Heap} {locs : List Loc} {cells slots : Nat} (hcl : cells + 136 ≤ 601024) (hsl : slots + 2744 ≤ 7293034) {ad : Nat → Nat} {q mo : Nat} (hqk : ∀ key, key < 61 → q ≠ ad key) (J : lwJ G s ad q mo H locs) {ls : Array Slot} {Q : State → Prop} (hl : lv_has ls 9 [(4, .int (nI (4 * i))), (0, .ref b), (1, .ref (aX ad)), (2, .ref mo), (3, .ref q)]) (kk : ∀ (H1 : Heap) (locs1 : List Loc) (ls : Array Slot), lwJ G s ad q mo H1 locs1 → lv_has ls 9 [(4, .int (nI (4 * i))), (0, .ref b), (1, .ref (aX ad)), (2, .ref mo), (3, .ref q)] → W p l e room_1 s m #[Value.ref b] below meth c H1 locs1 (cells + 136) (slots + 2744) Q (F0 m 1087 ls [])) : W p l e room_1 s m #[Value.ref b] below meth c H locs cells slots Q (F0 m 275 ls []) := by
  obtain ⟨hx, hb, hr, hml, hown, hts, hX, hbl, hlocks, hgv⟩ := C0
  obtain ⟨S, th, hpX, hpM, hC, hI, hq, hM, hLw, hS⟩ := J
  have hbA : ¬ (fun q : Nat => s.heap.size ≤ q) b := Nat.not_le.mpr hbl
  have hF : CallFix p m c cL_law 9 s #[Value.ref b] wsZ_law RL := ⟨hx, hb, hml, hown, fun w h => hts w (wsZ_in w h)⟩
  refine lv_aload_n hx hb dL_law_275 rfl (lv_at hl 2 rfl) ?_
  refine lv_aload_n hx hb dL_law_276 rfl (lv_at hl 1 rfl) ?_
  refine lv_iload hx hb dL_law_277 (lv_at hl 0 rfl) ?_
  refine lv_iconst (v := nI 1) hx hb dL_law_279 (by decide) ?_
  refine h_iaddN hx hb dL_law_280 ?_
  refine lw_sld (j := 4 * i + 1) hx hb hX hbl hbA hS (by omega) (by omega) dL_law_281 ?_
  refine lv_aload_n hx hb dL_law_282 rfl (lv_at hl 4 rfl) ?_
  obtain ⟨k, v, bb, S2, hk3, hI2, hkv, hhX, hhM⟩ := cs_merge hlt hC hI hq hqk hM ((xs (4 * i + 1)))
  refine lw_wrS (As := [.ref (aX ad), .int (xs (4 * i + 1)), .ref q]) (rest := []) hF (hhX (dA hpX H.size) (dA_in _ _)) 3 (gZl gL_law_L_merge) rfl (by decide +kernel) ⟨(Nat.le_of_ble_eq_true rfl), (Nat.le_of_ble_eq_true rfl)⟩ hK0 hZ0 hLw hS rfl hl.1 rfl (Nat.le_of_ble_eq_true rfl) ⟨by show _ ≤ 601024; omega, by show _ ≤ 7293034; omega⟩ dL_law_283 (k1 := cells + 68) (k2 := slots + 1372) (by omega) (by omega) (fun ro hpX2 H locs hP1 hLw hS => ?_)
  obtain ⟨rfl, hC2, f, hq2, hfv⟩ := hP1
  refine lv_istore (lv' := [(5, .int (nI k)), (4, .int (nI (4 * i))), (0, .ref b), (1, .ref (aX ad)), (2, .ref mo), (3, .ref q)]) hx hb dL_law_286 hl (by decide) rfl (fun ls hl => ?_)
  refine lv_aload_n hx hb dL_law_288 rfl (lv_at hl 4 rfl) ?_
  refine lv_aload_n hx hb dL_law_289 rfl (lv_at hl 2 rfl) ?_
  refine lv_iload hx hb dL_law_290 (lv_at hl 1 rfl) ?_
  refine lv_iconst (v := nI 1) hx hb dL_law_292 (by decide) ?_
  refine h_iaddN hx hb dL_law_293 ?_
  refine lw_sld (j := 4 * i + 1) hx hb hX hbl hbA hS (by omega) (by omega) dL_law_294 ?_
  obtain ⟨fr, lo, mc, ms, g1, g2, g3, g4, hcM⟩ := hhM (dA hpM H.size) (dA_in _ _)
  obtain ⟨dk0, lv0_, nb0, lvl0, row0, hm0, -⟩ := hM
  refine lw_wrV (As := [.int (xs (4 * i + 1))]) (rest := []) hF hcM 1 (gZl gL_law_X3_merge) rfl (by decide +kernel) ⟨by show fr + 1 ≤ 11; omega, by show 8 + (3 + 11) + lo ≤ 392; omega⟩ hK0 hLw.swap hS hm0.cmo rfl rfl rfl hl.1 rfl (Nat.le_of_ble_eq_true rfl) ⟨by show _ ≤ 601024; omega, by show _ ≤ 7293034; omega⟩ dL_law_295 (k1 := cells + 136) (k2 := slots + 2744) (by omega) (by omega) (fun ro hpM2 H locs hP1 hLw hS => ?_)
  obtain ⟨rfl, hM2⟩ := hP1
  replace hLw := hLw.swap
  refine lv_istore (lv' := [(6, .int bb), (5, .int (nI k)), (4, .int (nI (4 * i))), (0, .ref b), (1, .ref (aX ad)), (2, .ref mo), (3, .ref q)]) hx hb dL_law_298 hl (by decide) rfl (fun ls hl => ?_)
  refine lv_aload_n hx hb dL_law_300 rfl (lv_at hl 5 rfl) ?_
  obtain ⟨dk, lv, nb, lvl, row, hm2, hD2⟩ := hM2
  refine h_rdV (As := []) (rest := []) hF (c_X3_thrown l G hpM2 mo dk lv nb lvl row _ _ _ _ _ hm2) 0 (gZl gL_law_X3_thrown) rfl (by decide +kernel) ⟨(Nat.le_of_ble_eq_true rfl), (Nat.le_of_ble_eq_true rfl)⟩ hK0 hLw.2.1 hm2.cmo rfl rfl rfl hl.1 rfl (Nat.le_of_ble_eq_true rfl) (by show _ ≤ 601024; omega) (by show _ ≤ 7293034; omega) dL_law_301 ?_
  refine lv_iload hx hb dL_law_304 (lv_at hl 1 rfl) ?_
  refine h_icmp_eq (a := k) (b := k) (tgt := 311) hx hb dL_law_306 (by decide) (by omega) (by omega) (fun c_306 => ?_) (fun c_306 => absurd rfl c_306)
  refine lv_iload hx hb dL_law_311 (lv_at hl 1 rfl) ?_
  refine h_if_ne (a := k) (tgt := 328) hx hb dL_law_313 (by decide) (by omega) (fun c_313 => ?_) (fun c_313 => ?_)
  · refine lv_goto (tgt := 1087) hx hb dL_law_328 (by decide) ?_
    exact kk H locs ls ⟨S2, _, hpX2, hpM2, hC2, hI2, ⟨f, hq2⟩, ⟨dk, lv, nb, lvl, row, hm2, hD2⟩, hLw, hS⟩ (lv_sub hl [2, 3, 4, 5, 6] rfl)
  · refine lv_aload_n hx hb dL_law_316 rfl (lv_at hl 6 rfl) ?_
    refine lv_iconst (v := nI 0) hx hb dL_law_317 (by decide) ?_
    refine h_lald (i := 0) hx hb hK0 hLw.1 hq2 (by omega) (by omega) dL_law_318 ?_
    refine lv_iload hx hb dL_law_319 (lv_at hl 0 rfl) ?_
    refine lv_i2l (v := (bb).toInt64) hx hb dL_law_321 rfl ?_
    refine lv_lcmpE (x := f 0) (y := (bb).toInt64) hx hb ((hfv c_313).trans (hkv c_313)) dL_law_322 ?_
    refine lv_if_eq (tgt := 328) hx hb dL_law_323 (by decide) (fun c_323 => ?_) (fun c_323 => absurd rfl c_323)
    refine lv_goto (tgt := 1087) hx hb dL_law_328 (by decide) ?_
    exact kk H locs ls ⟨S2, _, hpX2, hpM2, hC2, hI2, ⟨f, hq2⟩, ⟨dk, lv, nb, lvl, row, hm2, hD2⟩, hLw, hS⟩ (lv_sub hl [2, 3, 4, 5, 6] rfl)

set_option maxHeartbeats 1000000 in
set_option maxRecDepth 100000 in
theorem lc_setRoom {p : Program} {l : Launch} (hlt : l.stackTraces = false) {e : Env} {s : State} {m : MethodId} {below : List Frame} {meth : Method} {c : Code} {b L : Nat} {xs : Nat → Int32} (hL : L ≤ 2048) (C0 : lw_At p s m meth c b L xs) {G : hG} (hK0 : hK G s) (hZ0 : hZ (fun q => s.heap.size ≤ q) s) {i : Nat} (hi : 4 * i + 4 ≤ L) {H : Heap} {locs : List Loc} {cells slots : Nat} (hcl : cells + 136 ≤ 601024) (hsl : slots + 2744 ≤ 7293034) {ad : Nat → Nat} {q mo : Nat} (hqk : ∀ key, key < 61 → q ≠ ad key) (J : lwJ G s ad q mo H locs) {ls : Array Slot} {Q : State → Prop} (hl : lv_has ls 9 [(4, .int (nI (4 * i))), (0, .ref b), (1, .ref (aX ad)), (2, .ref mo), (3, .ref q)]) (kk : ∀ (H1 : Heap) (locs1 : List Loc) (ls : Array Slot), lwJ G s ad q mo H1 locs1 → lv_has ls 9 [(4, .int (nI (4 * i))), (0, .ref b), (1, .ref (aX ad)), (2, .ref mo), (3, .ref q)] → W p l e room_1 s m #[Value.ref b] below meth c H1 locs1 (cells + 136) (slots + 2744) Q (F0 m 1087 ls [])) : W p l e room_1 s m #[Value.ref b] below meth c H locs cells slots Q (F0 m 331 ls []) := by
  obtain ⟨hx, hb, hr, hml, hown, hts, hX, hbl, hlocks, hgv⟩ := C0
  obtain ⟨S, th, hpX, hpM, hC, hI, hq, hM, hLw, hS⟩ := J
  have hbA : ¬ (fun q : Nat => s.heap.size ≤ q) b := Nat.not_le.mpr hbl
  have hF : CallFix p m c cL_law 9 s #[Value.ref b] wsZ_law RL := ⟨hx, hb, hml, hown, fun w h => hts w (wsZ_in w h)⟩
  refine lv_aload_n hx hb dL_law_331 rfl (lv_at hl 2 rfl) ?_
  refine lv_aload_n hx hb dL_law_332 rfl (lv_at hl 1 rfl) ?_
  refine lv_iload hx hb dL_law_333 (lv_at hl 0 rfl) ?_
  refine lv_iconst (v := nI 1) hx hb dL_law_335 (by decide) ?_
  refine h_iaddN hx hb dL_law_336 ?_
  refine lw_sld (j := 4 * i + 1) hx hb hX hbl hbA hS (by omega) (by omega) dL_law_337 ?_
  refine lv_aload_n hx hb dL_law_338 rfl (lv_at hl 4 rfl) ?_
  obtain ⟨k, v, bb, S2, hk3, hI2, hkv, hhX, hhM⟩ := cs_setRoom hlt hC hI hq hqk hM ((xs (4 * i + 1)))
  refine lw_wrS (As := [.ref (aX ad), .int (xs (4 * i + 1)), .ref q]) (rest := []) hF (hhX (dA hpX H.size) (dA_in _ _)) 3 (gZl gL_law_L_setRoom) rfl (by decide +kernel) ⟨(Nat.le_of_ble_eq_true rfl), (Nat.le_of_ble_eq_true rfl)⟩ hK0 hZ0 hLw hS rfl hl.1 rfl (Nat.le_of_ble_eq_true rfl) ⟨by show _ ≤ 601024; omega, by show _ ≤ 7293034; omega⟩ dL_law_339 (k1 := cells + 68) (k2 := slots + 1372) (by omega) (by omega) (fun ro hpX2 H locs hP1 hLw hS => ?_)
  obtain ⟨rfl, hC2, f, hq2, hfv⟩ := hP1
  refine lv_istore (lv' := [(5, .int (nI k)), (4, .int (nI (4 * i))), (0, .ref b), (1, .ref (aX ad)), (2, .ref mo), (3, .ref q)]) hx hb dL_law_342 hl (by decide) rfl (fun ls hl => ?_)
  refine lv_aload_n hx hb dL_law_344 rfl (lv_at hl 4 rfl) ?_
  refine lv_aload_n hx hb dL_law_345 rfl (lv_at hl 2 rfl) ?_
  refine lv_iload hx hb dL_law_346 (lv_at hl 1 rfl) ?_
  refine lv_iconst (v := nI 1) hx hb dL_law_348 (by decide) ?_
  refine h_iaddN hx hb dL_law_349 ?_
  refine lw_sld (j := 4 * i + 1) hx hb hX hbl hbA hS (by omega) (by omega) dL_law_350 ?_
  obtain ⟨fr, lo, mc, ms, g1, g2, g3, g4, hcM⟩ := hhM (dA hpM H.size) (dA_in _ _)
  obtain ⟨dk0, lv0_, nb0, lvl0, row0, hm0, -⟩ := hM
  refine lw_wrV (As := [.int (xs (4 * i + 1))]) (rest := []) hF hcM 1 (gZl gL_law_X3_setRoom) rfl (by decide +kernel) ⟨by show fr + 1 ≤ 11; omega, by show 8 + (3 + 11) + lo ≤ 392; omega⟩ hK0 hLw.swap hS hm0.cmo rfl rfl rfl hl.1 rfl (Nat.le_of_ble_eq_true rfl) ⟨by show _ ≤ 601024; omega, by show _ ≤ 7293034; omega⟩ dL_law_351 (k1 := cells + 136) (k2 := slots + 2744) (by omega) (by omega) (fun ro hpM2 H locs hP1 hLw hS => ?_)
  obtain ⟨rfl, hM2⟩ := hP1
  replace hLw := hLw.swap
  refine lv_istore (lv' := [(6, .int bb), (5, .int (nI k)), (4, .int (nI (4 * i))), (0, .ref b), (1, .ref (aX ad)), (2, .ref mo), (3, .ref q)]) hx hb dL_law_354 hl (by decide) rfl (fun ls hl => ?_)
  refine lv_aload_n hx hb dL_law_356 rfl (lv_at hl 5 rfl) ?_
  obtain ⟨dk, lv, nb, lvl, row, hm2, hD2⟩ := hM2
  refine h_rdV (As := []) (rest := []) hF (c_X3_thrown l G hpM2 mo dk lv nb lvl row _ _ _ _ _ hm2) 0 (gZl gL_law_X3_thrown) rfl (by decide +kernel) ⟨(Nat.le_of_ble_eq_true rfl), (Nat.le_of_ble_eq_true rfl)⟩ hK0 hLw.2.1 hm2.cmo rfl rfl rfl hl.1 rfl (Nat.le_of_ble_eq_true rfl) (by show _ ≤ 601024; omega) (by show _ ≤ 7293034; omega) dL_law_357 ?_
  refine lv_iload hx hb dL_law_360 (lv_at hl 1 rfl) ?_
  refine h_icmp_eq (a := k) (b := k) (tgt := 367) hx hb dL_law_362 (by decide) (by omega) (by omega) (fun c_362 => ?_) (fun c_362 => absurd rfl c_362)
  refine lv_iload hx hb dL_law_367 (lv_at hl 1 rfl) ?_
  refine h_if_ne (a := k) (tgt := 384) hx hb dL_law_369 (by decide) (by omega) (fun c_369 => ?_) (fun c_369 => ?_)
  · refine lv_goto (tgt := 1087) hx hb dL_law_384 (by decide) ?_
    exact kk H locs ls ⟨S2, _, hpX2, hpM2, hC2, hI2, ⟨f, hq2⟩, ⟨dk, lv, nb, lvl, row, hm2, hD2⟩, hLw, hS⟩ (lv_sub hl [2, 3, 4, 5, 6] rfl)
  · refine lv_aload_n hx hb dL_law_372 rfl (lv_at hl 6 rfl) ?_
    refine lv_iconst (v := nI 0) hx hb dL_law_373 (by decide) ?_
    refine h_lald (i := 0) hx hb hK0 hLw.1 hq2 (by omega) (by omega) dL_law_374 ?_
    refine lv_iload hx hb dL_law_375 (lv_at hl 0 rfl) ?_
    refine lv_i2l (v := (bb).toInt64) hx hb dL_law_377 rfl ?_
    refine lv_lcmpE (x := f 0) (y := (bb).toInt64) hx hb ((hfv c_369).trans (hkv c_369)) dL_law_378 ?_
    refine lv_if_eq (tgt := 384) hx hb dL_law_379 (by decide) (fun c_379 => ?_) (fun c_379 => absurd rfl c_379)
    refine lv_goto (tgt := 1087) hx hb dL_law_384 (by decide) ?_
    exact kk H locs ls ⟨S2, _, hpX2, hpM2, hC2, hI2, ⟨f, hq2⟩, ⟨dk, lv, nb, lvl, row, hm2, hD2⟩, hLw, hS⟩ (lv_sub hl [2, 3, 4, 5, 6] rfl)

set_option maxHeartbeats 1000000 in
set_option maxRecDepth 100000 in
theorem lc_read {p : Program} {l : Launch} (hlt : l.stackTraces = false) {e : Env} {s : State} {m : MethodId} {below : List Frame} {meth : Method} {c : Code} {b L : Nat} {xs : Nat → Int32} (hL : L ≤ 2048) (C0 : lw_At p s m meth c b L xs) {G : hG} (hK0 : hK G s) (hZ0 : hZ (fun q => s.heap.size ≤ q) s) {i : Nat} (hi : 4 * i + 4 ≤ L) {H : Heap} {locs : List Loc} {cells slots : Nat} (hcl : cells + 136 ≤ 601024) (hsl : slots + 2744 ≤ 7293034) {ad : Nat → Nat} {q mo : Nat} (hqk : ∀ key, key < 61 → q ≠ ad key) (J : lwJ G s ad q mo H locs) {ls : Array Slot} {Q : State → Prop} (hl : lv_has ls 9 [(4, .int (nI (4 * i))), (0, .ref b), (1, .ref (aX ad)), (2, .ref mo), (3, .ref q)]) (kk : ∀ (H1 : Heap) (locs1 : List Loc) (ls : Array Slot), lwJ G s ad q mo H1 locs1 → lv_has ls 9 [(4, .int (nI (4 * i))), (0, .ref b), (1, .ref (aX ad)), (2, .ref mo), (3, .ref q)] → W p l e room_1 s m #[Value.ref b] below meth c H1 locs1 (cells + 136) (slots + 2744) Q (F0 m 1087 ls [])) : W p l e room_1 s m #[Value.ref b] below meth c H locs cells slots Q (F0 m 387 ls []) := by
  obtain ⟨hx, hb, hr, hml, hown, hts, hX, hbl, hlocks, hgv⟩ := C0
  obtain ⟨S, th, hpX, hpM, hC, hI, hq, hM, hLw, hS⟩ := J
  have hbA : ¬ (fun q : Nat => s.heap.size ≤ q) b := Nat.not_le.mpr hbl
  have hF : CallFix p m c cL_law 9 s #[Value.ref b] wsZ_law RL := ⟨hx, hb, hml, hown, fun w h => hts w (wsZ_in w h)⟩
  refine lv_aload_n hx hb dL_law_387 rfl (lv_at hl 2 rfl) ?_
  refine lv_aload_n hx hb dL_law_388 rfl (lv_at hl 1 rfl) ?_
  refine lv_iload hx hb dL_law_389 (lv_at hl 0 rfl) ?_
  refine lv_iconst (v := nI 1) hx hb dL_law_391 (by decide) ?_
  refine h_iaddN hx hb dL_law_392 ?_
  refine lw_sld (j := 4 * i + 1) hx hb hX hbl hbA hS (by omega) (by omega) dL_law_393 ?_
  refine lv_aload_n hx hb dL_law_394 rfl (lv_at hl 4 rfl) ?_
  obtain ⟨k, v, bb, S2, hk3, hI2, hkv, hhX, hhM⟩ := cs_read hlt hC hI hq hqk hM ((xs (4 * i + 1)))
  refine lw_wrS (As := [.ref (aX ad), .int (xs (4 * i + 1)), .ref q]) (rest := []) hF (hhX (dA hpX H.size) (dA_in _ _)) 3 (gZl gL_law_L_read) rfl (by decide +kernel) ⟨(Nat.le_of_ble_eq_true rfl), (Nat.le_of_ble_eq_true rfl)⟩ hK0 hZ0 hLw hS rfl hl.1 rfl (Nat.le_of_ble_eq_true rfl) ⟨by show _ ≤ 601024; omega, by show _ ≤ 7293034; omega⟩ dL_law_395 (k1 := cells + 68) (k2 := slots + 1372) (by omega) (by omega) (fun ro hpX2 H locs hP1 hLw hS => ?_)
  obtain ⟨rfl, hC2, f, hq2, hfv⟩ := hP1
  refine lv_istore (lv' := [(5, .int (nI k)), (4, .int (nI (4 * i))), (0, .ref b), (1, .ref (aX ad)), (2, .ref mo), (3, .ref q)]) hx hb dL_law_398 hl (by decide) rfl (fun ls hl => ?_)
  refine lv_aload_n hx hb dL_law_400 rfl (lv_at hl 4 rfl) ?_
  refine lv_aload_n hx hb dL_law_401 rfl (lv_at hl 2 rfl) ?_
  refine lv_iload hx hb dL_law_402 (lv_at hl 1 rfl) ?_
  refine lv_iconst (v := nI 1) hx hb dL_law_404 (by decide) ?_
  refine h_iaddN hx hb dL_law_405 ?_
  refine lw_sld (j := 4 * i + 1) hx hb hX hbl hbA hS (by omega) (by omega) dL_law_406 ?_
  obtain ⟨fr, lo, mc, ms, g1, g2, g3, g4, hcM⟩ := hhM (dA hpM H.size) (dA_in _ _)
  obtain ⟨dk0, lv0_, nb0, lvl0, row0, hm0, -⟩ := hM
  refine lw_wrV (As := [.int (xs (4 * i + 1))]) (rest := []) hF hcM 1 (gZl gL_law_X3_read) rfl (by decide +kernel) ⟨by show fr + 1 ≤ 11; omega, by show 8 + (2 + 11) + lo ≤ 392; omega⟩ hK0 hLw.swap hS hm0.cmo rfl rfl rfl hl.1 rfl (Nat.le_of_ble_eq_true rfl) ⟨by show _ ≤ 601024; omega, by show _ ≤ 7293034; omega⟩ dL_law_407 (k1 := cells + 136) (k2 := slots + 2744) (by omega) (by omega) (fun ro hpM2 H locs hP1 hLw hS => ?_)
  obtain ⟨rfl, hM2⟩ := hP1
  replace hLw := hLw.swap
  refine lv_istore (lv' := [(6, .int bb), (5, .int (nI k)), (4, .int (nI (4 * i))), (0, .ref b), (1, .ref (aX ad)), (2, .ref mo), (3, .ref q)]) hx hb dL_law_410 hl (by decide) rfl (fun ls hl => ?_)
  refine lv_aload_n hx hb dL_law_412 rfl (lv_at hl 5 rfl) ?_
  obtain ⟨dk, lv, nb, lvl, row, hm2, hD2⟩ := hM2
  refine h_rdV (As := []) (rest := []) hF (c_X3_thrown l G hpM2 mo dk lv nb lvl row _ _ _ _ _ hm2) 0 (gZl gL_law_X3_thrown) rfl (by decide +kernel) ⟨(Nat.le_of_ble_eq_true rfl), (Nat.le_of_ble_eq_true rfl)⟩ hK0 hLw.2.1 hm2.cmo rfl rfl rfl hl.1 rfl (Nat.le_of_ble_eq_true rfl) (by show _ ≤ 601024; omega) (by show _ ≤ 7293034; omega) dL_law_413 ?_
  refine lv_iload hx hb dL_law_416 (lv_at hl 1 rfl) ?_
  refine h_icmp_eq (a := k) (b := k) (tgt := 423) hx hb dL_law_418 (by decide) (by omega) (by omega) (fun c_418 => ?_) (fun c_418 => absurd rfl c_418)
  refine lv_iload hx hb dL_law_423 (lv_at hl 1 rfl) ?_
  refine h_if_ne (a := k) (tgt := 440) hx hb dL_law_425 (by decide) (by omega) (fun c_425 => ?_) (fun c_425 => ?_)
  · refine lv_goto (tgt := 1087) hx hb dL_law_440 (by decide) ?_
    exact kk H locs ls ⟨S2, _, hpX2, hpM2, hC2, hI2, ⟨f, hq2⟩, ⟨dk, lv, nb, lvl, row, hm2, hD2⟩, hLw, hS⟩ (lv_sub hl [2, 3, 4, 5, 6] rfl)
  · refine lv_aload_n hx hb dL_law_428 rfl (lv_at hl 6 rfl) ?_
    refine lv_iconst (v := nI 0) hx hb dL_law_429 (by decide) ?_
    refine h_lald (i := 0) hx hb hK0 hLw.1 hq2 (by omega) (by omega) dL_law_430 ?_
    refine lv_iload hx hb dL_law_431 (lv_at hl 0 rfl) ?_
    refine lv_i2l (v := (bb).toInt64) hx hb dL_law_433 rfl ?_
    refine lv_lcmpE (x := f 0) (y := (bb).toInt64) hx hb ((hfv c_425).trans (hkv c_425)) dL_law_434 ?_
    refine lv_if_eq (tgt := 440) hx hb dL_law_435 (by decide) (fun c_435 => ?_) (fun c_435 => absurd rfl c_435)
    refine lv_goto (tgt := 1087) hx hb dL_law_440 (by decide) ?_
    exact kk H locs ls ⟨S2, _, hpX2, hpM2, hC2, hI2, ⟨f, hq2⟩, ⟨dk, lv, nb, lvl, row, hm2, hD2⟩, hLw, hS⟩ (lv_sub hl [2, 3, 4, 5, 6] rfl)

set_option maxHeartbeats 1000000 in
set_option maxRecDepth 100000 in
theorem lc_detours {p : Program} {l : Launch} (hlt : l.stackTraces = false) {e : Env} {s : State} {m : MethodId} {below : List Frame} {meth : Method} {c : Code} {b L : Nat} {xs : Nat → Int32} (hL : L ≤ 2048) (C0 : lw_At p s m meth c b L xs) {G : hG} (hK0 : hK G s) (hZ0 : hZ (fun q => s.heap.size ≤ q) s) {i : Nat} (hi : 4 * i + 4 ≤ L) {H : Heap} {locs : List Loc} {cells slots : Nat} (hcl : cells + 136 ≤ 601024) (hsl : slots + 2744 ≤ 7293034) {ad : Nat → Nat} {q mo : Nat} (hqk : ∀ key, key < 61 → q ≠ ad key) (J : lwJ G s ad q mo H locs) {ls : Array Slot} {Q : State → Prop} (hl : lv_has ls 9 [(4, .int (nI (4 * i))), (0, .ref b), (1, .ref (aX ad)), (2, .ref mo), (3, .ref q)]) (kk : ∀ (H1 : Heap) (locs1 : List Loc) (ls : Array Slot), lwJ G s ad q mo H1 locs1 → lv_has ls 9 [(4, .int (nI (4 * i))), (0, .ref b), (1, .ref (aX ad)), (2, .ref mo), (3, .ref q)] → W p l e room_1 s m #[Value.ref b] below meth c H1 locs1 (cells + 136) (slots + 2744) Q (F0 m 1087 ls [])) : W p l e room_1 s m #[Value.ref b] below meth c H locs cells slots Q (F0 m 443 ls []) := by
  obtain ⟨hx, hb, hr, hml, hown, hts, hX, hbl, hlocks, hgv⟩ := C0
  obtain ⟨S, th, hpX, hpM, hC, hI, hq, hM, hLw, hS⟩ := J
  have hbA : ¬ (fun q : Nat => s.heap.size ≤ q) b := Nat.not_le.mpr hbl
  have hF : CallFix p m c cL_law 9 s #[Value.ref b] wsZ_law RL := ⟨hx, hb, hml, hown, fun w h => hts w (wsZ_in w h)⟩
  refine lv_aload_n hx hb dL_law_443 rfl (lv_at hl 2 rfl) ?_
  refine lv_aload_n hx hb dL_law_444 rfl (lv_at hl 1 rfl) ?_
  refine lv_iload hx hb dL_law_445 (lv_at hl 0 rfl) ?_
  refine lv_iconst (v := nI 1) hx hb dL_law_447 (by decide) ?_
  refine h_iaddN hx hb dL_law_448 ?_
  refine lw_sld (j := 4 * i + 1) hx hb hX hbl hbA hS (by omega) (by omega) dL_law_449 ?_
  refine lv_aload_n hx hb dL_law_450 rfl (lv_at hl 4 rfl) ?_
  obtain ⟨k, v, bb, S2, hk3, hI2, hkv, hhX, hhM⟩ := cs_detours hlt hC hI hq hqk hM ((xs (4 * i + 1)))
  refine lw_wrS (As := [.ref (aX ad), .int (xs (4 * i + 1)), .ref q]) (rest := []) hF (hhX (dA hpX H.size) (dA_in _ _)) 3 (gZl gL_law_L_detours) rfl (by decide +kernel) ⟨(Nat.le_of_ble_eq_true rfl), (Nat.le_of_ble_eq_true rfl)⟩ hK0 hZ0 hLw hS rfl hl.1 rfl (Nat.le_of_ble_eq_true rfl) ⟨by show _ ≤ 601024; omega, by show _ ≤ 7293034; omega⟩ dL_law_451 (k1 := cells + 68) (k2 := slots + 1372) (by omega) (by omega) (fun ro hpX2 H locs hP1 hLw hS => ?_)
  obtain ⟨rfl, hC2, f, hq2, hfv⟩ := hP1
  refine lv_istore (lv' := [(5, .int (nI k)), (4, .int (nI (4 * i))), (0, .ref b), (1, .ref (aX ad)), (2, .ref mo), (3, .ref q)]) hx hb dL_law_454 hl (by decide) rfl (fun ls hl => ?_)
  refine lv_aload_n hx hb dL_law_456 rfl (lv_at hl 4 rfl) ?_
  refine lv_aload_n hx hb dL_law_457 rfl (lv_at hl 2 rfl) ?_
  refine lv_iload hx hb dL_law_458 (lv_at hl 1 rfl) ?_
  refine lv_iconst (v := nI 1) hx hb dL_law_460 (by decide) ?_
  refine h_iaddN hx hb dL_law_461 ?_
  refine lw_sld (j := 4 * i + 1) hx hb hX hbl hbA hS (by omega) (by omega) dL_law_462 ?_
  obtain ⟨fr, lo, mc, ms, g1, g2, g3, g4, hcM⟩ := hhM (dA hpM H.size) (dA_in _ _)
  obtain ⟨dk0, lv0_, nb0, lvl0, row0, hm0, -⟩ := hM
  refine lw_wrV (As := [.int (xs (4 * i + 1))]) (rest := []) hF hcM 1 (gZl gL_law_X3_detours) rfl (by decide +kernel) ⟨by show fr + 1 ≤ 11; omega, by show 8 + (2 + 11) + lo ≤ 392; omega⟩ hK0 hLw.swap hS hm0.cmo rfl rfl rfl hl.1 rfl (Nat.le_of_ble_eq_true rfl) ⟨by show _ ≤ 601024; omega, by show _ ≤ 7293034; omega⟩ dL_law_463 (k1 := cells + 136) (k2 := slots + 2744) (by omega) (by omega) (fun ro hpM2 H locs hP1 hLw hS => ?_)
  obtain ⟨rfl, hM2⟩ := hP1
  replace hLw := hLw.swap
  refine lv_istore (lv' := [(6, .int bb), (5, .int (nI k)), (4, .int (nI (4 * i))), (0, .ref b), (1, .ref (aX ad)), (2, .ref mo), (3, .ref q)]) hx hb dL_law_466 hl (by decide) rfl (fun ls hl => ?_)
  refine lv_aload_n hx hb dL_law_468 rfl (lv_at hl 5 rfl) ?_
  obtain ⟨dk, lv, nb, lvl, row, hm2, hD2⟩ := hM2
  refine h_rdV (As := []) (rest := []) hF (c_X3_thrown l G hpM2 mo dk lv nb lvl row _ _ _ _ _ hm2) 0 (gZl gL_law_X3_thrown) rfl (by decide +kernel) ⟨(Nat.le_of_ble_eq_true rfl), (Nat.le_of_ble_eq_true rfl)⟩ hK0 hLw.2.1 hm2.cmo rfl rfl rfl hl.1 rfl (Nat.le_of_ble_eq_true rfl) (by show _ ≤ 601024; omega) (by show _ ≤ 7293034; omega) dL_law_469 ?_
  refine lv_iload hx hb dL_law_472 (lv_at hl 1 rfl) ?_
  refine h_icmp_eq (a := k) (b := k) (tgt := 479) hx hb dL_law_474 (by decide) (by omega) (by omega) (fun c_474 => ?_) (fun c_474 => absurd rfl c_474)
  refine lv_iload hx hb dL_law_479 (lv_at hl 1 rfl) ?_
  refine h_if_ne (a := k) (tgt := 496) hx hb dL_law_481 (by decide) (by omega) (fun c_481 => ?_) (fun c_481 => ?_)
  · refine lv_goto (tgt := 1087) hx hb dL_law_496 (by decide) ?_
    exact kk H locs ls ⟨S2, _, hpX2, hpM2, hC2, hI2, ⟨f, hq2⟩, ⟨dk, lv, nb, lvl, row, hm2, hD2⟩, hLw, hS⟩ (lv_sub hl [2, 3, 4, 5, 6] rfl)
  · refine lv_aload_n hx hb dL_law_484 rfl (lv_at hl 6 rfl) ?_
    refine lv_iconst (v := nI 0) hx hb dL_law_485 (by decide) ?_
    refine h_lald (i := 0) hx hb hK0 hLw.1 hq2 (by omega) (by omega) dL_law_486 ?_
    refine lv_iload hx hb dL_law_487 (lv_at hl 0 rfl) ?_
    refine lv_i2l (v := (bb).toInt64) hx hb dL_law_489 rfl ?_
    refine lv_lcmpE (x := f 0) (y := (bb).toInt64) hx hb ((hfv c_481).trans (hkv c_481)) dL_law_490 ?_
    refine lv_if_eq (tgt := 496) hx hb dL_law_491 (by decide) (fun c_491 => ?_) (fun c_491 => absurd rfl c_491)
    refine lv_goto (tgt := 1087) hx hb dL_law_496 (by decide) ?_
    exact kk H locs ls ⟨S2, _, hpX2, hpM2, hC2, hI2, ⟨f, hq2⟩, ⟨dk, lv, nb, lvl, row, hm2, hD2⟩, hLw, hS⟩ (lv_sub hl [2, 3, 4, 5, 6] rfl)

set_option maxHeartbeats 1000000 in
set_option maxRecDepth 100000 in
theorem lc_next {p : Program} {l : Launch} (hlt : l.stackTraces = false) {e : Env} {s : State} {m : MethodId} {below : List Frame} {meth : Method} {c : Code} {b L : Nat} {xs : Nat → Int32} (hL : L ≤ 2048) (C0 : lw_At p s m meth c b L xs) {G : hG} (hK0 : hK G s) (hZ0 : hZ (fun q => s.heap.size ≤ q) s) {i : Nat} (hi : 4 * i + 4 ≤ L) {H : Heap} {locs : List Loc} {cells slots : Nat} (hcl : cells + 136 ≤ 601024) (hsl : slots + 2744 ≤ 7293034) {ad : Nat → Nat} {q mo : Nat} (hqk : ∀ key, key < 61 → q ≠ ad key) (J : lwJ G s ad q mo H locs) {ls : Array Slot} {Q : State → Prop} (hl : lv_has ls 9 [(4, .int (nI (4 * i))), (0, .ref b), (1, .ref (aX ad)), (2, .ref mo), (3, .ref q)]) (kk : ∀ (H1 : Heap) (locs1 : List Loc) (ls : Array Slot), lwJ G s ad q mo H1 locs1 → lv_has ls 9 [(4, .int (nI (4 * i))), (0, .ref b), (1, .ref (aX ad)), (2, .ref mo), (3, .ref q)] → W p l e room_1 s m #[Value.ref b] below meth c H1 locs1 (cells + 136) (slots + 2744) Q (F0 m 1087 ls [])) : W p l e room_1 s m #[Value.ref b] below meth c H locs cells slots Q (F0 m 499 ls []) := by
  obtain ⟨hx, hb, hr, hml, hown, hts, hX, hbl, hlocks, hgv⟩ := C0
  obtain ⟨S, th, hpX, hpM, hC, hI, hq, hM, hLw, hS⟩ := J
  have hbA : ¬ (fun q : Nat => s.heap.size ≤ q) b := Nat.not_le.mpr hbl
  have hF : CallFix p m c cL_law 9 s #[Value.ref b] wsZ_law RL := ⟨hx, hb, hml, hown, fun w h => hts w (wsZ_in w h)⟩
  refine lv_aload_n hx hb dL_law_499 rfl (lv_at hl 2 rfl) ?_
  refine lv_aload_n hx hb dL_law_500 rfl (lv_at hl 1 rfl) ?_
  refine lv_iload hx hb dL_law_501 (lv_at hl 0 rfl) ?_
  refine lv_iconst (v := nI 1) hx hb dL_law_503 (by decide) ?_
  refine h_iaddN hx hb dL_law_504 ?_
  refine lw_sld (j := 4 * i + 1) hx hb hX hbl hbA hS (by omega) (by omega) dL_law_505 ?_
  refine lv_aload_n hx hb dL_law_506 rfl (lv_at hl 4 rfl) ?_
  obtain ⟨k, v, bb, S2, hk3, hI2, hkv, hhX, hhM⟩ := cs_next hlt hC hI hq hqk hM ((xs (4 * i + 1)))
  refine lw_wrS (As := [.ref (aX ad), .int (xs (4 * i + 1)), .ref q]) (rest := []) hF (hhX (dA hpX H.size) (dA_in _ _)) 3 (gZl gL_law_L_next) rfl (by decide +kernel) ⟨(Nat.le_of_ble_eq_true rfl), (Nat.le_of_ble_eq_true rfl)⟩ hK0 hZ0 hLw hS rfl hl.1 rfl (Nat.le_of_ble_eq_true rfl) ⟨by show _ ≤ 601024; omega, by show _ ≤ 7293034; omega⟩ dL_law_507 (k1 := cells + 68) (k2 := slots + 1372) (by omega) (by omega) (fun ro hpX2 H locs hP1 hLw hS => ?_)
  obtain ⟨rfl, hC2, f, hq2, hfv⟩ := hP1
  refine lv_istore (lv' := [(5, .int (nI k)), (4, .int (nI (4 * i))), (0, .ref b), (1, .ref (aX ad)), (2, .ref mo), (3, .ref q)]) hx hb dL_law_510 hl (by decide) rfl (fun ls hl => ?_)
  refine lv_aload_n hx hb dL_law_512 rfl (lv_at hl 4 rfl) ?_
  refine lv_aload_n hx hb dL_law_513 rfl (lv_at hl 2 rfl) ?_
  refine lv_iload hx hb dL_law_514 (lv_at hl 1 rfl) ?_
  refine lv_iconst (v := nI 1) hx hb dL_law_516 (by decide) ?_
  refine h_iaddN hx hb dL_law_517 ?_
  refine lw_sld (j := 4 * i + 1) hx hb hX hbl hbA hS (by omega) (by omega) dL_law_518 ?_
  obtain ⟨fr, lo, mc, ms, g1, g2, g3, g4, hcM⟩ := hhM (dA hpM H.size) (dA_in _ _)
  obtain ⟨dk0, lv0_, nb0, lvl0, row0, hm0, -⟩ := hM
  refine lw_wrV (As := [.int (xs (4 * i + 1))]) (rest := []) hF hcM 1 (gZl gL_law_X3_next) rfl (by decide +kernel) ⟨by show fr + 1 ≤ 11; omega, by show 8 + (3 + 11) + lo ≤ 392; omega⟩ hK0 hLw.swap hS hm0.cmo rfl rfl rfl hl.1 rfl (Nat.le_of_ble_eq_true rfl) ⟨by show _ ≤ 601024; omega, by show _ ≤ 7293034; omega⟩ dL_law_519 (k1 := cells + 136) (k2 := slots + 2744) (by omega) (by omega) (fun ro hpM2 H locs hP1 hLw hS => ?_)
  obtain ⟨rfl, hM2⟩ := hP1
  replace hLw := hLw.swap
  refine lv_istore (lv' := [(6, .int bb), (5, .int (nI k)), (4, .int (nI (4 * i))), (0, .ref b), (1, .ref (aX ad)), (2, .ref mo), (3, .ref q)]) hx hb dL_law_522 hl (by decide) rfl (fun ls hl => ?_)
  refine lv_aload_n hx hb dL_law_524 rfl (lv_at hl 5 rfl) ?_
  obtain ⟨dk, lv, nb, lvl, row, hm2, hD2⟩ := hM2
  refine h_rdV (As := []) (rest := []) hF (c_X3_thrown l G hpM2 mo dk lv nb lvl row _ _ _ _ _ hm2) 0 (gZl gL_law_X3_thrown) rfl (by decide +kernel) ⟨(Nat.le_of_ble_eq_true rfl), (Nat.le_of_ble_eq_true rfl)⟩ hK0 hLw.2.1 hm2.cmo rfl rfl rfl hl.1 rfl (Nat.le_of_ble_eq_true rfl) (by show _ ≤ 601024; omega) (by show _ ≤ 7293034; omega) dL_law_525 ?_
  refine lv_iload hx hb dL_law_528 (lv_at hl 1 rfl) ?_
  refine h_icmp_eq (a := k) (b := k) (tgt := 535) hx hb dL_law_530 (by decide) (by omega) (by omega) (fun c_530 => ?_) (fun c_530 => absurd rfl c_530)
  refine lv_iload hx hb dL_law_535 (lv_at hl 1 rfl) ?_
  refine h_if_ne (a := k) (tgt := 552) hx hb dL_law_537 (by decide) (by omega) (fun c_537 => ?_) (fun c_537 => ?_)
  · refine lv_goto (tgt := 1087) hx hb dL_law_552 (by decide) ?_
    exact kk H locs ls ⟨S2, _, hpX2, hpM2, hC2, hI2, ⟨f, hq2⟩, ⟨dk, lv, nb, lvl, row, hm2, hD2⟩, hLw, hS⟩ (lv_sub hl [2, 3, 4, 5, 6] rfl)
  · refine lv_aload_n hx hb dL_law_540 rfl (lv_at hl 6 rfl) ?_
    refine lv_iconst (v := nI 0) hx hb dL_law_541 (by decide) ?_
    refine h_lald (i := 0) hx hb hK0 hLw.1 hq2 (by omega) (by omega) dL_law_542 ?_
    refine lv_iload hx hb dL_law_543 (lv_at hl 0 rfl) ?_
    refine lv_i2l (v := (bb).toInt64) hx hb dL_law_545 rfl ?_
    refine lv_lcmpE (x := f 0) (y := (bb).toInt64) hx hb ((hfv c_537).trans (hkv c_537)) dL_law_546 ?_
    refine lv_if_eq (tgt := 552) hx hb dL_law_547 (by decide) (fun c_547 => ?_) (fun c_547 => absurd rfl c_547)
    refine lv_goto (tgt := 1087) hx hb dL_law_552 (by decide) ?_
    exact kk H locs ls ⟨S2, _, hpX2, hpM2, hC2, hI2, ⟨f, hq2⟩, ⟨dk, lv, nb, lvl, row, hm2, hD2⟩, hLw, hS⟩ (lv_sub hl [2, 3, 4, 5, 6] rfl)

set_option maxHeartbeats 1000000 in
set_option maxRecDepth 100000 in
theorem lc_sum {p : Program} {l : Launch} (hlt : l.stackTraces = false) {e : Env} {s : State} {m : MethodId} {below : List Frame} {meth : Method} {c : Code} {b L : Nat} {xs : Nat → Int32} (hL : L ≤ 2048) (C0 : lw_At p s m meth c b L xs) {G : hG} (hK0 : hK G s) (hZ0 : hZ (fun q => s.heap.size ≤ q) s) {i : Nat} (hi : 4 * i + 4 ≤ L) {H : Heap} {locs : List Loc} {cells slots : Nat} (hcl : cells + 136 ≤ 601024) (hsl : slots + 2744 ≤ 7293034) {ad : Nat → Nat} {q mo : Nat} (hqk : ∀ key, key < 61 → q ≠ ad key) (J : lwJ G s ad q mo H locs) {ls : Array Slot} {Q : State → Prop} (hl : lv_has ls 9 [(4, .int (nI (4 * i))), (0, .ref b), (1, .ref (aX ad)), (2, .ref mo), (3, .ref q)]) (kk : ∀ (H1 : Heap) (locs1 : List Loc) (ls : Array Slot), lwJ G s ad q mo H1 locs1 → lv_has ls 9 [(4, .int (nI (4 * i))), (0, .ref b), (1, .ref (aX ad)), (2, .ref mo), (3, .ref q)] → W p l e room_1 s m #[Value.ref b] below meth c H1 locs1 (cells + 136) (slots + 2744) Q (F0 m 1087 ls [])) : W p l e room_1 s m #[Value.ref b] below meth c H locs cells slots Q (F0 m 555 ls []) := by
  obtain ⟨hx, hb, hr, hml, hown, hts, hX, hbl, hlocks, hgv⟩ := C0
  obtain ⟨S, th, hpX, hpM, hC, hI, hq, hM, hLw, hS⟩ := J
  have hbA : ¬ (fun q : Nat => s.heap.size ≤ q) b := Nat.not_le.mpr hbl
  have hF : CallFix p m c cL_law 9 s #[Value.ref b] wsZ_law RL := ⟨hx, hb, hml, hown, fun w h => hts w (wsZ_in w h)⟩
  refine lv_aload_n hx hb dL_law_555 rfl (lv_at hl 2 rfl) ?_
  refine lv_aload_n hx hb dL_law_556 rfl (lv_at hl 1 rfl) ?_
  refine lv_iload hx hb dL_law_557 (lv_at hl 0 rfl) ?_
  refine lv_iconst (v := nI 1) hx hb dL_law_559 (by decide) ?_
  refine h_iaddN hx hb dL_law_560 ?_
  refine lw_sld (j := 4 * i + 1) hx hb hX hbl hbA hS (by omega) (by omega) dL_law_561 ?_
  refine lv_aload_n hx hb dL_law_562 rfl (lv_at hl 1 rfl) ?_
  refine lv_iload hx hb dL_law_563 (lv_at hl 0 rfl) ?_
  refine lv_iconst (v := nI 2) hx hb dL_law_565 (by decide) ?_
  refine h_iaddN hx hb dL_law_566 ?_
  refine lw_sld (j := 4 * i + 2) hx hb hX hbl hbA hS (by omega) (by omega) dL_law_567 ?_
  refine lv_aload_n hx hb dL_law_568 rfl (lv_at hl 4 rfl) ?_
  obtain ⟨k, v, bb, S2, hk3, hI2, hkv, hhX, hhM⟩ := cs_sum hlt hC hI hq hqk hM ((xs (4 * i + 1))) ((xs (4 * i + 2)))
  refine lw_wrS (As := [.ref (aX ad), .int (xs (4 * i + 1)), .int (xs (4 * i + 2)), .ref q]) (rest := []) hF (hhX (dA hpX H.size) (dA_in _ _)) 4 (gZl gL_law_L_sum) rfl (by decide +kernel) ⟨(Nat.le_of_ble_eq_true rfl), (Nat.le_of_ble_eq_true rfl)⟩ hK0 hZ0 hLw hS rfl hl.1 rfl (Nat.le_of_ble_eq_true rfl) ⟨by show _ ≤ 601024; omega, by show _ ≤ 7293034; omega⟩ dL_law_569 (k1 := cells + 68) (k2 := slots + 1372) (by omega) (by omega) (fun ro hpX2 H locs hP1 hLw hS => ?_)
  obtain ⟨rfl, hC2, f, hq2, hfv⟩ := hP1
  refine lv_istore (lv' := [(5, .int (nI k)), (4, .int (nI (4 * i))), (0, .ref b), (1, .ref (aX ad)), (2, .ref mo), (3, .ref q)]) hx hb dL_law_572 hl (by decide) rfl (fun ls hl => ?_)
  refine lv_aload_n hx hb dL_law_574 rfl (lv_at hl 4 rfl) ?_
  refine lv_aload_n hx hb dL_law_575 rfl (lv_at hl 2 rfl) ?_
  refine lv_iload hx hb dL_law_576 (lv_at hl 1 rfl) ?_
  refine lv_iconst (v := nI 1) hx hb dL_law_578 (by decide) ?_
  refine h_iaddN hx hb dL_law_579 ?_
  refine lw_sld (j := 4 * i + 1) hx hb hX hbl hbA hS (by omega) (by omega) dL_law_580 ?_
  refine lv_aload_n hx hb dL_law_581 rfl (lv_at hl 2 rfl) ?_
  refine lv_iload hx hb dL_law_582 (lv_at hl 1 rfl) ?_
  refine lv_iconst (v := nI 2) hx hb dL_law_584 (by decide) ?_
  refine h_iaddN hx hb dL_law_585 ?_
  refine lw_sld (j := 4 * i + 2) hx hb hX hbl hbA hS (by omega) (by omega) dL_law_586 ?_
  obtain ⟨fr, lo, mc, ms, g1, g2, g3, g4, hcM⟩ := hhM (dA hpM H.size) (dA_in _ _)
  obtain ⟨dk0, lv0_, nb0, lvl0, row0, hm0, -⟩ := hM
  refine lw_wrV (As := [.int (xs (4 * i + 1)), .int (xs (4 * i + 2))]) (rest := []) hF hcM 2 (gZl gL_law_X3_sum) rfl (by decide +kernel) ⟨by show fr + 1 ≤ 11; omega, by show 8 + (5 + 11) + lo ≤ 392; omega⟩ hK0 hLw.swap hS hm0.cmo rfl rfl rfl hl.1 rfl (Nat.le_of_ble_eq_true rfl) ⟨by show _ ≤ 601024; omega, by show _ ≤ 7293034; omega⟩ dL_law_587 (k1 := cells + 136) (k2 := slots + 2744) (by omega) (by omega) (fun ro hpM2 H locs hP1 hLw hS => ?_)
  obtain ⟨rfl, hM2⟩ := hP1
  replace hLw := hLw.swap
  refine lv_istore (lv' := [(6, .int bb), (5, .int (nI k)), (4, .int (nI (4 * i))), (0, .ref b), (1, .ref (aX ad)), (2, .ref mo), (3, .ref q)]) hx hb dL_law_590 hl (by decide) rfl (fun ls hl => ?_)
  refine lv_aload_n hx hb dL_law_592 rfl (lv_at hl 5 rfl) ?_
  obtain ⟨dk, lv, nb, lvl, row, hm2, hD2⟩ := hM2
  refine h_rdV (As := []) (rest := []) hF (c_X3_thrown l G hpM2 mo dk lv nb lvl row _ _ _ _ _ hm2) 0 (gZl gL_law_X3_thrown) rfl (by decide +kernel) ⟨(Nat.le_of_ble_eq_true rfl), (Nat.le_of_ble_eq_true rfl)⟩ hK0 hLw.2.1 hm2.cmo rfl rfl rfl hl.1 rfl (Nat.le_of_ble_eq_true rfl) (by show _ ≤ 601024; omega) (by show _ ≤ 7293034; omega) dL_law_593 ?_
  refine lv_iload hx hb dL_law_596 (lv_at hl 1 rfl) ?_
  refine h_icmp_eq (a := k) (b := k) (tgt := 603) hx hb dL_law_598 (by decide) (by omega) (by omega) (fun c_598 => ?_) (fun c_598 => absurd rfl c_598)
  refine lv_iload hx hb dL_law_603 (lv_at hl 1 rfl) ?_
  refine h_if_ne (a := k) (tgt := 620) hx hb dL_law_605 (by decide) (by omega) (fun c_605 => ?_) (fun c_605 => ?_)
  · refine lv_goto (tgt := 1087) hx hb dL_law_620 (by decide) ?_
    exact kk H locs ls ⟨S2, _, hpX2, hpM2, hC2, hI2, ⟨f, hq2⟩, ⟨dk, lv, nb, lvl, row, hm2, hD2⟩, hLw, hS⟩ (lv_sub hl [2, 3, 4, 5, 6] rfl)
  · refine lv_aload_n hx hb dL_law_608 rfl (lv_at hl 6 rfl) ?_
    refine lv_iconst (v := nI 0) hx hb dL_law_609 (by decide) ?_
    refine h_lald (i := 0) hx hb hK0 hLw.1 hq2 (by omega) (by omega) dL_law_610 ?_
    refine lv_iload hx hb dL_law_611 (lv_at hl 0 rfl) ?_
    refine lv_i2l (v := (bb).toInt64) hx hb dL_law_613 rfl ?_
    refine lv_lcmpE (x := f 0) (y := (bb).toInt64) hx hb ((hfv c_605).trans (hkv c_605)) dL_law_614 ?_
    refine lv_if_eq (tgt := 620) hx hb dL_law_615 (by decide) (fun c_615 => ?_) (fun c_615 => absurd rfl c_615)
    refine lv_goto (tgt := 1087) hx hb dL_law_620 (by decide) ?_
    exact kk H locs ls ⟨S2, _, hpX2, hpM2, hC2, hI2, ⟨f, hq2⟩, ⟨dk, lv, nb, lvl, row, hm2, hD2⟩, hLw, hS⟩ (lv_sub hl [2, 3, 4, 5, 6] rfl)

set_option maxHeartbeats 1000000 in
set_option maxRecDepth 100000 in
theorem lc_run {p : Program} {l : Launch} (hlt : l.stackTraces = false) {e : Env} {s : State} {m : MethodId} {below : List Frame} {meth : Method} {c : Code} {b L : Nat} {xs : Nat → Int32} (hL : L ≤ 2048) (C0 : lw_At p s m meth c b L xs) {G : hG} (hK0 : hK G s) (hZ0 : hZ (fun q => s.heap.size ≤ q) s) {i : Nat} (hi : 4 * i + 4 ≤ L) {H : Heap} {locs : List Loc} {cells slots : Nat} (hcl : cells + 136 ≤ 601024) (hsl : slots + 2744 ≤ 7293034) {ad : Nat → Nat} {q mo : Nat} (hqk : ∀ key, key < 61 → q ≠ ad key) (J : lwJ G s ad q mo H locs) {ls : Array Slot} {Q : State → Prop} (hl : lv_has ls 9 [(4, .int (nI (4 * i))), (0, .ref b), (1, .ref (aX ad)), (2, .ref mo), (3, .ref q)]) (kk : ∀ (H1 : Heap) (locs1 : List Loc) (ls : Array Slot), lwJ G s ad q mo H1 locs1 → lv_has ls 9 [(4, .int (nI (4 * i))), (0, .ref b), (1, .ref (aX ad)), (2, .ref mo), (3, .ref q)] → W p l e room_1 s m #[Value.ref b] below meth c H1 locs1 (cells + 136) (slots + 2744) Q (F0 m 1087 ls [])) : W p l e room_1 s m #[Value.ref b] below meth c H locs cells slots Q (F0 m 623 ls []) := by
  obtain ⟨hx, hb, hr, hml, hown, hts, hX, hbl, hlocks, hgv⟩ := C0
  obtain ⟨S, th, hpX, hpM, hC, hI, hq, hM, hLw, hS⟩ := J
  have hbA : ¬ (fun q : Nat => s.heap.size ≤ q) b := Nat.not_le.mpr hbl
  have hF : CallFix p m c cL_law 9 s #[Value.ref b] wsZ_law RL := ⟨hx, hb, hml, hown, fun w h => hts w (wsZ_in w h)⟩
  refine lv_aload_n hx hb dL_law_623 rfl (lv_at hl 2 rfl) ?_
  refine lv_aload_n hx hb dL_law_624 rfl (lv_at hl 1 rfl) ?_
  refine lv_iload hx hb dL_law_625 (lv_at hl 0 rfl) ?_
  refine lv_iconst (v := nI 1) hx hb dL_law_627 (by decide) ?_
  refine h_iaddN hx hb dL_law_628 ?_
  refine lw_sld (j := 4 * i + 1) hx hb hX hbl hbA hS (by omega) (by omega) dL_law_629 ?_
  refine lv_aload_n hx hb dL_law_630 rfl (lv_at hl 1 rfl) ?_
  refine lv_iload hx hb dL_law_631 (lv_at hl 0 rfl) ?_
  refine lv_iconst (v := nI 2) hx hb dL_law_633 (by decide) ?_
  refine h_iaddN hx hb dL_law_634 ?_
  refine lw_sld (j := 4 * i + 2) hx hb hX hbl hbA hS (by omega) (by omega) dL_law_635 ?_
  refine lv_aload_n hx hb dL_law_636 rfl (lv_at hl 1 rfl) ?_
  refine lv_iload hx hb dL_law_637 (lv_at hl 0 rfl) ?_
  refine lv_iconst (v := nI 3) hx hb dL_law_639 (by decide) ?_
  refine h_iaddN hx hb dL_law_640 ?_
  refine lw_sld (j := 4 * i + 3) hx hb hX hbl hbA hS (by omega) (by omega) dL_law_641 ?_
  refine lv_aload_n hx hb dL_law_642 rfl (lv_at hl 4 rfl) ?_
  obtain ⟨k, v, bb, S2, hk3, hI2, hkv, hhX, hhM⟩ := cs_run hlt hC hI hq hqk hM ((xs (4 * i + 1))) ((xs (4 * i + 2))) ((xs (4 * i + 3)))
  refine lw_wrS (As := [.ref (aX ad), .int (xs (4 * i + 1)), .int (xs (4 * i + 2)), .int (xs (4 * i + 3)), .ref q]) (rest := []) hF (hhX (dA hpX H.size) (dA_in _ _)) 5 (gZl gL_law_L_run) rfl (by decide +kernel) ⟨(Nat.le_of_ble_eq_true rfl), (Nat.le_of_ble_eq_true rfl)⟩ hK0 hZ0 hLw hS rfl hl.1 rfl (Nat.le_of_ble_eq_true rfl) ⟨by show _ ≤ 601024; omega, by show _ ≤ 7293034; omega⟩ dL_law_643 (k1 := cells + 68) (k2 := slots + 1372) (by omega) (by omega) (fun ro hpX2 H locs hP1 hLw hS => ?_)
  obtain ⟨rfl, hC2, f, hq2, hfv⟩ := hP1
  refine lv_istore (lv' := [(5, .int (nI k)), (4, .int (nI (4 * i))), (0, .ref b), (1, .ref (aX ad)), (2, .ref mo), (3, .ref q)]) hx hb dL_law_646 hl (by decide) rfl (fun ls hl => ?_)
  refine lv_aload_n hx hb dL_law_648 rfl (lv_at hl 4 rfl) ?_
  refine lv_aload_n hx hb dL_law_649 rfl (lv_at hl 2 rfl) ?_
  refine lv_iload hx hb dL_law_650 (lv_at hl 1 rfl) ?_
  refine lv_iconst (v := nI 1) hx hb dL_law_652 (by decide) ?_
  refine h_iaddN hx hb dL_law_653 ?_
  refine lw_sld (j := 4 * i + 1) hx hb hX hbl hbA hS (by omega) (by omega) dL_law_654 ?_
  refine lv_aload_n hx hb dL_law_655 rfl (lv_at hl 2 rfl) ?_
  refine lv_iload hx hb dL_law_656 (lv_at hl 1 rfl) ?_
  refine lv_iconst (v := nI 2) hx hb dL_law_658 (by decide) ?_
  refine h_iaddN hx hb dL_law_659 ?_
  refine lw_sld (j := 4 * i + 2) hx hb hX hbl hbA hS (by omega) (by omega) dL_law_660 ?_
  refine lv_aload_n hx hb dL_law_661 rfl (lv_at hl 2 rfl) ?_
  refine lv_iload hx hb dL_law_662 (lv_at hl 1 rfl) ?_
  refine lv_iconst (v := nI 3) hx hb dL_law_664 (by decide) ?_
  refine h_iaddN hx hb dL_law_665 ?_
  refine lw_sld (j := 4 * i + 3) hx hb hX hbl hbA hS (by omega) (by omega) dL_law_666 ?_
  obtain ⟨fr, lo, mc, ms, g1, g2, g3, g4, hcM⟩ := hhM (dA hpM H.size) (dA_in _ _)
  obtain ⟨dk0, lv0_, nb0, lvl0, row0, hm0, -⟩ := hM
  refine lw_wrV (As := [.int (xs (4 * i + 1)), .int (xs (4 * i + 2)), .int (xs (4 * i + 3))]) (rest := []) hF hcM 3 (gZl gL_law_X3_run) rfl (by decide +kernel) ⟨by show fr + 1 ≤ 11; omega, by show 8 + (4 + 11) + lo ≤ 392; omega⟩ hK0 hLw.swap hS hm0.cmo rfl rfl rfl hl.1 rfl (Nat.le_of_ble_eq_true rfl) ⟨by show _ ≤ 601024; omega, by show _ ≤ 7293034; omega⟩ dL_law_667 (k1 := cells + 136) (k2 := slots + 2744) (by omega) (by omega) (fun ro hpM2 H locs hP1 hLw hS => ?_)
  obtain ⟨rfl, hM2⟩ := hP1
  replace hLw := hLw.swap
  refine lv_istore (lv' := [(6, .int bb), (5, .int (nI k)), (4, .int (nI (4 * i))), (0, .ref b), (1, .ref (aX ad)), (2, .ref mo), (3, .ref q)]) hx hb dL_law_670 hl (by decide) rfl (fun ls hl => ?_)
  refine lv_aload_n hx hb dL_law_672 rfl (lv_at hl 5 rfl) ?_
  obtain ⟨dk, lv, nb, lvl, row, hm2, hD2⟩ := hM2
  refine h_rdV (As := []) (rest := []) hF (c_X3_thrown l G hpM2 mo dk lv nb lvl row _ _ _ _ _ hm2) 0 (gZl gL_law_X3_thrown) rfl (by decide +kernel) ⟨(Nat.le_of_ble_eq_true rfl), (Nat.le_of_ble_eq_true rfl)⟩ hK0 hLw.2.1 hm2.cmo rfl rfl rfl hl.1 rfl (Nat.le_of_ble_eq_true rfl) (by show _ ≤ 601024; omega) (by show _ ≤ 7293034; omega) dL_law_673 ?_
  refine lv_iload hx hb dL_law_676 (lv_at hl 1 rfl) ?_
  refine h_icmp_eq (a := k) (b := k) (tgt := 683) hx hb dL_law_678 (by decide) (by omega) (by omega) (fun c_678 => ?_) (fun c_678 => absurd rfl c_678)
  refine lv_iload hx hb dL_law_683 (lv_at hl 1 rfl) ?_
  refine h_if_ne (a := k) (tgt := 700) hx hb dL_law_685 (by decide) (by omega) (fun c_685 => ?_) (fun c_685 => ?_)
  · refine lv_goto (tgt := 1087) hx hb dL_law_700 (by decide) ?_
    exact kk H locs ls ⟨S2, _, hpX2, hpM2, hC2, hI2, ⟨f, hq2⟩, ⟨dk, lv, nb, lvl, row, hm2, hD2⟩, hLw, hS⟩ (lv_sub hl [2, 3, 4, 5, 6] rfl)
  · refine lv_aload_n hx hb dL_law_688 rfl (lv_at hl 6 rfl) ?_
    refine lv_iconst (v := nI 0) hx hb dL_law_689 (by decide) ?_
    refine h_lald (i := 0) hx hb hK0 hLw.1 hq2 (by omega) (by omega) dL_law_690 ?_
    refine lv_iload hx hb dL_law_691 (lv_at hl 0 rfl) ?_
    refine lv_i2l (v := (bb).toInt64) hx hb dL_law_693 rfl ?_
    refine lv_lcmpE (x := f 0) (y := (bb).toInt64) hx hb ((hfv c_685).trans (hkv c_685)) dL_law_694 ?_
    refine lv_if_eq (tgt := 700) hx hb dL_law_695 (by decide) (fun c_695 => ?_) (fun c_695 => absurd rfl c_695)
    refine lv_goto (tgt := 1087) hx hb dL_law_700 (by decide) ?_
    exact kk H locs ls ⟨S2, _, hpX2, hpM2, hC2, hI2, ⟨f, hq2⟩, ⟨dk, lv, nb, lvl, row, hm2, hD2⟩, hLw, hS⟩ (lv_sub hl [2, 3, 4, 5, 6] rfl)

set_option maxHeartbeats 1000000 in
set_option maxRecDepth 100000 in
theorem lc_slip {p : Program} {l : Launch} (hlt : l.stackTraces = false) {e : Env} {s : State} {m : MethodId} {below : List Frame} {meth : Method} {c : Code} {b L : Nat} {xs : Nat → Int32} (hL : L ≤ 2048) (C0 : lw_At p s m meth c b L xs) {G : hG} (hK0 : hK G s) (hZ0 : hZ (fun q => s.heap.size ≤ q) s) {i : Nat} (hi : 4 * i + 4 ≤ L) {H : Heap} {locs : List Loc} {cells slots : Nat} (hcl : cells + 136 ≤ 601024) (hsl : slots + 2744 ≤ 7293034) {ad : Nat → Nat} {q mo : Nat} (hqk : ∀ key, key < 61 → q ≠ ad key) (J : lwJ G s ad q mo H locs) {ls : Array Slot} {Q : State → Prop} (hl : lv_has ls 9 [(4, .int (nI (4 * i))), (0, .ref b), (1, .ref (aX ad)), (2, .ref mo), (3, .ref q)]) (kk : ∀ (H1 : Heap) (locs1 : List Loc) (ls : Array Slot), lwJ G s ad q mo H1 locs1 → lv_has ls 9 [(4, .int (nI (4 * i))), (0, .ref b), (1, .ref (aX ad)), (2, .ref mo), (3, .ref q)] → W p l e room_1 s m #[Value.ref b] below meth c H1 locs1 (cells + 136) (slots + 2744) Q (F0 m 1087 ls [])) : W p l e room_1 s m #[Value.ref b] below meth c H locs cells slots Q (F0 m 703 ls []) := by
  obtain ⟨hx, hb, hr, hml, hown, hts, hX, hbl, hlocks, hgv⟩ := C0
  obtain ⟨S, th, hpX, hpM, hC, hI, hq, hM, hLw, hS⟩ := J
  have hbA : ¬ (fun q : Nat => s.heap.size ≤ q) b := Nat.not_le.mpr hbl
  have hF : CallFix p m c cL_law 9 s #[Value.ref b] wsZ_law RL := ⟨hx, hb, hml, hown, fun w h => hts w (wsZ_in w h)⟩
  refine lv_aload_n hx hb dL_law_703 rfl (lv_at hl 2 rfl) ?_
  refine lv_aload_n hx hb dL_law_704 rfl (lv_at hl 1 rfl) ?_
  refine lv_iload hx hb dL_law_705 (lv_at hl 0 rfl) ?_
  refine lv_iconst (v := nI 1) hx hb dL_law_707 (by decide) ?_
  refine h_iaddN hx hb dL_law_708 ?_
  refine lw_sld (j := 4 * i + 1) hx hb hX hbl hbA hS (by omega) (by omega) dL_law_709 ?_
  refine lv_aload_n hx hb dL_law_710 rfl (lv_at hl 1 rfl) ?_
  refine lv_iload hx hb dL_law_711 (lv_at hl 0 rfl) ?_
  refine lv_iconst (v := nI 2) hx hb dL_law_713 (by decide) ?_
  refine h_iaddN hx hb dL_law_714 ?_
  refine lw_sld (j := 4 * i + 2) hx hb hX hbl hbA hS (by omega) (by omega) dL_law_715 ?_
  refine lv_aload_n hx hb dL_law_716 rfl (lv_at hl 1 rfl) ?_
  refine lv_iload hx hb dL_law_717 (lv_at hl 0 rfl) ?_
  refine lv_iconst (v := nI 3) hx hb dL_law_719 (by decide) ?_
  refine h_iaddN hx hb dL_law_720 ?_
  refine lw_sld (j := 4 * i + 3) hx hb hX hbl hbA hS (by omega) (by omega) dL_law_721 ?_
  refine lv_aload_n hx hb dL_law_722 rfl (lv_at hl 4 rfl) ?_
  obtain ⟨k, v, bb, S2, hk3, hI2, hkv, hhX, hhM⟩ := cs_slip hlt hC hI hq hqk hM ((xs (4 * i + 1))) ((xs (4 * i + 2))) ((xs (4 * i + 3)))
  refine lw_wrS (As := [.ref (aX ad), .int (xs (4 * i + 1)), .int (xs (4 * i + 2)), .int (xs (4 * i + 3)), .ref q]) (rest := []) hF (hhX (dA hpX H.size) (dA_in _ _)) 5 (gZl gL_law_L_slip) rfl (by decide +kernel) ⟨(Nat.le_of_ble_eq_true rfl), (Nat.le_of_ble_eq_true rfl)⟩ hK0 hZ0 hLw hS rfl hl.1 rfl (Nat.le_of_ble_eq_true rfl) ⟨by show _ ≤ 601024; omega, by show _ ≤ 7293034; omega⟩ dL_law_723 (k1 := cells + 68) (k2 := slots + 1372) (by omega) (by omega) (fun ro hpX2 H locs hP1 hLw hS => ?_)
  obtain ⟨rfl, hC2, f, hq2, hfv⟩ := hP1
  refine lv_istore (lv' := [(5, .int (nI k)), (4, .int (nI (4 * i))), (0, .ref b), (1, .ref (aX ad)), (2, .ref mo), (3, .ref q)]) hx hb dL_law_726 hl (by decide) rfl (fun ls hl => ?_)
  refine lv_aload_n hx hb dL_law_728 rfl (lv_at hl 4 rfl) ?_
  refine lv_aload_n hx hb dL_law_729 rfl (lv_at hl 2 rfl) ?_
  refine lv_iload hx hb dL_law_730 (lv_at hl 1 rfl) ?_
  refine lv_iconst (v := nI 1) hx hb dL_law_732 (by decide) ?_
  refine h_iaddN hx hb dL_law_733 ?_
  refine lw_sld (j := 4 * i + 1) hx hb hX hbl hbA hS (by omega) (by omega) dL_law_734 ?_
  refine lv_aload_n hx hb dL_law_735 rfl (lv_at hl 2 rfl) ?_
  refine lv_iload hx hb dL_law_736 (lv_at hl 1 rfl) ?_
  refine lv_iconst (v := nI 2) hx hb dL_law_738 (by decide) ?_
  refine h_iaddN hx hb dL_law_739 ?_
  refine lw_sld (j := 4 * i + 2) hx hb hX hbl hbA hS (by omega) (by omega) dL_law_740 ?_
  refine lv_aload_n hx hb dL_law_741 rfl (lv_at hl 2 rfl) ?_
  refine lv_iload hx hb dL_law_742 (lv_at hl 1 rfl) ?_
  refine lv_iconst (v := nI 3) hx hb dL_law_744 (by decide) ?_
  refine h_iaddN hx hb dL_law_745 ?_
  refine lw_sld (j := 4 * i + 3) hx hb hX hbl hbA hS (by omega) (by omega) dL_law_746 ?_
  obtain ⟨fr, lo, mc, ms, g1, g2, g3, g4, hcM⟩ := hhM (dA hpM H.size) (dA_in _ _)
  obtain ⟨dk0, lv0_, nb0, lvl0, row0, hm0, -⟩ := hM
  refine lw_wrV (As := [.int (xs (4 * i + 1)), .int (xs (4 * i + 2)), .int (xs (4 * i + 3))]) (rest := []) hF hcM 3 (gZl gL_law_X3_slip) rfl (by decide +kernel) ⟨by show fr + 1 ≤ 11; omega, by show 8 + (4 + 11) + lo ≤ 392; omega⟩ hK0 hLw.swap hS hm0.cmo rfl rfl rfl hl.1 rfl (Nat.le_of_ble_eq_true rfl) ⟨by show _ ≤ 601024; omega, by show _ ≤ 7293034; omega⟩ dL_law_747 (k1 := cells + 136) (k2 := slots + 2744) (by omega) (by omega) (fun ro hpM2 H locs hP1 hLw hS => ?_)
  obtain ⟨rfl, hM2⟩ := hP1
  replace hLw := hLw.swap
  refine lv_istore (lv' := [(6, .int bb), (5, .int (nI k)), (4, .int (nI (4 * i))), (0, .ref b), (1, .ref (aX ad)), (2, .ref mo), (3, .ref q)]) hx hb dL_law_750 hl (by decide) rfl (fun ls hl => ?_)
  refine lv_aload_n hx hb dL_law_752 rfl (lv_at hl 5 rfl) ?_
  obtain ⟨dk, lv, nb, lvl, row, hm2, hD2⟩ := hM2
  refine h_rdV (As := []) (rest := []) hF (c_X3_thrown l G hpM2 mo dk lv nb lvl row _ _ _ _ _ hm2) 0 (gZl gL_law_X3_thrown) rfl (by decide +kernel) ⟨(Nat.le_of_ble_eq_true rfl), (Nat.le_of_ble_eq_true rfl)⟩ hK0 hLw.2.1 hm2.cmo rfl rfl rfl hl.1 rfl (Nat.le_of_ble_eq_true rfl) (by show _ ≤ 601024; omega) (by show _ ≤ 7293034; omega) dL_law_753 ?_
  refine lv_iload hx hb dL_law_756 (lv_at hl 1 rfl) ?_
  refine h_icmp_eq (a := k) (b := k) (tgt := 763) hx hb dL_law_758 (by decide) (by omega) (by omega) (fun c_758 => ?_) (fun c_758 => absurd rfl c_758)
  refine lv_iload hx hb dL_law_763 (lv_at hl 1 rfl) ?_
  refine h_if_ne (a := k) (tgt := 780) hx hb dL_law_765 (by decide) (by omega) (fun c_765 => ?_) (fun c_765 => ?_)
  · refine lv_goto (tgt := 1087) hx hb dL_law_780 (by decide) ?_
    exact kk H locs ls ⟨S2, _, hpX2, hpM2, hC2, hI2, ⟨f, hq2⟩, ⟨dk, lv, nb, lvl, row, hm2, hD2⟩, hLw, hS⟩ (lv_sub hl [2, 3, 4, 5, 6] rfl)
  · refine lv_aload_n hx hb dL_law_768 rfl (lv_at hl 6 rfl) ?_
    refine lv_iconst (v := nI 0) hx hb dL_law_769 (by decide) ?_
    refine h_lald (i := 0) hx hb hK0 hLw.1 hq2 (by omega) (by omega) dL_law_770 ?_
    refine lv_iload hx hb dL_law_771 (lv_at hl 0 rfl) ?_
    refine lv_i2l (v := (bb).toInt64) hx hb dL_law_773 rfl ?_
    refine lv_lcmpE (x := f 0) (y := (bb).toInt64) hx hb ((hfv c_765).trans (hkv c_765)) dL_law_774 ?_
    refine lv_if_eq (tgt := 780) hx hb dL_law_775 (by decide) (fun c_775 => ?_) (fun c_775 => absurd rfl c_775)
    refine lv_goto (tgt := 1087) hx hb dL_law_780 (by decide) ?_
    exact kk H locs ls ⟨S2, _, hpX2, hpM2, hC2, hI2, ⟨f, hq2⟩, ⟨dk, lv, nb, lvl, row, hm2, hD2⟩, hLw, hS⟩ (lv_sub hl [2, 3, 4, 5, 6] rfl)

set_option maxHeartbeats 1000000 in
set_option maxRecDepth 100000 in
theorem lc_desk {p : Program} {l : Launch} (hlt : l.stackTraces = false) {e : Env} {s : State} {m : MethodId} {below : List Frame} {meth : Method} {c : Code} {b L : Nat} {xs : Nat → Int32} (hL : L ≤ 2048) (C0 : lw_At p s m meth c b L xs) {G : hG} (hK0 : hK G s) (hZ0 : hZ (fun q => s.heap.size ≤ q) s) {i : Nat} (hi : 4 * i + 4 ≤ L) {H : Heap} {locs : List Loc} {cells slots : Nat} (hcl : cells + 136 ≤ 601024) (hsl : slots + 2744 ≤ 7293034) {ad : Nat → Nat} {q mo : Nat} (hqk : ∀ key, key < 61 → q ≠ ad key) (J : lwJ G s ad q mo H locs) {ls : Array Slot} {Q : State → Prop} (hl : lv_has ls 9 [(4, .int (nI (4 * i))), (0, .ref b), (1, .ref (aX ad)), (2, .ref mo), (3, .ref q)]) (kk : ∀ (H1 : Heap) (locs1 : List Loc) (ls : Array Slot), lwJ G s ad q mo H1 locs1 → lv_has ls 9 [(4, .int (nI (4 * i))), (0, .ref b), (1, .ref (aX ad)), (2, .ref mo), (3, .ref q)] → W p l e room_1 s m #[Value.ref b] below meth c H1 locs1 (cells + 136) (slots + 2744) Q (F0 m 1087 ls [])) : W p l e room_1 s m #[Value.ref b] below meth c H locs cells slots Q (F0 m 783 ls []) := by
  obtain ⟨hx, hb, hr, hml, hown, hts, hX, hbl, hlocks, hgv⟩ := C0
  obtain ⟨S, th, hpX, hpM, hC, hI, hq, hM, hLw, hS⟩ := J
  have hbA : ¬ (fun q : Nat => s.heap.size ≤ q) b := Nat.not_le.mpr hbl
  have hF : CallFix p m c cL_law 9 s #[Value.ref b] wsZ_law RL := ⟨hx, hb, hml, hown, fun w h => hts w (wsZ_in w h)⟩
  refine lv_aload_n hx hb dL_law_783 rfl (lv_at hl 2 rfl) ?_
  refine lv_aload_n hx hb dL_law_784 rfl (lv_at hl 1 rfl) ?_
  refine lv_iload hx hb dL_law_785 (lv_at hl 0 rfl) ?_
  refine lv_iconst (v := nI 1) hx hb dL_law_787 (by decide) ?_
  refine h_iaddN hx hb dL_law_788 ?_
  refine lw_sld (j := 4 * i + 1) hx hb hX hbl hbA hS (by omega) (by omega) dL_law_789 ?_
  refine lv_aload_n hx hb dL_law_790 rfl (lv_at hl 4 rfl) ?_
  obtain ⟨k, v, bb, S2, hk3, hI2, hkv, hhX, hhM⟩ := cs_desk hlt hC hI hq hqk hM ((xs (4 * i + 1)))
  refine lw_wrS (As := [.ref (aX ad), .int (xs (4 * i + 1)), .ref q]) (rest := []) hF (hhX (dA hpX H.size) (dA_in _ _)) 3 (gZl gL_law_L_desk) rfl (by decide +kernel) ⟨(Nat.le_of_ble_eq_true rfl), (Nat.le_of_ble_eq_true rfl)⟩ hK0 hZ0 hLw hS rfl hl.1 rfl (Nat.le_of_ble_eq_true rfl) ⟨by show _ ≤ 601024; omega, by show _ ≤ 7293034; omega⟩ dL_law_791 (k1 := cells + 68) (k2 := slots + 1372) (by omega) (by omega) (fun ro hpX2 H locs hP1 hLw hS => ?_)
  obtain ⟨rfl, hC2, f, hq2, hfv⟩ := hP1
  refine lv_istore (lv' := [(5, .int (nI k)), (4, .int (nI (4 * i))), (0, .ref b), (1, .ref (aX ad)), (2, .ref mo), (3, .ref q)]) hx hb dL_law_794 hl (by decide) rfl (fun ls hl => ?_)
  refine lv_aload_n hx hb dL_law_796 rfl (lv_at hl 4 rfl) ?_
  refine lv_aload_n hx hb dL_law_797 rfl (lv_at hl 2 rfl) ?_
  refine lv_iload hx hb dL_law_798 (lv_at hl 1 rfl) ?_
  refine lv_iconst (v := nI 1) hx hb dL_law_800 (by decide) ?_
  refine h_iaddN hx hb dL_law_801 ?_
  refine lw_sld (j := 4 * i + 1) hx hb hX hbl hbA hS (by omega) (by omega) dL_law_802 ?_
  obtain ⟨fr, lo, mc, ms, g1, g2, g3, g4, hcM⟩ := hhM (dA hpM H.size) (dA_in _ _)
  obtain ⟨dk0, lv0_, nb0, lvl0, row0, hm0, -⟩ := hM
  refine lw_wrV (As := [.int (xs (4 * i + 1))]) (rest := []) hF hcM 1 (gZl gL_law_X3_desk) rfl (by decide +kernel) ⟨by show fr + 1 ≤ 11; omega, by show 8 + (2 + 11) + lo ≤ 392; omega⟩ hK0 hLw.swap hS hm0.cmo rfl rfl rfl hl.1 rfl (Nat.le_of_ble_eq_true rfl) ⟨by show _ ≤ 601024; omega, by show _ ≤ 7293034; omega⟩ dL_law_803 (k1 := cells + 136) (k2 := slots + 2744) (by omega) (by omega) (fun ro hpM2 H locs hP1 hLw hS => ?_)
  obtain ⟨rfl, hM2⟩ := hP1
  replace hLw := hLw.swap
  refine lv_istore (lv' := [(6, .int bb), (5, .int (nI k)), (4, .int (nI (4 * i))), (0, .ref b), (1, .ref (aX ad)), (2, .ref mo), (3, .ref q)]) hx hb dL_law_806 hl (by decide) rfl (fun ls hl => ?_)
  refine lv_aload_n hx hb dL_law_808 rfl (lv_at hl 5 rfl) ?_
  obtain ⟨dk, lv, nb, lvl, row, hm2, hD2⟩ := hM2
  refine h_rdV (As := []) (rest := []) hF (c_X3_thrown l G hpM2 mo dk lv nb lvl row _ _ _ _ _ hm2) 0 (gZl gL_law_X3_thrown) rfl (by decide +kernel) ⟨(Nat.le_of_ble_eq_true rfl), (Nat.le_of_ble_eq_true rfl)⟩ hK0 hLw.2.1 hm2.cmo rfl rfl rfl hl.1 rfl (Nat.le_of_ble_eq_true rfl) (by show _ ≤ 601024; omega) (by show _ ≤ 7293034; omega) dL_law_809 ?_
  refine lv_iload hx hb dL_law_812 (lv_at hl 1 rfl) ?_
  refine h_icmp_eq (a := k) (b := k) (tgt := 819) hx hb dL_law_814 (by decide) (by omega) (by omega) (fun c_814 => ?_) (fun c_814 => absurd rfl c_814)
  refine lv_iload hx hb dL_law_819 (lv_at hl 1 rfl) ?_
  refine h_if_ne (a := k) (tgt := 836) hx hb dL_law_821 (by decide) (by omega) (fun c_821 => ?_) (fun c_821 => ?_)
  · refine lv_goto (tgt := 1087) hx hb dL_law_836 (by decide) ?_
    exact kk H locs ls ⟨S2, _, hpX2, hpM2, hC2, hI2, ⟨f, hq2⟩, ⟨dk, lv, nb, lvl, row, hm2, hD2⟩, hLw, hS⟩ (lv_sub hl [2, 3, 4, 5, 6] rfl)
  · refine lv_aload_n hx hb dL_law_824 rfl (lv_at hl 6 rfl) ?_
    refine lv_iconst (v := nI 0) hx hb dL_law_825 (by decide) ?_
    refine h_lald (i := 0) hx hb hK0 hLw.1 hq2 (by omega) (by omega) dL_law_826 ?_
    refine lv_iload hx hb dL_law_827 (lv_at hl 0 rfl) ?_
    refine lv_i2l (v := (bb).toInt64) hx hb dL_law_829 rfl ?_
    refine lv_lcmpE (x := f 0) (y := (bb).toInt64) hx hb ((hfv c_821).trans (hkv c_821)) dL_law_830 ?_
    refine lv_if_eq (tgt := 836) hx hb dL_law_831 (by decide) (fun c_831 => ?_) (fun c_831 => absurd rfl c_831)
    refine lv_goto (tgt := 1087) hx hb dL_law_836 (by decide) ?_
    exact kk H locs ls ⟨S2, _, hpX2, hpM2, hC2, hI2, ⟨f, hq2⟩, ⟨dk, lv, nb, lvl, row, hm2, hD2⟩, hLw, hS⟩ (lv_sub hl [2, 3, 4, 5, 6] rfl)

set_option maxHeartbeats 1000000 in
set_option maxRecDepth 100000 in
theorem lc_level {p : Program} {l : Launch} (hlt : l.stackTraces = false) {e : Env} {s : State} {m : MethodId} {below : List Frame} {meth : Method} {c : Code} {b L : Nat} {xs : Nat → Int32} (hL : L ≤ 2048) (C0 : lw_At p s m meth c b L xs) {G : hG} (hK0 : hK G s) (hZ0 : hZ (fun q => s.heap.size ≤ q) s) {i : Nat} (hi : 4 * i + 4 ≤ L) {H : Heap} {locs : List Loc} {cells slots : Nat} (hcl : cells + 136 ≤ 601024) (hsl : slots + 2744 ≤ 7293034) {ad : Nat → Nat} {q mo : Nat} (hqk : ∀ key, key < 61 → q ≠ ad key) (J : lwJ G s ad q mo H locs) {ls : Array Slot} {Q : State → Prop} (hl : lv_has ls 9 [(4, .int (nI (4 * i))), (0, .ref b), (1, .ref (aX ad)), (2, .ref mo), (3, .ref q)]) (kk : ∀ (H1 : Heap) (locs1 : List Loc) (ls : Array Slot), lwJ G s ad q mo H1 locs1 → lv_has ls 9 [(4, .int (nI (4 * i))), (0, .ref b), (1, .ref (aX ad)), (2, .ref mo), (3, .ref q)] → W p l e room_1 s m #[Value.ref b] below meth c H1 locs1 (cells + 136) (slots + 2744) Q (F0 m 1087 ls [])) : W p l e room_1 s m #[Value.ref b] below meth c H locs cells slots Q (F0 m 839 ls []) := by
  obtain ⟨hx, hb, hr, hml, hown, hts, hX, hbl, hlocks, hgv⟩ := C0
  obtain ⟨S, th, hpX, hpM, hC, hI, hq, hM, hLw, hS⟩ := J
  have hbA : ¬ (fun q : Nat => s.heap.size ≤ q) b := Nat.not_le.mpr hbl
  have hF : CallFix p m c cL_law 9 s #[Value.ref b] wsZ_law RL := ⟨hx, hb, hml, hown, fun w h => hts w (wsZ_in w h)⟩
  refine lv_aload_n hx hb dL_law_839 rfl (lv_at hl 2 rfl) ?_
  refine lv_aload_n hx hb dL_law_840 rfl (lv_at hl 1 rfl) ?_
  refine lv_iload hx hb dL_law_841 (lv_at hl 0 rfl) ?_
  refine lv_iconst (v := nI 1) hx hb dL_law_843 (by decide) ?_
  refine h_iaddN hx hb dL_law_844 ?_
  refine lw_sld (j := 4 * i + 1) hx hb hX hbl hbA hS (by omega) (by omega) dL_law_845 ?_
  refine lv_aload_n hx hb dL_law_846 rfl (lv_at hl 1 rfl) ?_
  refine lv_iload hx hb dL_law_847 (lv_at hl 0 rfl) ?_
  refine lv_iconst (v := nI 2) hx hb dL_law_849 (by decide) ?_
  refine h_iaddN hx hb dL_law_850 ?_
  refine lw_sld (j := 4 * i + 2) hx hb hX hbl hbA hS (by omega) (by omega) dL_law_851 ?_
  refine lv_aload_n hx hb dL_law_852 rfl (lv_at hl 4 rfl) ?_
  obtain ⟨k, v, bb, S2, hk3, hI2, hkv, hhX, hhM⟩ := cs_level hlt hC hI hq hqk hM ((xs (4 * i + 1))) ((xs (4 * i + 2)))
  refine lw_wrS (As := [.ref (aX ad), .int (xs (4 * i + 1)), .int (xs (4 * i + 2)), .ref q]) (rest := []) hF (hhX (dA hpX H.size) (dA_in _ _)) 4 (gZl gL_law_L_level) rfl (by decide +kernel) ⟨(Nat.le_of_ble_eq_true rfl), (Nat.le_of_ble_eq_true rfl)⟩ hK0 hZ0 hLw hS rfl hl.1 rfl (Nat.le_of_ble_eq_true rfl) ⟨by show _ ≤ 601024; omega, by show _ ≤ 7293034; omega⟩ dL_law_853 (k1 := cells + 68) (k2 := slots + 1372) (by omega) (by omega) (fun ro hpX2 H locs hP1 hLw hS => ?_)
  obtain ⟨rfl, hC2, f, hq2, hfv⟩ := hP1
  refine lv_istore (lv' := [(5, .int (nI k)), (4, .int (nI (4 * i))), (0, .ref b), (1, .ref (aX ad)), (2, .ref mo), (3, .ref q)]) hx hb dL_law_856 hl (by decide) rfl (fun ls hl => ?_)
  refine lv_aload_n hx hb dL_law_858 rfl (lv_at hl 4 rfl) ?_
  refine lv_aload_n hx hb dL_law_859 rfl (lv_at hl 2 rfl) ?_
  refine lv_iload hx hb dL_law_860 (lv_at hl 1 rfl) ?_
  refine lv_iconst (v := nI 1) hx hb dL_law_862 (by decide) ?_
  refine h_iaddN hx hb dL_law_863 ?_
  refine lw_sld (j := 4 * i + 1) hx hb hX hbl hbA hS (by omega) (by omega) dL_law_864 ?_
  refine lv_aload_n hx hb dL_law_865 rfl (lv_at hl 2 rfl) ?_
  refine lv_iload hx hb dL_law_866 (lv_at hl 1 rfl) ?_
  refine lv_iconst (v := nI 2) hx hb dL_law_868 (by decide) ?_
  refine h_iaddN hx hb dL_law_869 ?_
  refine lw_sld (j := 4 * i + 2) hx hb hX hbl hbA hS (by omega) (by omega) dL_law_870 ?_
  obtain ⟨fr, lo, mc, ms, g1, g2, g3, g4, hcM⟩ := hhM (dA hpM H.size) (dA_in _ _)
  obtain ⟨dk0, lv0_, nb0, lvl0, row0, hm0, -⟩ := hM
  refine lw_wrV (As := [.int (xs (4 * i + 1)), .int (xs (4 * i + 2))]) (rest := []) hF hcM 2 (gZl gL_law_X3_level) rfl (by decide +kernel) ⟨by show fr + 1 ≤ 11; omega, by show 8 + (3 + 11) + lo ≤ 392; omega⟩ hK0 hLw.swap hS hm0.cmo rfl rfl rfl hl.1 rfl (Nat.le_of_ble_eq_true rfl) ⟨by show _ ≤ 601024; omega, by show _ ≤ 7293034; omega⟩ dL_law_871 (k1 := cells + 136) (k2 := slots + 2744) (by omega) (by omega) (fun ro hpM2 H locs hP1 hLw hS => ?_)
  obtain ⟨rfl, hM2⟩ := hP1
  replace hLw := hLw.swap
  refine lv_istore (lv' := [(6, .int bb), (5, .int (nI k)), (4, .int (nI (4 * i))), (0, .ref b), (1, .ref (aX ad)), (2, .ref mo), (3, .ref q)]) hx hb dL_law_874 hl (by decide) rfl (fun ls hl => ?_)
  refine lv_aload_n hx hb dL_law_876 rfl (lv_at hl 5 rfl) ?_
  obtain ⟨dk, lv, nb, lvl, row, hm2, hD2⟩ := hM2
  refine h_rdV (As := []) (rest := []) hF (c_X3_thrown l G hpM2 mo dk lv nb lvl row _ _ _ _ _ hm2) 0 (gZl gL_law_X3_thrown) rfl (by decide +kernel) ⟨(Nat.le_of_ble_eq_true rfl), (Nat.le_of_ble_eq_true rfl)⟩ hK0 hLw.2.1 hm2.cmo rfl rfl rfl hl.1 rfl (Nat.le_of_ble_eq_true rfl) (by show _ ≤ 601024; omega) (by show _ ≤ 7293034; omega) dL_law_877 ?_
  refine lv_iload hx hb dL_law_880 (lv_at hl 1 rfl) ?_
  refine h_icmp_eq (a := k) (b := k) (tgt := 887) hx hb dL_law_882 (by decide) (by omega) (by omega) (fun c_882 => ?_) (fun c_882 => absurd rfl c_882)
  refine lv_iload hx hb dL_law_887 (lv_at hl 1 rfl) ?_
  refine h_if_ne (a := k) (tgt := 904) hx hb dL_law_889 (by decide) (by omega) (fun c_889 => ?_) (fun c_889 => ?_)
  · refine lv_goto (tgt := 1087) hx hb dL_law_904 (by decide) ?_
    exact kk H locs ls ⟨S2, _, hpX2, hpM2, hC2, hI2, ⟨f, hq2⟩, ⟨dk, lv, nb, lvl, row, hm2, hD2⟩, hLw, hS⟩ (lv_sub hl [2, 3, 4, 5, 6] rfl)
  · refine lv_aload_n hx hb dL_law_892 rfl (lv_at hl 6 rfl) ?_
    refine lv_iconst (v := nI 0) hx hb dL_law_893 (by decide) ?_
    refine h_lald (i := 0) hx hb hK0 hLw.1 hq2 (by omega) (by omega) dL_law_894 ?_
    refine lv_iload hx hb dL_law_895 (lv_at hl 0 rfl) ?_
    refine lv_i2l (v := (bb).toInt64) hx hb dL_law_897 rfl ?_
    refine lv_lcmpE (x := f 0) (y := (bb).toInt64) hx hb ((hfv c_889).trans (hkv c_889)) dL_law_898 ?_
    refine lv_if_eq (tgt := 904) hx hb dL_law_899 (by decide) (fun c_899 => ?_) (fun c_899 => absurd rfl c_899)
    refine lv_goto (tgt := 1087) hx hb dL_law_904 (by decide) ?_
    exact kk H locs ls ⟨S2, _, hpX2, hpM2, hC2, hI2, ⟨f, hq2⟩, ⟨dk, lv, nb, lvl, row, hm2, hD2⟩, hLw, hS⟩ (lv_sub hl [2, 3, 4, 5, 6] rfl)

set_option maxHeartbeats 1000000 in
set_option maxRecDepth 100000 in
theorem lc_count {p : Program} {l : Launch} (hlt : l.stackTraces = false) {e : Env} {s : State} {m : MethodId} {below : List Frame} {meth : Method} {c : Code} {b L : Nat} {xs : Nat → Int32} (hL : L ≤ 2048) (C0 : lw_At p s m meth c b L xs) {G : hG} (hK0 : hK G s) (hZ0 : hZ (fun q => s.heap.size ≤ q) s) {i : Nat} (hi : 4 * i + 4 ≤ L) {H : Heap} {locs : List Loc} {cells slots : Nat} (hcl : cells + 136 ≤ 601024) (hsl : slots + 2744 ≤ 7293034) {ad : Nat → Nat} {q mo : Nat} (hqk : ∀ key, key < 61 → q ≠ ad key) (J : lwJ G s ad q mo H locs) {ls : Array Slot} {Q : State → Prop} (hl : lv_has ls 9 [(4, .int (nI (4 * i))), (0, .ref b), (1, .ref (aX ad)), (2, .ref mo), (3, .ref q)]) (kk : ∀ (H1 : Heap) (locs1 : List Loc) (ls : Array Slot), lwJ G s ad q mo H1 locs1 → lv_has ls 9 [(4, .int (nI (4 * i))), (0, .ref b), (1, .ref (aX ad)), (2, .ref mo), (3, .ref q)] → W p l e room_1 s m #[Value.ref b] below meth c H1 locs1 (cells + 136) (slots + 2744) Q (F0 m 1087 ls [])) : W p l e room_1 s m #[Value.ref b] below meth c H locs cells slots Q (F0 m 907 ls []) := by
  obtain ⟨hx, hb, hr, hml, hown, hts, hX, hbl, hlocks, hgv⟩ := C0
  obtain ⟨S, th, hpX, hpM, hC, hI, hq, hM, hLw, hS⟩ := J
  have hbA : ¬ (fun q : Nat => s.heap.size ≤ q) b := Nat.not_le.mpr hbl
  have hF : CallFix p m c cL_law 9 s #[Value.ref b] wsZ_law RL := ⟨hx, hb, hml, hown, fun w h => hts w (wsZ_in w h)⟩
  refine lv_aload_n hx hb dL_law_907 rfl (lv_at hl 2 rfl) ?_
  refine lv_aload_n hx hb dL_law_908 rfl (lv_at hl 1 rfl) ?_
  refine lv_iload hx hb dL_law_909 (lv_at hl 0 rfl) ?_
  refine lv_iconst (v := nI 1) hx hb dL_law_911 (by decide) ?_
  refine h_iaddN hx hb dL_law_912 ?_
  refine lw_sld (j := 4 * i + 1) hx hb hX hbl hbA hS (by omega) (by omega) dL_law_913 ?_
  refine lv_aload_n hx hb dL_law_914 rfl (lv_at hl 4 rfl) ?_
  obtain ⟨k, v, bb, S2, hk3, hI2, hkv, hhX, hhM⟩ := cs_count hlt hC hI hq hqk hM ((xs (4 * i + 1)))
  refine lw_wrS (As := [.ref (aX ad), .int (xs (4 * i + 1)), .ref q]) (rest := []) hF (hhX (dA hpX H.size) (dA_in _ _)) 3 (gZl gL_law_L_count) rfl (by decide +kernel) ⟨(Nat.le_of_ble_eq_true rfl), (Nat.le_of_ble_eq_true rfl)⟩ hK0 hZ0 hLw hS rfl hl.1 rfl (Nat.le_of_ble_eq_true rfl) ⟨by show _ ≤ 601024; omega, by show _ ≤ 7293034; omega⟩ dL_law_915 (k1 := cells + 68) (k2 := slots + 1372) (by omega) (by omega) (fun ro hpX2 H locs hP1 hLw hS => ?_)
  obtain ⟨rfl, hC2, f, hq2, hfv⟩ := hP1
  refine lv_istore (lv' := [(5, .int (nI k)), (4, .int (nI (4 * i))), (0, .ref b), (1, .ref (aX ad)), (2, .ref mo), (3, .ref q)]) hx hb dL_law_918 hl (by decide) rfl (fun ls hl => ?_)
  refine lv_aload_n hx hb dL_law_920 rfl (lv_at hl 4 rfl) ?_
  refine lv_aload_n hx hb dL_law_921 rfl (lv_at hl 2 rfl) ?_
  refine lv_iload hx hb dL_law_922 (lv_at hl 1 rfl) ?_
  refine lv_iconst (v := nI 1) hx hb dL_law_924 (by decide) ?_
  refine h_iaddN hx hb dL_law_925 ?_
  refine lw_sld (j := 4 * i + 1) hx hb hX hbl hbA hS (by omega) (by omega) dL_law_926 ?_
  obtain ⟨fr, lo, mc, ms, g1, g2, g3, g4, hcM⟩ := hhM (dA hpM H.size) (dA_in _ _)
  obtain ⟨dk0, lv0_, nb0, lvl0, row0, hm0, -⟩ := hM
  refine lw_wrV (As := [.int (xs (4 * i + 1))]) (rest := []) hF hcM 1 (gZl gL_law_X3_count) rfl (by decide +kernel) ⟨by show fr + 1 ≤ 11; omega, by show 8 + (2 + 11) + lo ≤ 392; omega⟩ hK0 hLw.swap hS hm0.cmo rfl rfl rfl hl.1 rfl (Nat.le_of_ble_eq_true rfl) ⟨by show _ ≤ 601024; omega, by show _ ≤ 7293034; omega⟩ dL_law_927 (k1 := cells + 136) (k2 := slots + 2744) (by omega) (by omega) (fun ro hpM2 H locs hP1 hLw hS => ?_)
  obtain ⟨rfl, hM2⟩ := hP1
  replace hLw := hLw.swap
  refine lv_istore (lv' := [(6, .int bb), (5, .int (nI k)), (4, .int (nI (4 * i))), (0, .ref b), (1, .ref (aX ad)), (2, .ref mo), (3, .ref q)]) hx hb dL_law_930 hl (by decide) rfl (fun ls hl => ?_)
  refine lv_aload_n hx hb dL_law_932 rfl (lv_at hl 5 rfl) ?_
  obtain ⟨dk, lv, nb, lvl, row, hm2, hD2⟩ := hM2
  refine h_rdV (As := []) (rest := []) hF (c_X3_thrown l G hpM2 mo dk lv nb lvl row _ _ _ _ _ hm2) 0 (gZl gL_law_X3_thrown) rfl (by decide +kernel) ⟨(Nat.le_of_ble_eq_true rfl), (Nat.le_of_ble_eq_true rfl)⟩ hK0 hLw.2.1 hm2.cmo rfl rfl rfl hl.1 rfl (Nat.le_of_ble_eq_true rfl) (by show _ ≤ 601024; omega) (by show _ ≤ 7293034; omega) dL_law_933 ?_
  refine lv_iload hx hb dL_law_936 (lv_at hl 1 rfl) ?_
  refine h_icmp_eq (a := k) (b := k) (tgt := 943) hx hb dL_law_938 (by decide) (by omega) (by omega) (fun c_938 => ?_) (fun c_938 => absurd rfl c_938)
  refine lv_iload hx hb dL_law_943 (lv_at hl 1 rfl) ?_
  refine h_if_ne (a := k) (tgt := 960) hx hb dL_law_945 (by decide) (by omega) (fun c_945 => ?_) (fun c_945 => ?_)
  · refine lv_goto (tgt := 1087) hx hb dL_law_960 (by decide) ?_
    exact kk H locs ls ⟨S2, _, hpX2, hpM2, hC2, hI2, ⟨f, hq2⟩, ⟨dk, lv, nb, lvl, row, hm2, hD2⟩, hLw, hS⟩ (lv_sub hl [2, 3, 4, 5, 6] rfl)
  · refine lv_aload_n hx hb dL_law_948 rfl (lv_at hl 6 rfl) ?_
    refine lv_iconst (v := nI 0) hx hb dL_law_949 (by decide) ?_
    refine h_lald (i := 0) hx hb hK0 hLw.1 hq2 (by omega) (by omega) dL_law_950 ?_
    refine lv_iload hx hb dL_law_951 (lv_at hl 0 rfl) ?_
    refine lv_i2l (v := (bb).toInt64) hx hb dL_law_953 rfl ?_
    refine lv_lcmpE (x := f 0) (y := (bb).toInt64) hx hb ((hfv c_945).trans (hkv c_945)) dL_law_954 ?_
    refine lv_if_eq (tgt := 960) hx hb dL_law_955 (by decide) (fun c_955 => ?_) (fun c_955 => absurd rfl c_955)
    refine lv_goto (tgt := 1087) hx hb dL_law_960 (by decide) ?_
    exact kk H locs ls ⟨S2, _, hpX2, hpM2, hC2, hI2, ⟨f, hq2⟩, ⟨dk, lv, nb, lvl, row, hm2, hD2⟩, hLw, hS⟩ (lv_sub hl [2, 3, 4, 5, 6] rfl)

set_option maxHeartbeats 1000000 in
set_option maxRecDepth 100000 in
theorem lc_spares {p : Program} {l : Launch} (hlt : l.stackTraces = false) {e : Env} {s : State} {m : MethodId} {below : List Frame} {meth : Method} {c : Code} {b L : Nat} {xs : Nat → Int32} (hL : L ≤ 2048) (C0 : lw_At p s m meth c b L xs) {G : hG} (hK0 : hK G s) (hZ0 : hZ (fun q => s.heap.size ≤ q) s) {i : Nat} (hi : 4 * i + 4 ≤ L) {H : Heap} {locs : List Loc} {cells slots : Nat} (hcl : cells + 136 ≤ 601024) (hsl : slots + 2744 ≤ 7293034) {ad : Nat → Nat} {q mo : Nat} (hqk : ∀ key, key < 61 → q ≠ ad key) (J : lwJ G s ad q mo H locs) {ls : Array Slot} {Q : State → Prop} (hl : lv_has ls 9 [(4, .int (nI (4 * i))), (0, .ref b), (1, .ref (aX ad)), (2, .ref mo), (3, .ref q)]) (kk : ∀ (H1 : Heap) (locs1 : List Loc) (ls : Array Slot), lwJ G s ad q mo H1 locs1 → lv_has ls 9 [(4, .int (nI (4 * i))), (0, .ref b), (1, .ref (aX ad)), (2, .ref mo), (3, .ref q)] → W p l e room_1 s m #[Value.ref b] below meth c H1 locs1 (cells + 136) (slots + 2744) Q (F0 m 1087 ls [])) : W p l e room_1 s m #[Value.ref b] below meth c H locs cells slots Q (F0 m 963 ls []) := by
  obtain ⟨hx, hb, hr, hml, hown, hts, hX, hbl, hlocks, hgv⟩ := C0
  obtain ⟨S, th, hpX, hpM, hC, hI, hq, hM, hLw, hS⟩ := J
  have hbA : ¬ (fun q : Nat => s.heap.size ≤ q) b := Nat.not_le.mpr hbl
  have hF : CallFix p m c cL_law 9 s #[Value.ref b] wsZ_law RL := ⟨hx, hb, hml, hown, fun w h => hts w (wsZ_in w h)⟩
  refine lv_aload_n hx hb dL_law_963 rfl (lv_at hl 2 rfl) ?_
  refine lv_aload_n hx hb dL_law_964 rfl (lv_at hl 1 rfl) ?_
  refine lv_iload hx hb dL_law_965 (lv_at hl 0 rfl) ?_
  refine lv_iconst (v := nI 1) hx hb dL_law_967 (by decide) ?_
  refine h_iaddN hx hb dL_law_968 ?_
  refine lw_sld (j := 4 * i + 1) hx hb hX hbl hbA hS (by omega) (by omega) dL_law_969 ?_
  refine lv_aload_n hx hb dL_law_970 rfl (lv_at hl 4 rfl) ?_
  obtain ⟨k, v, bb, S2, hk3, hI2, hkv, hhX, hhM⟩ := cs_spares hlt hC hI hq hqk hM ((xs (4 * i + 1)))
  refine lw_wrS (As := [.ref (aX ad), .int (xs (4 * i + 1)), .ref q]) (rest := []) hF (hhX (dA hpX H.size) (dA_in _ _)) 3 (gZl gL_law_L_spares) rfl (by decide +kernel) ⟨(Nat.le_of_ble_eq_true rfl), (Nat.le_of_ble_eq_true rfl)⟩ hK0 hZ0 hLw hS rfl hl.1 rfl (Nat.le_of_ble_eq_true rfl) ⟨by show _ ≤ 601024; omega, by show _ ≤ 7293034; omega⟩ dL_law_971 (k1 := cells + 68) (k2 := slots + 1372) (by omega) (by omega) (fun ro hpX2 H locs hP1 hLw hS => ?_)
  obtain ⟨rfl, hC2, f, hq2, hfv⟩ := hP1
  refine lv_istore (lv' := [(5, .int (nI k)), (4, .int (nI (4 * i))), (0, .ref b), (1, .ref (aX ad)), (2, .ref mo), (3, .ref q)]) hx hb dL_law_974 hl (by decide) rfl (fun ls hl => ?_)
  refine lv_aload_n hx hb dL_law_976 rfl (lv_at hl 4 rfl) ?_
  refine lv_aload_n hx hb dL_law_977 rfl (lv_at hl 2 rfl) ?_
  refine lv_iload hx hb dL_law_978 (lv_at hl 1 rfl) ?_
  refine lv_iconst (v := nI 1) hx hb dL_law_980 (by decide) ?_
  refine h_iaddN hx hb dL_law_981 ?_
  refine lw_sld (j := 4 * i + 1) hx hb hX hbl hbA hS (by omega) (by omega) dL_law_982 ?_
  obtain ⟨fr, lo, mc, ms, g1, g2, g3, g4, hcM⟩ := hhM (dA hpM H.size) (dA_in _ _)
  obtain ⟨dk0, lv0_, nb0, lvl0, row0, hm0, -⟩ := hM
  refine lw_wrV (As := [.int (xs (4 * i + 1))]) (rest := []) hF hcM 1 (gZ_V2 gL_law_X3_spares) rfl (by decide +kernel) ⟨by show fr + 1 ≤ 11; omega, by show 8 + (2 + 11) + lo ≤ 392; omega⟩ hK0 hLw.swap hS hm0.cmo rfl rfl rfl hl.1 rfl (Nat.le_of_ble_eq_true rfl) ⟨by show _ ≤ 601024; omega, by show _ ≤ 7293034; omega⟩ dL_law_983 (k1 := cells + 136) (k2 := slots + 2744) (by omega) (by omega) (fun ro hpM2 H locs hP1 hLw hS => ?_)
  obtain ⟨rfl, hM2⟩ := hP1
  replace hLw := hLw.swap
  refine lv_istore (lv' := [(6, .int bb), (5, .int (nI k)), (4, .int (nI (4 * i))), (0, .ref b), (1, .ref (aX ad)), (2, .ref mo), (3, .ref q)]) hx hb dL_law_986 hl (by decide) rfl (fun ls hl => ?_)
  refine lv_aload_n hx hb dL_law_988 rfl (lv_at hl 5 rfl) ?_
  obtain ⟨dk, lv, nb, lvl, row, hm2, hD2⟩ := hM2
  refine h_rdV (As := []) (rest := []) hF (c_X3_thrown l G hpM2 mo dk lv nb lvl row _ _ _ _ _ hm2) 0 (gZl gL_law_X3_thrown) rfl (by decide +kernel) ⟨(Nat.le_of_ble_eq_true rfl), (Nat.le_of_ble_eq_true rfl)⟩ hK0 hLw.2.1 hm2.cmo rfl rfl rfl hl.1 rfl (Nat.le_of_ble_eq_true rfl) (by show _ ≤ 601024; omega) (by show _ ≤ 7293034; omega) dL_law_989 ?_
  refine lv_iload hx hb dL_law_992 (lv_at hl 1 rfl) ?_
  refine h_icmp_eq (a := k) (b := k) (tgt := 999) hx hb dL_law_994 (by decide) (by omega) (by omega) (fun c_994 => ?_) (fun c_994 => absurd rfl c_994)
  refine lv_iload hx hb dL_law_999 (lv_at hl 1 rfl) ?_
  refine h_if_ne (a := k) (tgt := 1016) hx hb dL_law_1001 (by decide) (by omega) (fun c_1001 => ?_) (fun c_1001 => ?_)
  · refine lv_goto (tgt := 1087) hx hb dL_law_1016 (by decide) ?_
    exact kk H locs ls ⟨S2, _, hpX2, hpM2, hC2, hI2, ⟨f, hq2⟩, ⟨dk, lv, nb, lvl, row, hm2, hD2⟩, hLw, hS⟩ (lv_sub hl [2, 3, 4, 5, 6] rfl)
  · refine lv_aload_n hx hb dL_law_1004 rfl (lv_at hl 6 rfl) ?_
    refine lv_iconst (v := nI 0) hx hb dL_law_1005 (by decide) ?_
    refine h_lald (i := 0) hx hb hK0 hLw.1 hq2 (by omega) (by omega) dL_law_1006 ?_
    refine lv_iload hx hb dL_law_1007 (lv_at hl 0 rfl) ?_
    refine lv_i2l (v := (bb).toInt64) hx hb dL_law_1009 rfl ?_
    refine lv_lcmpE (x := f 0) (y := (bb).toInt64) hx hb ((hfv c_1001).trans (hkv c_1001)) dL_law_1010 ?_
    refine lv_if_eq (tgt := 1016) hx hb dL_law_1011 (by decide) (fun c_1011 => ?_) (fun c_1011 => absurd rfl c_1011)
    refine lv_goto (tgt := 1087) hx hb dL_law_1016 (by decide) ?_
    exact kk H locs ls ⟨S2, _, hpX2, hpM2, hC2, hI2, ⟨f, hq2⟩, ⟨dk, lv, nb, lvl, row, hm2, hD2⟩, hLw, hS⟩ (lv_sub hl [2, 3, 4, 5, 6] rfl)

set_option maxHeartbeats 1000000 in
set_option maxRecDepth 100000 in
theorem lc_advise {p : Program} {l : Launch} (hlt : l.stackTraces = false) {e : Env} {s : State} {m : MethodId} {below : List Frame} {meth : Method} {c : Code} {b L : Nat} {xs : Nat → Int32} (hL : L ≤ 2048) (C0 : lw_At p s m meth c b L xs) {G : hG} (hK0 : hK G s) (hZ0 : hZ (fun q => s.heap.size ≤ q) s) {i : Nat} (hi : 4 * i + 4 ≤ L) {H : Heap} {locs : List Loc} {cells slots : Nat} (hcl : cells + 136 ≤ 601024) (hsl : slots + 2744 ≤ 7293034) {ad : Nat → Nat} {q mo : Nat} (hqk : ∀ key, key < 61 → q ≠ ad key) (J : lwJ G s ad q mo H locs) {ls : Array Slot} {Q : State → Prop} (hl : lv_has ls 9 [(4, .int (nI (4 * i))), (0, .ref b), (1, .ref (aX ad)), (2, .ref mo), (3, .ref q)]) (kk : ∀ (H1 : Heap) (locs1 : List Loc) (ls : Array Slot), lwJ G s ad q mo H1 locs1 → lv_has ls 9 [(4, .int (nI (4 * i))), (0, .ref b), (1, .ref (aX ad)), (2, .ref mo), (3, .ref q)] → W p l e room_1 s m #[Value.ref b] below meth c H1 locs1 (cells + 136) (slots + 2744) Q (F0 m 1087 ls [])) : W p l e room_1 s m #[Value.ref b] below meth c H locs cells slots Q (F0 m 1019 ls []) := by
  obtain ⟨hx, hb, hr, hml, hown, hts, hX, hbl, hlocks, hgv⟩ := C0
  obtain ⟨S, th, hpX, hpM, hC, hI, hq, hM, hLw, hS⟩ := J
  have hbA : ¬ (fun q : Nat => s.heap.size ≤ q) b := Nat.not_le.mpr hbl
  have hF : CallFix p m c cL_law 9 s #[Value.ref b] wsZ_law RL := ⟨hx, hb, hml, hown, fun w h => hts w (wsZ_in w h)⟩
  refine lv_aload_n hx hb dL_law_1019 rfl (lv_at hl 2 rfl) ?_
  obtain ⟨v, S2, th2, hg, hI2, hhX, hhM⟩ := cs_advise hlt hC hI hq hqk hM
  obtain ⟨r, rfl⟩ := hg
  obtain ⟨fr, lo, g1, g2, hcX⟩ := hhX (dA hpX H.size) (dA_in _ _)
  refine lw_wrV (As := []) (rest := []) hF hcX 0 (gZl gL_law_X2_advise) rfl (by decide +kernel) ⟨by show fr + 1 ≤ 11; omega, by show 8 + (5 + 11) + lo ≤ 392; omega⟩ hK0 hLw hS hC.xo rfl rfl rfl hl.1 rfl (Nat.le_of_ble_eq_true rfl) ⟨by show _ ≤ 601024; omega, by show _ ≤ 7293034; omega⟩ dL_law_1020 (k1 := cells + 68) (k2 := slots + 1372) (by omega) (by omega) (fun ro hpX2 H locs hP1 hLw hS => ?_)
  obtain ⟨rfl, hC2, f, hq2⟩ := hP1
  skip
  refine lv_aload_n hx hb dL_law_1023 rfl (lv_at hl 3 rfl) ?_
  obtain ⟨fr, lo, mc, ms, g1, g2, g3, g4, hcM⟩ := hhM (dA hpM H.size) (dA_in _ _)
  obtain ⟨dk0, lv0_, nb0, lvl0, row0, hm0, -⟩ := hM
  refine lw_wrV (As := []) (rest := [.int r]) hF hcM 0 (gZ_V2 gL_law_X3_advise) rfl (by decide +kernel) ⟨by show fr + 1 ≤ 11; omega, by show 8 + (5 + 11) + lo ≤ 392; omega⟩ hK0 hLw.swap hS hm0.cmo rfl rfl rfl hl.1 rfl (Nat.le_of_ble_eq_true rfl) ⟨by show _ ≤ 601024; omega, by show _ ≤ 7293034; omega⟩ dL_law_1024 (k1 := cells + 136) (k2 := slots + 2744) (by omega) (by omega) (fun ro hpM2 H locs hP1 hLw hS => ?_)
  obtain ⟨rfl, hM2⟩ := hP1
  replace hLw := hLw.swap
  refine lv_icmp_eq (tgt := 1087) hx hb dL_law_1027 (by decide) (fun c_1027 => ?_) (fun c_1027 => absurd rfl c_1027)
  exact kk H locs ls ⟨S2, _, hpX2, hpM2, hC2, hI2, ⟨f, hq2⟩, hM2, hLw, hS⟩ (lv_sub hl [0, 1, 2, 3, 4] rfl)

set_option maxHeartbeats 1000000 in
set_option maxRecDepth 100000 in
theorem lc_mean {p : Program} {l : Launch} (hlt : l.stackTraces = false) {e : Env} {s : State} {m : MethodId} {below : List Frame} {meth : Method} {c : Code} {b L : Nat} {xs : Nat → Int32} (hL : L ≤ 2048) (C0 : lw_At p s m meth c b L xs) {G : hG} (hK0 : hK G s) (hZ0 : hZ (fun q => s.heap.size ≤ q) s) {i : Nat} (hi : 4 * i + 4 ≤ L) {H : Heap} {locs : List Loc} {cells slots : Nat} (hcl : cells + 136 ≤ 601024) (hsl : slots + 2744 ≤ 7293034) {ad : Nat → Nat} {q mo : Nat} (hqk : ∀ key, key < 61 → q ≠ ad key) (J : lwJ G s ad q mo H locs) {ls : Array Slot} {Q : State → Prop} (hl : lv_has ls 9 [(4, .int (nI (4 * i))), (0, .ref b), (1, .ref (aX ad)), (2, .ref mo), (3, .ref q)]) (kk : ∀ (H1 : Heap) (locs1 : List Loc) (ls : Array Slot), lwJ G s ad q mo H1 locs1 → lv_has ls 9 [(4, .int (nI (4 * i))), (0, .ref b), (1, .ref (aX ad)), (2, .ref mo), (3, .ref q)] → W p l e room_1 s m #[Value.ref b] below meth c H1 locs1 (cells + 136) (slots + 2744) Q (F0 m 1087 ls [])) : W p l e room_1 s m #[Value.ref b] below meth c H locs cells slots Q (F0 m 1032 ls []) := by
  obtain ⟨hx, hb, hr, hml, hown, hts, hX, hbl, hlocks, hgv⟩ := C0
  obtain ⟨S, th, hpX, hpM, hC, hI, hq, hM, hLw, hS⟩ := J
  have hbA : ¬ (fun q : Nat => s.heap.size ≤ q) b := Nat.not_le.mpr hbl
  have hF : CallFix p m c cL_law 9 s #[Value.ref b] wsZ_law RL := ⟨hx, hb, hml, hown, fun w h => hts w (wsZ_in w h)⟩
  refine lv_aload_n hx hb dL_law_1032 rfl (lv_at hl 2 rfl) ?_
  obtain ⟨v, S2, th2, hg, hI2, hhX, hhM⟩ := cs_mean hlt hC hI hq hqk hM
  obtain ⟨k9, hk9, rfl⟩ := hg
  obtain ⟨fr, lo, g1, g2, hcX⟩ := hhX (dA hpX H.size) (dA_in _ _)
  refine lw_wrV (As := []) (rest := []) hF hcX 0 (gZl gL_law_X2_mean) rfl (by decide +kernel) ⟨by show fr + 1 ≤ 11; omega, by show 8 + (1 + 11) + lo ≤ 392; omega⟩ hK0 hLw hS hC.xo rfl rfl rfl hl.1 rfl (Nat.le_of_ble_eq_true rfl) ⟨by show _ ≤ 601024; omega, by show _ ≤ 7293034; omega⟩ dL_law_1033 (k1 := cells + 68) (k2 := slots + 1372) (by omega) (by omega) (fun ro hpX2 H locs hP1 hLw hS => ?_)
  obtain ⟨rfl, hC2, f, hq2⟩ := hP1
  skip
  refine lv_dstore (lv' := [(5, .double (mnV k9)), (4, .int (nI (4 * i))), (0, .ref b), (1, .ref (aX ad)), (2, .ref mo), (3, .ref q)]) hx hb dL_law_1036 hl (by decide) rfl (fun ls hl => ?_)
  refine lv_aload_n hx hb dL_law_1038 rfl (lv_at hl 4 rfl) ?_
  obtain ⟨fr, lo, mc, ms, g1, g2, g3, g4, hcM⟩ := hhM (dA hpM H.size) (dA_in _ _)
  obtain ⟨dk0, lv0_, nb0, lvl0, row0, hm0, -⟩ := hM
  refine lw_wrV (As := []) (rest := []) hF hcM 0 (gZl gL_law_X3_mean) rfl (by decide +kernel) ⟨by show fr + 1 ≤ 11; omega, by show 8 + (1 + 11) + lo ≤ 392; omega⟩ hK0 hLw.swap hS hm0.cmo rfl rfl rfl hl.1 rfl (Nat.le_of_ble_eq_true rfl) ⟨by show _ ≤ 601024; omega, by show _ ≤ 7293034; omega⟩ dL_law_1039 (k1 := cells + 136) (k2 := slots + 2744) (by omega) (by omega) (fun ro hpM2 H locs hP1 hLw hS => ?_)
  obtain ⟨rfl, hM2⟩ := hP1
  replace hLw := hLw.swap
  refine lv_dstore (lv' := [(7, .double (mnV k9)), (5, .double (mnV k9)), (4, .int (nI (4 * i))), (0, .ref b), (1, .ref (aX ad)), (2, .ref mo), (3, .ref q)]) hx hb dL_law_1042 hl (by decide) rfl (fun ls hl => ?_)
  refine lv_dload hx hb dL_law_1044 (lv_at hl 1 rfl) ?_
  refine lv_dload hx hb dL_law_1046 (lv_at hl 0 rfl) ?_
  refine lv_dcmp hx hb dL_law_1048 ?_
  rw [mn_c k9 hk9]
  refine lv_if_eq (tgt := 1070) hx hb dL_law_1049 (by decide) (fun c_1049 => ?_) (fun c_1049 => absurd rfl c_1049)
  refine lv_goto (tgt := 1087) hx hb dL_law_1070 (by decide) ?_
  exact kk H locs ls ⟨S2, _, hpX2, hpM2, hC2, hI2, ⟨f, hq2⟩, hM2, hLw, hS⟩ (lv_sub hl [2, 3, 4, 5, 6] rfl)

set_option maxHeartbeats 1000000 in
set_option maxRecDepth 100000 in
theorem lc_digest {p : Program} {l : Launch} (hlt : l.stackTraces = false) {e : Env} {s : State} {m : MethodId} {below : List Frame} {meth : Method} {c : Code} {b L : Nat} {xs : Nat → Int32} (hL : L ≤ 2048) (C0 : lw_At p s m meth c b L xs) {G : hG} (hK0 : hK G s) (hZ0 : hZ (fun q => s.heap.size ≤ q) s) {i : Nat} (hi : 4 * i + 4 ≤ L) {H : Heap} {locs : List Loc} {cells slots : Nat} (hcl : cells + 136 ≤ 601024) (hsl : slots + 2744 ≤ 7293034) {ad : Nat → Nat} {q mo : Nat} (hqk : ∀ key, key < 61 → q ≠ ad key) (J : lwJ G s ad q mo H locs) {ls : Array Slot} {Q : State → Prop} (hl : lv_has ls 9 [(4, .int (nI (4 * i))), (0, .ref b), (1, .ref (aX ad)), (2, .ref mo), (3, .ref q)]) (kk : ∀ (H1 : Heap) (locs1 : List Loc) (ls : Array Slot), lwJ G s ad q mo H1 locs1 → lv_has ls 9 [(4, .int (nI (4 * i))), (0, .ref b), (1, .ref (aX ad)), (2, .ref mo), (3, .ref q)] → W p l e room_1 s m #[Value.ref b] below meth c H1 locs1 (cells + 136) (slots + 2744) Q (F0 m 1087 ls [])) : W p l e room_1 s m #[Value.ref b] below meth c H locs cells slots Q (F0 m 1073 ls []) := by
  obtain ⟨hx, hb, hr, hml, hown, hts, hX, hbl, hlocks, hgv⟩ := C0
  obtain ⟨S, th, hpX, hpM, hC, hI, hq, hM, hLw, hS⟩ := J
  have hbA : ¬ (fun q : Nat => s.heap.size ≤ q) b := Nat.not_le.mpr hbl
  have hF : CallFix p m c cL_law 9 s #[Value.ref b] wsZ_law RL := ⟨hx, hb, hml, hown, fun w h => hts w (wsZ_in w h)⟩
  refine lv_aload_n hx hb dL_law_1073 rfl (lv_at hl 2 rfl) ?_
  obtain ⟨v, S2, th2, hg, hI2, hhX, hhM⟩ := cs_digest hlt hC hI hq hqk hM
  obtain ⟨r, rfl⟩ := hg
  obtain ⟨fr, lo, g1, g2, hcX⟩ := hhX (dA hpX H.size) (dA_in _ _)
  refine lw_wrV (As := []) (rest := []) hF hcX 0 (gZl gL_law_X2_digest) rfl (by decide +kernel) ⟨by show fr + 1 ≤ 11; omega, by show 8 + (4 + 11) + lo ≤ 392; omega⟩ hK0 hLw hS hC.xo rfl rfl rfl hl.1 rfl (Nat.le_of_ble_eq_true rfl) ⟨by show _ ≤ 601024; omega, by show _ ≤ 7293034; omega⟩ dL_law_1074 (k1 := cells + 68) (k2 := slots + 1372) (by omega) (by omega) (fun ro hpX2 H locs hP1 hLw hS => ?_)
  obtain ⟨rfl, hC2, f, hq2⟩ := hP1
  skip
  refine lv_aload_n hx hb dL_law_1077 rfl (lv_at hl 3 rfl) ?_
  obtain ⟨fr, lo, mc, ms, g1, g2, g3, g4, hcM⟩ := hhM (dA hpM H.size) (dA_in _ _)
  obtain ⟨dk0, lv0_, nb0, lvl0, row0, hm0, -⟩ := hM
  refine lw_wrV (As := []) (rest := [.long (r)]) hF hcM 0 (gZl gL_law_X3_digest) rfl (by decide +kernel) ⟨by show fr + 1 ≤ 11; omega, by show 8 + (6 + 11) + lo ≤ 392; omega⟩ hK0 hLw.swap hS hm0.cmo rfl rfl rfl hl.1 rfl (Nat.le_of_ble_eq_true rfl) ⟨by show _ ≤ 601024; omega, by show _ ≤ 7293034; omega⟩ dL_law_1078 (k1 := cells + 136) (k2 := slots + 2744) (by omega) (by omega) (fun ro hpM2 H locs hP1 hLw hS => ?_)
  obtain ⟨rfl, hM2⟩ := hP1
  replace hLw := hLw.swap
  refine lv_lcmpE (x := r) (y := r) hx hb rfl dL_law_1081 ?_
  refine lv_if_eq (tgt := 1087) hx hb dL_law_1082 (by decide) (fun c_1082 => ?_) (fun c_1082 => absurd rfl c_1082)
  exact kk H locs ls ⟨S2, _, hpX2, hpM2, hC2, hI2, ⟨f, hq2⟩, hM2, hLw, hS⟩ (lv_sub hl [0, 1, 2, 3, 4] rfl)
