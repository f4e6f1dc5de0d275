/-! THE CLAIM OUT OF ONE WALK OF THE LAW'S BODY. Your part is whole_start (and what it stands on); all else here is the same for every law, but numbers. -/
def R_law : String := "SlipLevelsLaw"
def lw_P (b : Addr) (xs : List Int32) (args : Array Value) (s : State) : Prop := args = #[.ref b] ∧ s.IntsAt b xs ∧ xs.length ≤ 260 ∧ (Jvm.Cond.and given_1 narrow_1).before args s = true
/-- what a walk over the start with the record d0 says of its end, said of the start itself -/
theorem lw_closed {s t : State} {o : Outcome} {d0 : Drawn} {L : List Loc} {k n : Nat} (hd0 : s.drawn.sameBut d0 lw_cs) (hv : ∃ v, o = .returned v) (hW : (s.setDrawn d0).WarmedH t.vm) (hs : (s.setDrawn d0).sameButNew ({ t with vm := s.vm } : State) L k n) : State.butDraws s t lw_cs (fun t1 => Framed s o t1 L k n) := by
  have h2 : t.drawn = d0 := congrArg State.drawn hs.1
  refine ⟨⟨hv, hW, State.sameButNew.setDrawn hs s.drawn⟩, ?_, by decide⟩
  rw [h2]
  exact hd0
def lw_Q (_ : Array Value) (s : State) (o : Outcome) (t : State) : Prop := o = .returned (some (.int 1)) ∧ State.butDraws s t lw_cs (fun t1 => Framed s o t1 [] 600130 7301080)
def lw_Z (below : List Frame) (a : Array Value) (s : State) : State → Prop := fun t => ∃ o, t.status = .running ∧ Ended t below o ∧ lw_Q a s o t
/-- the law's own end, with 1 on the stack, nothing written that was there before, its room as the claim has it; d0: the record of draws at this point (at the entry s.drawn: begin with 'refine W.base ?_' and 'have hd0 := Drawn.sameBut.refl s.drawn lw_cs') -/
theorem lw_ret {p : Program} {l : Launch} {e : Env} {s : State} {m : MethodId} {below : List Frame} {meth : Method} {c : Code} {b : Nat} {d0 : Drawn} (hd0 : s.drawn.sameBut d0 lw_cs) (hx : p.tables.exec = Jvm.exec) (hb : c.code = code) (hr : meth.sig.returnType = ret) (hlocks : meth.locks = false) {pc : Nat} {H : Heap} {ls : Array Slot} (hdg : decode code pc = .ok (.ireturn, 1)) : W p l e room_1 (s.setDrawn d0) m #[Value.ref b] below meth c H [] 600130 7301080 (lw_Z below #[Value.ref b] s) (F0 m pc ls [.int 1]) := by
  intro T hT X
  obtain ⟨fs, hret, hrun, hended, hW, hframe⟩ := X.leave (v := some (.int 1)) (hlocks := hlocks) (fun h => by rw [hr] at h; cases h)
  have hmeth' : T.vm.method? m = some meth := X.method'
  refine ⟨T.setFrames fs, ?_, .returned (some (.int 1)), hrun, hended, rfl, lw_closed hd0 ⟨_, rfl⟩ hW hframe⟩
  jvm_step X.here [X.here.top, hx, hb, hdg, hmeth', hr, ret, narrow_b1]
  (try refine ⟨rfl, ?_⟩); (try refine ⟨rfl, ?_⟩)
  first | (intro acts; rw [hret _ acts rfl rfl rfl]) | rw [hret _ _ rfl rfl rfl]
  exact Steps.refl _
/-- what holds at the law's entry: the machine, the code, the tables' words (any of lw_tbl by 'hts w (by decide +kernel)'), the script of L ints xs at the cell b, what the Statement gives of the start (any of its parts by flat_of_before) -/
def lw_At (p : Program) (s : State) (m : MethodId) (meth : Method) (c : Code) (b L : Nat) (xs : Nat → Int32) : Prop :=
  p.tables.exec = Jvm.exec ∧ c.code = code ∧ meth.sig.returnType = ret ∧ c.maxLocals = 15 ∧ s.vm.findClass R_law = some m.cls ∧ (∀ w ∈ lw_tbl, w.before #[Value.ref b] s = true) ∧ va_X b L xs s s.heap ∧ b < s.heap.size ∧ meth.locks = false ∧ (Jvm.Cond.and given_1 narrow_1).before #[Value.ref b] s = true
/-! the law: what its own reading needs -/
theorem va_q0 {hp : HP} (h : hp = fun _ => none) (q : Nat) : hp q = none := by rw [h]
theorem law_hK {args : Array Value} {s : State} (hts : ∀ w ∈ lw_tbl, w.before args s = true) : ∃ G : hG, hK G s := by
  obtain ⟨c0, i0, k0⟩ := u_known (C := RX0) (T := TX0) (N := 5) (n := 5) hts inX0 (hts (.instantiable RX0 5) (by decide +kernel))
  obtain ⟨c1, i1, k1⟩ := u_known (C := RX1) (T := TX1) (N := 6) (n := 6) hts inX1 (hts (.instantiable RX1 6) (by decide +kernel))
  obtain ⟨c2, i2, k2⟩ := u_known (C := RX2) (T := TX2) (N := 5) (n := 5) hts inX2 (hts (.instantiable RX2 5) (by decide +kernel))
  obtain ⟨c3, i3, k3⟩ := u_known (C := RX3) (T := TX3) (N := 7) (n := 7) hts inX3 (hts (.instantiable RX3 7) (by decide +kernel))
  have hI := hts (.arrayClass .int) (by decide +kernel)
  have hO := hts (.arrayOver (.object RX1)) (by decide +kernel)
  have hA := hts (.arrayOver (.array .int)) (by decide +kernel)
  have hB := hts (.arrayOver (.array (.array .int))) (by decide +kernel)
  have hC := hts (.arrayOver (.array (.array (.array .int)))) (by decide +kernel)
  obtain ⟨aI, kI, pI, a1, a2, a3⟩ := Cond.arrayClass_spec hI
  obtain ⟨pO, aO, kO, o1, o2, o3, o4, o5⟩ := Cond.arrayOver_spec hO
  obtain ⟨pA, aA, kA, e1, e2, e3, e4, e5⟩ := arrayOverA_spec hA
  obtain ⟨pB, aB, kB, f1, f2, f3, f4, f5⟩ := arrayOverA_spec hB
  obtain ⟨pC, aC, kC, g1, g2, g3, g4, g5⟩ := arrayOverA_spec hC
  refine ⟨((fun k => if k = 0 then c0 else if k = 1 then c1 else if k = 2 then c2 else c3, fun k => if k = 0 then i0 else if k = 1 then i1 else if k = 2 then i2 else i3), fun k => if k = 0 then aI else if k = 1 then aI else if k = 2 then aO else if k = 3 then aA else if k = 4 then aB else aC), ⟨?_, ?_⟩, va_AO.of hO, hA, hB, hC, va_Nw.of rfl (hts nwW (by decide +kernel)), va_Nw.of rfl (hts nwT (by decide +kernel)), va_Nw.of rfl (hts nwI (by decide +kernel))⟩
  · intro k q hq
    match k, hq with
    | 0, hq => cases hq; exact k0
    | 1, hq => cases hq; exact k1
    | 2, hq => cases hq; exact k2
    | 3, hq => cases hq; exact k3
    | k + 4, hq => simp [vwCl] at hq
  · intro k q hq
    match k, hq with
    | 0, hq => cases hq; exact ⟨fun N z => ⟨(fun k h => by cases h), kI, a2, pI, a3⟩, a1⟩
    | 1, hq => cases hq; exact ⟨fun N z => ⟨(fun k h => by cases h), kI, a2, pI, a3⟩, a1⟩
    | 2, hq => cases hq; exact ⟨fun N z => ⟨(fun k h => by cases h), kO, o3, pO, o4⟩, kO, pO, o3, o4, o1, o5⟩
    | 3, hq => cases hq; exact ⟨fun N z => ⟨(fun k h => by cases h), kA, e3, pA, e4⟩, e5⟩
    | 4, hq => cases hq; exact ⟨fun N z => ⟨(fun k h => by cases h), kB, f3, pB, f4⟩, f5⟩
    | 5, hq => cases hq; exact ⟨fun N z => ⟨(fun k h => by cases h), kC, g3, pC, g4⟩, g5⟩
    | k + 6, hq => simp at hq
/-! the words of all numbers -/
abbrev wv (S : CS) : Nat → Int32 := wdS (sF S 0) (sN S 0) (gC S 0)
theorem nz_ok {v : Int32} (h : v = -1 ∨ ∃ w : Nat, w < 100 ∧ v = nI w) : nz v = v := by
  rcases h with h | ⟨w, h1, h2⟩
  · rw [h]; decide
  · rw [h2]
    exact if_pos (nI_pos' (by omega))
theorem wv_e (S : CS) (y : Nat) : wv S y = wdS (sF S 0) (bN (vw S 0)) (bG (vw S 0)) y := rfl
theorem wv_put {S : CS} {x : Nat} {v : Int32} (h : v = -1 ∨ ∃ w : Nat, w < 100 ∧ v = nI w) (hv2 : v ≠ -2) (y : Nat) : wv (wrS S x v) y = if y = x then v else wv S y := by
  rw [wv_e, wv_e, w_vw, w_sF, wd_put hv2, nz_ok h]
theorem wv_bf {S : CS} (hn : nOk S) (hI : cI S) (hz : ¬ szR (sF S 0) = 0) {y : Nat} (hy : y < 64) : wv (bfS S) y = wv S y := by
  obtain ⟨-, a2, a3, -⟩ := lk_bf hn hI hz
  rw [wv_e, wv_e, a2, a3]
  exact wd_bind hy
theorem wv_mg {S : CS} (hn : nOk S) (hI : cI S) {l : Nat} (hl : l < 4) {y : Nat} (hy : y < 64) : wv (stS (mgS S 0 l) 0 4) y = wv S y := by
  obtain ⟨-, a2, a3, -⟩ := lk_mg hn hI hl
  rw [wv_e, wv_e, a2, a3]
  exact wd_merge hl hy
theorem wv_tm {S : CS} (hn : nOk S) (hI : cI S) {l : Nat} (hl : l < 4) (y : Nat) : wv (tmS S l) y = wv S y := by
  obtain ⟨-, a2, a3, -⟩ := lk_tm hn hI hl
  rw [wv_e, wv_e, a2, a3]
/-! the first number of which the words are asked -/
def ftW (w : Nat → Int32) : Nat → Nat
  | 0 => 0
  | n + 1 => if 0 ≤ w n then n + 1 else ftW w n
theorem ft_le (w : Nat → Int32) : ∀ n, ftW w n ≤ n
  | 0 => Nat.le_refl _
  | n + 1 => by
    have := ft_le w n
    show (if 0 ≤ w n then n + 1 else ftW w n) ≤ n + 1
    split <;> omega
theorem ft_no (w : Nat → Int32) : ∀ n m, ftW w n ≤ m → m < n → w m < 0
  | 0, m, _, h => absurd h (Nat.not_lt_zero m)
  | n + 1, m, h1, h2 => by
    have h3 : ftW w (n + 1) = if 0 ≤ w n then n + 1 else ftW w n := rfl
    rw [h3] at h1
    split at h1
    · omega
    · rename_i h4
      by_cases e : m = n
      · rw [e]; exact Int32.not_le.mp h4
      · exact ft_no w n m h1 (by omega)
theorem ft_nx {w : Nat → Int32} {n : Nat} (hn : n < 64) (h : 0 ≤ w n) : nxS w (ftW w n) = nI n := by
  have h1 := ft_le w n
  exact nx_at h _ _ h1 (by omega) (fun m a b => ft_no w n m a b)
theorem sf_nx {w : Nat → Int32} {n : Nat} (hn : n < 64) (h : 0 ≤ w n) : nxS w n = nI n :=
  nx_at h _ _ (Nat.le_refl _) (by omega) (fun m a b => absurd b (by omega))
theorem ft_y {w : Nat → Int32} {n : Nat} (h : 0 ≤ w n) : ftW w (n + 1) = n + 1 := if_pos h
theorem ft_n {w : Nat → Int32} {n : Nat} (h : ¬ 0 ≤ w n) : ftW w (n + 1) = ftW w n := if_neg h
theorem cb_y {p : Nat → Bool} {n : Nat} (h : p n = true) : cntB p (n + 1) = cntB p n + 1 := by
  show cntB p n + (if p n = true then 1 else 0) = _
  rw [if_pos h]
theorem cb_n {p : Nat → Bool} {n : Nat} (h : ¬ p n = true) : cntB p (n + 1) = cntB p n + 0 := by
  show cntB p n + (if p n = true then 1 else 0) = _
  rw [if_neg h]
theorem la_any {d : Row} {δ : TG} {V : BV} {ω : TS} {x : Nat} {t : Nat × Nat} (h : laS d δ V ω x = some t) : anyB d V x = true := by
  have key : wd0 d (bN V) (bG V) x ≠ -2 := by
    rcases la_wd (d := d) (δ := δ) (V := V) (ω := ω) (x := x) with ⟨h1, -⟩ | ⟨h1, -, h3⟩ | ⟨l, r, -, -, -, -, h5, h6, -⟩
    · rw [h] at h1; cases h1
    · rw [h3]; exact ne_has h1
    · rw [h6]; exact ne_has h5
  unfold anyB
  rw [decide_eq_false key]
  rfl
theorem la_non {d : Row} {δ : TG} {V : BV} {ω : TS} {x : Nat} (h : laS d δ V ω x = none) : ¬ anyB d V x = true := by
  have key : wd0 d (bN V) (bG V) x = -2 := by
    rcases la_wd (d := d) (δ := δ) (V := V) (ω := ω) (x := x) with ⟨-, h2⟩ | ⟨-, h2, -⟩ | ⟨l, r, -, -, -, h4, -, -, -⟩
    · exact h2
    · rw [h] at h2; cases h2
    · rw [h] at h4; cases h4
  unfold anyB
  rw [decide_eq_true key]
  decide
theorem ls_gr2 {f : Row} (h : 0 < szR f) : ¬ grR f < nI (lsR f) := by
  obtain ⟨y, h1, h2, h3⟩ := ls_gr h
  rw [h2]
  intro z
  have := (nI_ltI (by omega) (by omega)).mp z
  omega
/-! levels are empty behind their merging -/
theorem st_lo {W : BV} {l : Nat} (h : ∀ j, j ≤ l → bN W j < 3) : ∀ m, m ≤ 4 → ∀ j, j ≤ l → bN (stB W m) j = bN W j
  | 0, _, j, _ => rfl
  | m + 1, hm, j, hj => by
    have ih := st_lo h m (by omega)
    by_cases h3 : bN (stB W m) m < 3
    · rw [stB_n h3]
      exact ih j hj
    · have hml : ¬ m ≤ l := fun q => h3 (by rw [ih m q]; exact h m q)
      have h4 : bN (mgB (stB W m) m) j = bN (stB W m) j := by
        by_cases hz : szR (mkB (stB W m) m) = 0
        · rw [mgB_0 hz, bN_clB, if_neg (by omega)]
        · rw [mgB_1 hz, bN_cmB, if_neg (by omega), bN_clB, if_neg (by omega)]
      rw [stB_y h3, h4]
      exact ih j hj
theorem tr_0 {V : BV} {l : Nat} (hl : l < 3) (hI : ∀ l, l < 4 → bN V l ≤ 2) : bN (stB (mgB V l) 4) l = 0 := by
  have hb : ∀ j, j ≤ l → bN (mgB V l) j ≤ if j = l then 0 else bN V j := fun j hj => by
    have := bN_mgB_le V l j (by omega)
    rw [if_neg (by omega)] at this
    exact this
  rw [st_lo (W := mgB V l) (l := l) (fun j hj => by
    have h1 := hb j hj
    have h2 := hI j (by omega)
    split at h1 <;> omega) 4 (Nat.le_refl _) l (Nat.le_refl _)]
  have h1 := hb l (Nat.le_refl _)
  rw [if_pos rfl] at h1
  omega
theorem tr_3 {V : BV} (hI : ∀ l, l < 4 → bN V l ≤ 2) : bN (stB (mgB V 3) 4) 3 ≤ 1 := by
  have hb : ∀ j, j ≤ 3 → bN (mgB V 3) j ≤ if j = 3 then 1 else bN V j := fun j hj => by
    have h1 := bN_mgB_le V 3 j (by omega)
    by_cases e : j = 3
    · rw [if_pos e]
      rw [if_pos (by omega), if_pos rfl] at h1
      exact h1
    · rw [if_neg e]
      rw [if_neg (by omega), if_neg e] at h1
      exact h1
  rw [st_lo (W := mgB V 3) (l := 3) (fun j hj => by
    have h1 := hb j hj
    have h2 := hI j (by omega)
    split at h1 <;> omega) 4 (Nat.le_refl _) 3 (Nat.le_refl _)]
  have h1 := hb 3 (Nat.le_refl _)
  rw [if_pos rfl] at h1
  exact h1
/-! merging makes no slips -/
def tt (V : BV) : Nat := snA (fun l => qL V l) 4
theorem tt_4 (V : BV) : tt V = 0 + qL V 0 + qL V 1 + qL V 2 + qL V 3 := rfl
theorem tt_mg {V : BV} (h : vOk V) {l : Nat} (hl : l < 4) : tt (mgB V l) ≤ tt V := by
  have hok : ∀ r, r < bN V l → okR (bG V l r) := fun r hr => (h.2 l r hl hr).2
  have h1 := ac_le (bG V l) (bN V l)
  have h1b : snA (fun r => szR (bG V l r)) (bN V l) = qL V l := rfl
  have h2 := mk_le hok
  have hq : ∀ l2, qL (mgB V l) l2 = if l2 = min (l + 1) 3 then szR (mkB V l) + (if l2 = l then 0 else qL V l2) else if l2 = l then 0 else qL V l2 := by
    intro l2
    by_cases hz : szR (mkB V l) = 0
    · rw [mgB_0 hz, qL_cl, hz]
      by_cases e : l2 = min (l + 1) 3
      · rw [if_pos e, Nat.zero_add]
      · rw [if_neg e]
    · rw [mgB_1 hz, qL_cm, qL_cl]
  rw [tt_4, tt_4, hq 0, hq 1, hq 2, hq 3]
  generalize szR (mkB V l) = a at *
  generalize szR (acF (bG V l) (bN V l)) = b at *
  rcases (show l = 0 ∨ l = 1 ∨ l = 2 ∨ l = 3 by omega) with q | q | q | q <;> subst q <;> simp <;> omega
theorem tt_st {V : BV} {L : Nat} (h : vOk V) (h1 : oneB (bN V) L) : ∀ m, m ≤ 4 → tt (stB V m) ≤ tt V
  | 0, _ => Nat.le_refl _
  | m + 1, hm => by
    have ih := tt_st h h1 m (by omega)
    by_cases h3 : bN (stB V m) m < 3
    · rw [stB_n h3]
      exact ih
    · rw [stB_y h3]
      have h4 := tt_mg (h.st h1 m (by omega)) (l := m) (by omega)
      omega
theorem tt_tr {V : BV} (h : vOk V) (hI : ∀ l, l < 4 → bN V l ≤ 2) {l : Nat} (hl : l < 4) : tt (stB (mgB V l) 4) ≤ tt V := by
  have h1 := tt_mg h hl
  have h2 := tt_st (h.mg hl (oneB_all hI l)) (mgB_one hl (oneB_all hI l)) 4 (Nat.le_refl _)
  omega
theorem tt_b {V : BV} (hI : ∀ l, l < 4 → bN V l ≤ 2) : tt V ≤ 512 := by
  have hq : ∀ l, l < 4 → qL V l ≤ 128 := fun l hl => by
    have h1 : qL V l ≤ bN V l * 64 := snA_le (fun i _ => szR_le _)
    have h2 := hI l hl
    omega
  have h0 := hq 0 (by omega)
  have h1 := hq 1 (by omega)
  have h2 := hq 2 (by omega)
  have h3 := hq 3 (by omega)
  rw [tt_4]
  omega
theorem nI_subN {a b : Nat} (h : b ≤ a) : nI a - nI b = nI (a - b) := by
  have h3 := nI_add (a - b) b
  rw [show a - b + b = a by omega] at h3
  rw [← h3]
  exact Int32.add_sub_cancel _ _
/-- what 'spares' tells -/
def spV (S : CS) (l : Nat) : Nat := tt (vw S 0) - tt (stB (mgB (vw S 0) l) 4)
theorem sp_eq {S : CS} (hn : nOk S) (hI : cI S) (hv : vOk (vw S 0)) {l : Nat} (hl : l < 4) : nI (slAll (tmS S l) 0) - nI (slAll (tmS S l) 1) = nI (spV S l) := by
  have h1 := tt_tr hv (fun l hl => hI l hl) hl
  rw [lk_sl0 hn hI hl, lk_sl1 hn hI hl]
  exact nI_subN h1
theorem sp_m {S : CS} (hI : cI S) (hv : vOk (vw S 0)) {l : Nat} (hl : l < 4) : nI (tt (vw S 0)) - nI (spV S l) = nI (tt (stB (mgB (vw S 0) l) 4)) := by
  have h1 := tt_tr hv (fun l hl => hI l hl) hl
  unfold spV
  generalize tt (vw S 0) = a at *
  generalize tt (stB (mgB (vw S 0) l) 4) = b at *
  rw [nI_subN (Nat.sub_le a b), show a - (a - b) = b by omega]
theorem tl_2 (S : CS) : tlS (sF S 0) (sN S 0) (gC S 0) (sR S) (sV S 0) (sD S) (sG S 0) 2 = nI (tt (vw S 0)) := rfl
theorem tl_2m {S S2 : CS} {l : Nat} (h : vw S2 0 = stB (mgB (vw S 0) l) 4) : tlS (sF S2 0) (sN S2 0) (gC S2 0) (sR S2) (sV S2 0) (sD S2) (sG S2 0) 2 = nI (tt (stB (mgB (vw S 0) l) 4)) := by
  rw [tl_2, h]
/-! the state behind a trying out -/
theorem tm_V {S : CS} (hn : nOk S) (hI : cI S) {l : Nat} (hl : l < 4) : sV (tmS S l) 0 = sV S 0 := by
  rw [← vw_M, (lk_tm hn hI hl).2.1]
  rfl
theorem tm_G {S : CS} (hn : nOk S) (hI : cI S) {l : Nat} (hl : l < 4) : sG (tmS S l) 0 = sG S 0 := by
  rw [← vw_K, (lk_tm hn hI hl).2.1]
  rfl
theorem T_tm {tb mb gb : Nat} {S : CS} {tm : Nat} {δ : TG} {ω : TS} (hg : gI tb mb gb S tm δ ω) (hn : nOk S) {l : Nat} (hl : l < 4) : gI tb mb gb (tmS S l) tm δ ω := by
  obtain ⟨hI, hoT, hoD, htd, htg, ⟨r, r1, r2, r3⟩, ⟨mv, h1, h2⟩, ⟨mg, h3, h4⟩, h5⟩ := hg
  obtain ⟨a1, a2, a3, a4, a5, a6, -⟩ := lk_tm hn hI hl
  refine ⟨a6, ?_, ?_, ?_, ?_, ⟨r, r1, r2, a4.trans r3⟩, ⟨mv, h1, (tm_V hn hI hl).trans h2⟩, ⟨mg, h3, (tm_G hn hI hl).trans h4⟩, h5⟩
  · rw [a2]; exact hoT
  · rw [a2, a3]; exact hoD
  · rw [a3]; exact htd
  · rw [a2]; exact htg
theorem sA.tm {mo dk lv : Nat} {lvl : Nat → Nat} {row : Nat → Nat → Nat} {S : CS} {tm : Nat} {δ : TG} {ω : TS} {hp : HP} (hn : nOk S) (hI : cI S) {l : Nat} (hl : l < 4) (h : sA mo dk lv lvl row (sR S) tm (sD S) (sF S 0) δ (vw S 0) ω hp) : sA mo dk lv lvl row (sR (tmS S l)) tm (sD (tmS S l)) (sF (tmS S l) 0) δ (vw (tmS S l) 0) ω hp := by
  obtain ⟨a1, a2, a3, a4, a5, a6, -⟩ := lk_tm hn hI hl
  rw [a2, a3, a4, a5]
  exact h
theorem gS_tm {S : CS} (hn : nOk S) (hI : cI S) {l : Nat} (hl : l < 4) : gS (tmS S l) = gS S := by
  obtain ⟨a1, a2, a3, -⟩ := lk_tm hn hI hl
  unfold gS
  rw [a2, a3]
/-! moves and mergings grow -/
theorem bf_gt {tb mb gb : Nat} {S : CS} {tm : Nat} {δ : TG} {ω : TS} (hg : gI tb mb gb S tm δ ω) (hmb : mb ≤ 100000) (hz : 0 < szR (sF S 0)) : sV S 0 < sV (bfS S) 0 := by
  obtain ⟨-, -, -, -, -, -, ⟨mv, h1, h2⟩, -⟩ := hg
  have h3 := bfM_le S
  have h4 : 0 < bfM S := by unfold bfM; omega
  rw [bfV, h2, nI_add]
  exact nI_lt (by omega) (by omega)
theorem mg_gt {tb mb gb : Nat} {S : CS} {tm : Nat} {δ : TG} {ω : TS} (hg : gI tb mb gb S tm δ ω) (hgb : gb ≤ 100000) (hn : nOk S) {l : Nat} (hl : l < 4) : sG S 0 < sG (stS (mgS S 0 l) 0 4) 0 := by
  obtain ⟨hI, -, -, -, -, -, -, ⟨mg, h1, h2⟩, -⟩ := hg
  obtain ⟨a1, a2, -⟩ := lk_mg hn hI hl
  obtain ⟨c, c1, c2⟩ := bK_st (mgB (vw S 0) l) 4
  have e : sG (stS (mgS S 0 l) 0 4) 0 = nI (mg + 1 + c) := by
    rw [← vw_K, a2, c2, bK_mg]
    show (sG S 0 + nI 1) + nI c = _
    rw [h2, nI_add, nI_add]
  rw [e, h2]
  exact nI_lt (by omega) (by omega)
theorem bf_ge (S : CS) : szR (sF S 0) ≤ bfM S := by unfold bfM; omega
/-! the words' array beside both -/
theorem cW.pq {ad : Nat → Nat} {S : CS} {hp : HP} (h : cW ad S hp) {q : Nat} (hq : ∀ key, key < 61 → q ≠ ad key) (e : hE) : cW ad S (hput hp q e) := ⟨h.1, h.2.1, fun key hk => (hput_n _ _ (fun z => hq key hk z.symm)).trans (h.2.2 key hk)⟩
theorem skH.pq {hp : HP} {q : Nat} {e0 : hE} (h0 : hp q = some e0) (hs : sk e0 = false) (e : hE) : skH hp (hput hp q e) := fun x e1 h1 h2 => by
  have hx : x ≠ q := fun z => by
    rw [z, h0] at h2
    cases h2
    rw [h1] at hs
    cases hs
  rw [hput_n _ _ hx]
  exact h2
theorem gX.pq {ad : Nat → Nat} {mo lv tb mb gb : Nat} {S : CS} {hp : HP} (h : gX ad mo lv tb mb gb S hp) {q : Nat} {F : Nat → Int32} (h0 : hp q = some (eI 64 F)) (hq : ∀ key, key < 61 → q ≠ ad key) (e : hE) : gX ad mo lv tb mb gb S (hput hp q e) := by
  obtain ⟨tm, δ, ω, hg, hC, dk, lvl, row, hm⟩ := h
  exact ⟨tm, δ, ω, hg, hC.pq hq e, dk, lvl, row, hm.ms (skH.pq h0 rfl e)⟩
theorem cW.nk {ad : Nat → Nat} {S : CS} {hp : HP} (h : cW ad S hp) {q : Nat} (hq : hp q = none) : ∀ key, key < 61 → q ≠ ad key := fun key hk z => by
  have h1 := h.2.2 key hk
  rw [← z, hq] at h1
  cases h1
/-! readings with their answers named -/
theorem c_X2_cnt (l : Launch) (G : hG) (hp : HP) (ad : Nat → Nat) (S : CS) (hC : cW ad S hp) (wh : Nat) (hw7 : wh < 7) (v : Int32) (he : tlS (sF S 0) (sN S 0) (gC S 0) (sR S) (sV S 0) (sD S) (sG S 0) wh = v) : hRd l yX2_count wsX2_count 6 135 G hp [.ref (aX ad), .int (nI wh)] (some (.int v)) := he ▸ c_X2_count l G hp ad S hC wh hw7
theorem c_X2_lvl (l : Launch) (G : hG) (hp : HP) (ad : Nat → Nat) (S : CS) (hC : cW ad S hp) (lv : Nat) (hl4 : lv < 4) (n : Nat) (he : sN S 0 lv = n) : hRd l yX2_level wsX2_level 2 47 G hp [.ref (aX ad), .int (nI lv), .int (nI 0)] (some (.int (nI n))) := he ▸ c_X2_level l G hp ad S hC lv hl4 0 (by omega)
theorem c_X2_dts (l : Launch) (G : hG) (hp : HP) (ad : Nat → Nat) (S : CS) (hC : cW ad S hp) (x : Nat) (hx6 : x < 64) (n : Nat) (he : dtS (sF S 0) (sN S 0) (gC S 0) x = n) : hRd l yX2_detours wsX2_detours 4 89 G hp [.ref (aX ad), .int (nI x)] (some (.int (nI n))) := he ▸ c_X2_detours l G hp ad S hC x hx6
theorem c_X2_rn (l : Launch) (G : hG) (hp : HP) (ad : Nat → Nat) (S : CS) (hC : cW ad S hp) (lv : Nat) (hl4 : lv < 4) (r : Nat) (hr0 : r < sN S 0 lv) (wh : Nat) (hw6 : wh < 6) (v : Int32) (he : fcS (gC S 0 lv r) (sdS (sF S 0) (sN S 0) (gC S 0) lv r) wh = v) : hRd l yX2_run wsX2_run 5 120 G hp [.ref (aX ad), .int (nI lv), .int (nI r), .int (nI wh)] (some (.int v)) := he ▸ c_X2_run l G hp ad S hC lv hl4 r hr0 wh hw6
theorem c_X2_nx (l : Launch) (G : hG) (hp : HP) (ad : Nat → Nat) (S : CS) (hC : cW ad S hp) (x : Nat) (hx6 : x < 64) (v : Int32) (he : nxS (wv S) x = v) : hRd l yX2_next wsX2_next 4 92 G hp [.ref (aX ad), .int (nI x)] (some (.int v)) := he ▸ c_X2_next l G hp ad S hC x hx6
theorem c_X2_sm (l : Launch) (G : hG) (hp : HP) (ad : Nat → Nat) (S : CS) (hC : cW ad S hp) (x y : Nat) (hxy : x ≤ y) (hy6 : y < 64) (v : Int32) (he : smW (wv S) x (y + 1 - x) = v) : hRd l yX2_sum wsX2_sum 4 92 G hp [.ref (aX ad), .int (nI x), .int (nI y)] (some (.int v)) := he ▸ c_X2_sum l G hp ad S hC x y hxy hy6
theorem dts_put {S : CS} {x : Nat} {v : Int32} (hv : v ≠ -2) : dtS (sF (wrS S x v) 0) (sN (wrS S x v) 0) (gC (wrS S x v) 0) x = 0 := by
  unfold dtS
  rw [w_sF, if_pos (has_ne (by unfold upd; rw [if_pos rfl]; exact hv))]
