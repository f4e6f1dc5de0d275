section
-- ===== PART A: goes FIRST, ahead of the names: the tables' words, and 'selects' of the private methods out of them =====
/-- a private method of a class that the tables say can be made, by its rows of tables_1 -/
def lw_okq (q : MethodName × Nat) : Prop := (q.1.cls ≠ "java/lang/invoke/MethodHandle" ∧ q.1.cls ≠ "java/lang/invoke/VarHandle") ∧ Cond.instantiable q.1.cls q.2 ∈ tables_1 ∧ Cond.privateMethod q.1 ∈ tables_1 ∧ Cond.instanceMethod q.1 ∈ tables_1
theorem lw_p0 : lw_okq (⟨"SlipLevels", "bindFrom", "(I)I"⟩, 5) := ⟨⟨by decide +kernel, by decide +kernel⟩, List.mem_of_getElem? (i := 15) (by decide +kernel), List.mem_of_getElem? (i := 101) (by decide +kernel), List.mem_of_getElem? (i := 102) (by decide +kernel)⟩
theorem lw_p1 : lw_okq (⟨"SlipLevels$Binder", "rowAt", "(II)LSlipLevels$Slips;"⟩, 5) := ⟨⟨by decide +kernel, by decide +kernel⟩, List.mem_of_getElem? (i := 56) (by decide +kernel), List.mem_of_getElem? (i := 121) (by decide +kernel), List.mem_of_getElem? (i := 122) (by decide +kernel)⟩
theorem lw_p2 : lw_okq (⟨"SlipLevels$Binder", "nothingBehind", "(I)Z"⟩, 5) := ⟨⟨by decide +kernel, by decide +kernel⟩, List.mem_of_getElem? (i := 56) (by decide +kernel), List.mem_of_getElem? (i := 142) (by decide +kernel), List.mem_of_getElem? (i := 143) (by decide +kernel)⟩
theorem lw_p3 : lw_okq (⟨"SlipLevels$Binder", "gather", "(IZ)V"⟩, 5) := ⟨⟨by decide +kernel, by decide +kernel⟩, List.mem_of_getElem? (i := 56) (by decide +kernel), List.mem_of_getElem? (i := 146) (by decide +kernel), List.mem_of_getElem? (i := 147) (by decide +kernel)⟩
theorem lw_p4 : lw_okq (⟨"SlipLevels$Binder", "firstWordIn", "(II)I"⟩, 5) := ⟨⟨by decide +kernel, by decide +kernel⟩, List.mem_of_getElem? (i := 56) (by decide +kernel), List.mem_of_getElem? (i := 151) (by decide +kernel), List.mem_of_getElem? (i := 152) (by decide +kernel)⟩
theorem lw_p5 : lw_okq (⟨"SlipLevels", "tryMerging", "(I)V"⟩, 5) := ⟨⟨by decide +kernel, by decide +kernel⟩, List.mem_of_getElem? (i := 15) (by decide +kernel), List.mem_of_getElem? (i := 180) (by decide +kernel), List.mem_of_getElem? (i := 181) (by decide +kernel)⟩
theorem lw_p6 : lw_okq (⟨"SlipLevels", "allDetoursIn", "(LSlipLevels$Binder;)I"⟩, 5) := ⟨⟨by decide +kernel, by decide +kernel⟩, List.mem_of_getElem? (i := 15) (by decide +kernel), List.mem_of_getElem? (i := 189) (by decide +kernel), List.mem_of_getElem? (i := 190) (by decide +kernel)⟩
theorem lw_p7 : lw_okq (⟨"SlipLevels", "detoursIn", "(LSlipLevels$Binder;I)I"⟩, 5) := ⟨⟨by decide +kernel, by decide +kernel⟩, List.mem_of_getElem? (i := 15) (by decide +kernel), List.mem_of_getElem? (i := 193) (by decide +kernel), List.mem_of_getElem? (i := 194) (by decide +kernel)⟩
theorem lw_p8 : lw_okq (⟨"SlipLevels", "tally", "(I)I"⟩, 5) := ⟨⟨by decide +kernel, by decide +kernel⟩, List.mem_of_getElem? (i := 15) (by decide +kernel), List.mem_of_getElem? (i := 222) (by decide +kernel), List.mem_of_getElem? (i := 223) (by decide +kernel)⟩
theorem lw_p9 : lw_okq (⟨"SlipLevels", "wordsStanding", "()I"⟩, 5) := ⟨⟨by decide +kernel, by decide +kernel⟩, List.mem_of_getElem? (i := 15) (by decide +kernel), List.mem_of_getElem? (i := 234) (by decide +kernel), List.mem_of_getElem? (i := 235) (by decide +kernel)⟩
theorem lw_p10 : lw_okq (⟨"SlipLevels", "wordOf", "(I)I"⟩, 5) := ⟨⟨by decide +kernel, by decide +kernel⟩, List.mem_of_getElem? (i := 15) (by decide +kernel), List.mem_of_getElem? (i := 238) (by decide +kernel), List.mem_of_getElem? (i := 239) (by decide +kernel)⟩
theorem lw_p11 : lw_okq (⟨"SlipLevels", "digestLevel", "(JI)J"⟩, 5) := ⟨⟨by decide +kernel, by decide +kernel⟩, List.mem_of_getElem? (i := 15) (by decide +kernel), List.mem_of_getElem? (i := 258) (by decide +kernel), List.mem_of_getElem? (i := 259) (by decide +kernel)⟩
theorem lw_p12 : lw_okq (⟨"SlipLevels", "standingIn", "(II)I"⟩, 5) := ⟨⟨by decide +kernel, by decide +kernel⟩, List.mem_of_getElem? (i := 15) (by decide +kernel), List.mem_of_getElem? (i := 263) (by decide +kernel), List.mem_of_getElem? (i := 264) (by decide +kernel)⟩
theorem lw_p13 : lw_okq (⟨"java/lang/Throwable", "fillInStackTrace", "(I)Ljava/lang/Throwable;"⟩, 6) := ⟨⟨by decide +kernel, by decide +kernel⟩, List.mem_of_getElem? (i := 325) (by decide +kernel), List.mem_of_getElem? (i := 323) (by decide +kernel), List.mem_of_getElem? (i := 324) (by decide +kernel)⟩
theorem lw_p14 : lw_okq (⟨"SlipLevelsModel", "put", "(II)Z"⟩, 4) := ⟨⟨by decide +kernel, by decide +kernel⟩, List.mem_of_getElem? (i := 509) (by decide +kernel), List.mem_of_getElem? (i := 549) (by decide +kernel), List.mem_of_getElem? (i := 550) (by decide +kernel)⟩
theorem lw_p15 : lw_okq (⟨"SlipLevelsModel", "bound", "()I"⟩, 4) := ⟨⟨by decide +kernel, by decide +kernel⟩, List.mem_of_getElem? (i := 509) (by decide +kernel), List.mem_of_getElem? (i := 556) (by decide +kernel), List.mem_of_getElem? (i := 557) (by decide +kernel)⟩
def lw_privs_1 : List (MethodName × Nat) := [(⟨"SlipLevels", "bindFrom", "(I)I"⟩, 5), (⟨"SlipLevels$Binder", "rowAt", "(II)LSlipLevels$Slips;"⟩, 5), (⟨"SlipLevels$Binder", "nothingBehind", "(I)Z"⟩, 5), (⟨"SlipLevels$Binder", "gather", "(IZ)V"⟩, 5), (⟨"SlipLevels$Binder", "firstWordIn", "(II)I"⟩, 5), (⟨"SlipLevels", "tryMerging", "(I)V"⟩, 5), (⟨"SlipLevels", "allDetoursIn", "(LSlipLevels$Binder;)I"⟩, 5), (⟨"SlipLevels", "detoursIn", "(LSlipLevels$Binder;I)I"⟩, 5), (⟨"SlipLevels", "tally", "(I)I"⟩, 5), (⟨"SlipLevels", "wordsStanding", "()I"⟩, 5), (⟨"SlipLevels", "wordOf", "(I)I"⟩, 5), (⟨"SlipLevels", "digestLevel", "(JI)J"⟩, 5), (⟨"SlipLevels", "standingIn", "(II)I"⟩, 5), (⟨"java/lang/Throwable", "fillInStackTrace", "(I)Ljava/lang/Throwable;"⟩, 6), (⟨"SlipLevelsModel", "put", "(II)Z"⟩, 4), (⟨"SlipLevelsModel", "bound", "()I"⟩, 4)]
theorem lw_r1 : ∀ q ∈ lw_privs_1, lw_okq q := List.forall_mem_cons.mpr ⟨lw_p0, List.forall_mem_cons.mpr ⟨lw_p1, List.forall_mem_cons.mpr ⟨lw_p2, List.forall_mem_cons.mpr ⟨lw_p3, List.forall_mem_cons.mpr ⟨lw_p4, List.forall_mem_cons.mpr ⟨lw_p5, List.forall_mem_cons.mpr ⟨lw_p6, List.forall_mem_cons.mpr ⟨lw_p7, List.forall_mem_cons.mpr ⟨lw_p8, List.forall_mem_cons.mpr ⟨lw_p9, List.forall_mem_cons.mpr ⟨lw_p10, List.forall_mem_cons.mpr ⟨lw_p11, List.forall_mem_cons.mpr ⟨lw_p12, List.forall_mem_cons.mpr ⟨lw_p13, List.forall_mem_cons.mpr ⟨lw_p14, List.forall_mem_cons.mpr ⟨lw_p15, fun _ h => absurd h List.not_mem_nil⟩⟩⟩⟩⟩⟩⟩⟩⟩⟩⟩⟩⟩⟩⟩⟩
theorem lw_p16 : lw_okq (⟨"SlipLevelsModel", "come", "(I[I)V"⟩, 4) := ⟨⟨by decide +kernel, by decide +kernel⟩, List.mem_of_getElem? (i := 509) (by decide +kernel), List.mem_of_getElem? (i := 560) (by decide +kernel), List.mem_of_getElem? (i := 561) (by decide +kernel)⟩
theorem lw_p17 : lw_okq (⟨"SlipLevelsModel", "settle", "()V"⟩, 4) := ⟨⟨by decide +kernel, by decide +kernel⟩, List.mem_of_getElem? (i := 509) (by decide +kernel), List.mem_of_getElem? (i := 565) (by decide +kernel), List.mem_of_getElem? (i := 566) (by decide +kernel)⟩
theorem lw_p18 : lw_okq (⟨"SlipLevelsModel", "mergeOne", "(I)V"⟩, 4) := ⟨⟨by decide +kernel, by decide +kernel⟩, List.mem_of_getElem? (i := 509) (by decide +kernel), List.mem_of_getElem? (i := 569) (by decide +kernel), List.mem_of_getElem? (i := 570) (by decide +kernel)⟩
theorem lw_p19 : lw_okq (⟨"SlipLevelsModel", "fail", "(I)I"⟩, 4) := ⟨⟨by decide +kernel, by decide +kernel⟩, List.mem_of_getElem? (i := 509) (by decide +kernel), List.mem_of_getElem? (i := 589) (by decide +kernel), List.mem_of_getElem? (i := 590) (by decide +kernel)⟩
theorem lw_p20 : lw_okq (⟨"SlipLevelsModel", "opened", "(I)I"⟩, 4) := ⟨⟨by decide +kernel, by decide +kernel⟩, List.mem_of_getElem? (i := 509) (by decide +kernel), List.mem_of_getElem? (i := 601) (by decide +kernel), List.mem_of_getElem? (i := 602) (by decide +kernel)⟩
theorem lw_p21 : lw_okq (⟨"SlipLevelsModel", "word", "(I)I"⟩, 4) := ⟨⟨by decide +kernel, by decide +kernel⟩, List.mem_of_getElem? (i := 509) (by decide +kernel), List.mem_of_getElem? (i := 611) (by decide +kernel), List.mem_of_getElem? (i := 612) (by decide +kernel)⟩
theorem lw_p22 : lw_okq (⟨"SlipLevelsModel", "said", "(I)I"⟩, 4) := ⟨⟨by decide +kernel, by decide +kernel⟩, List.mem_of_getElem? (i := 509) (by decide +kernel), List.mem_of_getElem? (i := 615) (by decide +kernel), List.mem_of_getElem? (i := 616) (by decide +kernel)⟩
theorem lw_p23 : lw_okq (⟨"SlipLevelsModel", "isRun", "(II)Z"⟩, 4) := ⟨⟨by decide +kernel, by decide +kernel⟩, List.mem_of_getElem? (i := 509) (by decide +kernel), List.mem_of_getElem? (i := 636) (by decide +kernel), List.mem_of_getElem? (i := 637) (by decide +kernel)⟩
theorem lw_p24 : lw_okq (⟨"SlipLevelsModel", "runTold", "(III)I"⟩, 4) := ⟨⟨by decide +kernel, by decide +kernel⟩, List.mem_of_getElem? (i := 509) (by decide +kernel), List.mem_of_getElem? (i := 640) (by decide +kernel), List.mem_of_getElem? (i := 641) (by decide +kernel)⟩
theorem lw_p25 : lw_okq (⟨"SlipLevelsModel", "standing", "(II)I"⟩, 4) := ⟨⟨by decide +kernel, by decide +kernel⟩, List.mem_of_getElem? (i := 509) (by decide +kernel), List.mem_of_getElem? (i := 647) (by decide +kernel), List.mem_of_getElem? (i := 648) (by decide +kernel)⟩
theorem lw_p26 : lw_okq (⟨"SlipLevelsModel", "levelTold", "(II)I"⟩, 4) := ⟨⟨by decide +kernel, by decide +kernel⟩, List.mem_of_getElem? (i := 509) (by decide +kernel), List.mem_of_getElem? (i := 666) (by decide +kernel), List.mem_of_getElem? (i := 667) (by decide +kernel)⟩
theorem lw_p27 : lw_okq (⟨"SlipLevelsModel", "counted", "(I)I"⟩, 4) := ⟨⟨by decide +kernel, by decide +kernel⟩, List.mem_of_getElem? (i := 509) (by decide +kernel), List.mem_of_getElem? (i := 674) (by decide +kernel), List.mem_of_getElem? (i := 675) (by decide +kernel)⟩
theorem lw_p28 : lw_okq (⟨"SlipLevelsModel", "slips", "()I"⟩, 4) := ⟨⟨by decide +kernel, by decide +kernel⟩, List.mem_of_getElem? (i := 509) (by decide +kernel), List.mem_of_getElem? (i := 678) (by decide +kernel), List.mem_of_getElem? (i := 679) (by decide +kernel)⟩
theorem lw_p29 : lw_okq (⟨"SlipLevelsModel", "tried", "(IZ)I"⟩, 4) := ⟨⟨by decide +kernel, by decide +kernel⟩, List.mem_of_getElem? (i := 509) (by decide +kernel), List.mem_of_getElem? (i := 686) (by decide +kernel), List.mem_of_getElem? (i := 687) (by decide +kernel)⟩
theorem lw_p30 : lw_okq (⟨"SlipLevelsModel", "allOpened", "()I"⟩, 4) := ⟨⟨by decide +kernel, by decide +kernel⟩, List.mem_of_getElem? (i := 509) (by decide +kernel), List.mem_of_getElem? (i := 701) (by decide +kernel), List.mem_of_getElem? (i := 702) (by decide +kernel)⟩
def lw_privs_2 : List (MethodName × Nat) := [(⟨"SlipLevelsModel", "come", "(I[I)V"⟩, 4), (⟨"SlipLevelsModel", "settle", "()V"⟩, 4), (⟨"SlipLevelsModel", "mergeOne", "(I)V"⟩, 4), (⟨"SlipLevelsModel", "fail", "(I)I"⟩, 4), (⟨"SlipLevelsModel", "opened", "(I)I"⟩, 4), (⟨"SlipLevelsModel", "word", "(I)I"⟩, 4), (⟨"SlipLevelsModel", "said", "(I)I"⟩, 4), (⟨"SlipLevelsModel", "isRun", "(II)Z"⟩, 4), (⟨"SlipLevelsModel", "runTold", "(III)I"⟩, 4), (⟨"SlipLevelsModel", "standing", "(II)I"⟩, 4), (⟨"SlipLevelsModel", "levelTold", "(II)I"⟩, 4), (⟨"SlipLevelsModel", "counted", "(I)I"⟩, 4), (⟨"SlipLevelsModel", "slips", "()I"⟩, 4), (⟨"SlipLevelsModel", "tried", "(IZ)I"⟩, 4), (⟨"SlipLevelsModel", "allOpened", "()I"⟩, 4)]
theorem lw_r2 : ∀ q ∈ lw_privs_2, lw_okq q := List.forall_mem_cons.mpr ⟨lw_p16, List.forall_mem_cons.mpr ⟨lw_p17, List.forall_mem_cons.mpr ⟨lw_p18, List.forall_mem_cons.mpr ⟨lw_p19, List.forall_mem_cons.mpr ⟨lw_p20, List.forall_mem_cons.mpr ⟨lw_p21, List.forall_mem_cons.mpr ⟨lw_p22, List.forall_mem_cons.mpr ⟨lw_p23, List.forall_mem_cons.mpr ⟨lw_p24, List.forall_mem_cons.mpr ⟨lw_p25, List.forall_mem_cons.mpr ⟨lw_p26, List.forall_mem_cons.mpr ⟨lw_p27, List.forall_mem_cons.mpr ⟨lw_p28, List.forall_mem_cons.mpr ⟨lw_p29, List.forall_mem_cons.mpr ⟨lw_p30, fun _ h => absurd h List.not_mem_nil⟩⟩⟩⟩⟩⟩⟩⟩⟩⟩⟩⟩⟩⟩⟩
def lw_privs : List (MethodName × Nat) := lw_privs_1 ++ (lw_privs_2)
def lw_tbl : List Cond := k2_sels lw_privs ++ tables_1
theorem lw_privs_ok : ∀ q ∈ lw_privs, lw_okq q := by
  show ∀ q ∈ lw_privs_1 ++ (lw_privs_2), lw_okq q
  exact List.forall_mem_append.mpr ⟨lw_r1, lw_r2⟩
/-- the streams that the claim lets the run draw from -/
abbrev lw_cs : List Choice := [Jvm.Choice.named "NaN.bits"]
theorem lw_bits : nanBits ∈ lw_cs := by first | decide | exact List.mem_cons_self | simp [lw_cs, nanBits]
-- ===== end of PART A; then your names; then what follows =====
/-! ===== BEGIN words of one list among another's, by their places ===== -/
theorem goodIn_r {big : List Cond} (ws : List Cond) (ps : List Nat) (hp : ws = ps.filterMap (fun i => big[i]?)) (h : ws.all goodWord = true) : GoodIn big ws := by
  intro w hw
  have h1 := List.all_eq_true.mp h w hw
  rw [hp] at hw
  obtain ⟨i, -, hi⟩ := List.mem_filterMap.mp hw
  have hm : w ∈ big := by first | exact List.mem_of_getElem? hi | exact List.getElem?_mem hi
  exact ⟨hm, good_of_word h1⟩
theorem goodIn_app {big a b : List Cond} (ha : GoodIn big a) (hb : GoodIn big b) : GoodIn big (a ++ b) := fun w h => (List.mem_append.mp h).elim (ha w) (hb w)
theorem goodIn_ca {big a b : List Cond} {c : Cond} (ha : GoodIn big (c :: a)) (hb : GoodIn big b) : GoodIn big (c :: (a ++ b)) := fun w h => (List.mem_cons.mp h).elim (fun e => ha w (List.mem_cons.mpr (Or.inl e))) (fun h => (List.mem_append.mp h).elim (fun h => ha w (List.mem_cons.mpr (Or.inr h))) (hb w))
theorem goodIn_sub {big ws : List Cond} (hm : ∀ w ∈ ws, w ∈ big) (h : ws.all goodWord = true) : GoodIn big ws := fun w hw => ⟨hm w hw, good_of_word (List.all_eq_true.mp h w hw)⟩
/-! ===== END ===== -/

/-! ===== BEGIN exceptions that leave a method, and their catching by the caller (launches without stack traces) ===== -/
section VXA
/-! The laws vx_back, vx_callV, vx_callS, vx_callSW, vx_throw0, vx_throwS follow proofs of the library, with one case more: JvmDerived/Free/Laws.lean (Back.of_free), Shelf42/LK1.lean (callV, callS), Shelf/KitTraced.lean (throwNew0V, throwNewS). -/
/-- where a method has thrown q: the class by its name, the cell, what was written, the world -/
def vx_T (XC : String → State → State → Prop) (st : State) (q : Addr) (t : State) (mc ms : Nat) (free : Addr → Prop) : Prop :=
  ∃ (E : String) (ce : Cell) (L : List Loc), XC E st t ∧ t.heap[q]? = some ce ∧ ce.vm = .none ∧ st.vm.findClass E = some ce.cls ∧ st.WarmedH t.vm ∧ st.sameButNew ({ t with vm := st.vm } : State) L mc ms ∧ ∀ z ∈ L, free z.base
def vx_Q (Qc : Array Value → State → Outcome → State → Prop) (XC : String → State → State → Prop) (mc ms : Nat) (free : Addr → Prop) : Array Value → State → Outcome → State → Prop := fun a st o t =>
  (Qc a st o t ∧ ∃ L, FrameEnd st o t L mc ms ∧ ∀ q ∈ L, free q.base) ∨ ∃ q, o = .threw q ∧ vx_T XC st q t mc ms free
/-- a callee that returns or throws -/
def vx_Met (l : Launch) (y : MethodName) (ws : List Cond) (rm : Room) (Pc : Array Value → State → Prop) (Qc : Array Value → State → Outcome → State → Prop) (XC : String → State → State → Prop) (mc ms : Nat) (free : Addr → Prop) : Prop :=
  MetFree l y (headSpec ws rm) Pc (fun _ _ _ _ _ => True) (vx_Q Qc XC mc ms free)
def vx_Post (XC : String → State → State → Prop) (mc ms : Nat) (free : Addr → Prop) : Pt → Array Value → Addr → Pt → Prop := fun A a q B =>
  ∃ (g : JFrame) (mk : MethodId) (t : State) (L : List Loc) (E : String) (ce : Cell), B.U.heap = t.heap ∧ B.U.vm = t.vm ∧ XC E (A.U.calling g mk a) t ∧ t.heap[q]? = some ce ∧ ce.vm = .none ∧ A.U.vm.findClass E = some ce.cls ∧ B.locs = A.locs ++ L ∧ (∀ z ∈ L, free z.base) ∧ B.cells = A.cells + mc ∧ B.slots = A.slots + ms
def vx_Back (l : Launch) (R : Room) (p : Program) (e : Env) (below : List Frame) (s : State) (sargs : Array Value) (y : MethodName) (len W9 : Nat)
    (Pre : Pt → Array Value → Prop) (Post : Pt → Array Value → Option Value → Pt → Prop) (PostX : Pt → Array Value → Addr → Pt → Prop) : Prop :=
  ∀ (m : MethodId) (meth : Method) (c : Code) (A : Pt) (g : JFrame) (ig : Instr) (mk : MethodId) (a : Array Value),
    Stand p l e R s m sargs below meth c A.U A.locs A.cells A.slots → g.method = m → g.locals.size = c.maxLocals → decode c.code g.pc = .ok (ig, len) →
    2 * g.monitorRoom + (g.stack.map fun v => v.category).sum ≤ W9 → A.U.methodNamed? y = some mk → Pre A a →
    (∃ (v : Option Value) (B : Pt), Stand p l e R s m sargs below meth c B.U B.locs B.cells B.slots ∧ Post A a v B ∧
      Steps p.tables e below (doInvoke e (A.U.setTop g) [] mk a).1 (B.U.setTop { g with pc := g.pc + len, stack := v.toList ++ g.stack })) ∨
    (∃ (q : Addr) (B : Pt), Stand p l e R s m sargs below meth c B.U B.locs B.cells B.slots ∧ PostX A a q B ∧
      Steps p.tables e below (doInvoke e (A.U.setTop g) [] mk a).1 ((B.U.setTop g).pushFrame (.throwing q)))
section Payer
variable {l : Launch} {R : Room} {p : Program} {e : Env} {below : List Frame} {s : State} {sargs : Array Value} {y : MethodName} {len W9 : Nat}
theorem vx_back {ws : List Cond} {rm : Room} {Pc : Array Value → State → Prop} {Qc : Array Value → State → Outcome → State → Prop} {XC : String → State → State → Prop} {mc ms : Nat} {free : Addr → Prop} {bytes : ByteArray} {maxL : Nat} {ret : Option FieldType}
    (hM : vx_Met l y ws rm Pc Qc XC mc ms free) (hblind : FrameBlind Pc) (hrc : rm.cells = mc) (hrs : rm.slots = ms)
    (hframes : rm.frames + 1 ≤ R.frames) (hlocals : W9 + (maxL + 11) + rm.locals ≤ R.locals)
    (hws : ∀ w ∈ ws, ∀ a' U, s.WarmedH U.vm → w.before a' U = true) (hcode : Cond.code y bytes maxL ret ∈ ws) (hinit : ∀ a' U, s.WarmedH U.vm → (Cond.initialized y.cls).before a' U = true) :
    vx_Back l R p e below s sargs y len W9 (PreOf R mc ms Pc) (PostOf Qc mc ms free) (vx_Post XC mc ms free) := by
  intro m meth c A g ig mk a X hg hsize hdg hW hn hp
  have h1 : (headSpec ws rm).pre.before a A.U = true := atoms_intro fun w hw => hws w hw _ _ X.warmed
  have h2 : (Cond.code y bytes maxL ret).before a A.U = true := hws _ hcode _ _ X.warmed
  have h3 : (Cond.initialized y.cls).before a A.U = true := hinit _ _ X.warmed
  have h4 : A.cells + (headSpec ws rm).room.cells ≤ R.cells := by rw [show (headSpec ws rm).room.cells = mc from hrc]; exact hp.1
  have h5 : A.slots + (headSpec ws rm).room.slots ≤ R.slots := by rw [show (headSpec ws rm).room.slots = ms from hrs]; exact hp.2.1
  have hPc : Pc a (A.U.calling g mk a) := hblind _ _ _ _ hp.2.2
  obtain ⟨U, Ls, c0, s0⟩ := A
  dsimp only [Pt.U, Pt.locs, Pt.cells, Pt.slots] at h1 h2 h3 h4 h5 X hn hPc ⊢
  obtain ⟨methY, cY, hmY, hcY, -, hlY, -, -, -, -⟩ := Cond.code_spec hn h2
  obtain ⟨kY, hkY, -⟩ := className_of_methodNamed hn
  have hinitY : kY.init = .initialized := Cond.initialized_spec (findClass_of_methodNamed hn) hkY h3
  have h : At U g.method c below := by rw [hg]; exact X.here
  have hlocals9 : W9 + (maxL + 11) + (headSpec ws rm).room.locals ≤ R.locals := hlocals
  have happ : (headSpec ws rm).appliesLoose y e.platform (U.calling g mk a) = true :=
    Spec.appliesLoose_calling (g := g) h hdg hn hkY hinitY
      (X.room_calling (g := g) (R' := (headSpec ws rm).room) hsize hmY hcY hframes (by rw [hlY]; omega) h4 h5) h1
  obtain ⟨mid, hmid⟩ := h.above
  have hfr : (U.setTop g).frames = (.java g :: mid) ++ below := by rw [State.frames_setTop' g h.top, hmid]; rfl
  obtain ⟨o, s₂, hsteps, -, hend, hq⟩ := Steps.callFree hM p X.admits X.cas X.clock (acts := []) hfr happ hPc trivial
  have hq' : vx_Q Qc XC mc ms free a (U.calling g mk a) o s₂ := hq
  rw [State.frames_setTop' g h.top] at hend
  obtain ⟨g₀, hg0⟩ := Option.isSome_iff_exists.mp h.top
  obtain ⟨r, hr⟩ := State.topJava?_eq_some.mp hg0
  have hr' : (({ U with heap := s₂.heap, slotsUsed := s₂.slotsUsed } : State).setVm s₂.vm).frames = .java g₀ :: r := hr
  rcases hq' with ⟨hqc, L, hfe, hL⟩ | ⟨q, rfl, E, ce, L, hx, hce, hcv, hcl, hW₂, hsm, hL⟩
  · obtain ⟨⟨v, rfl⟩, hW₂, e2, q2, q3, q4, q5, q6⟩ := id hfe
    have e3 : s₂ = ({ (U.calling g mk a).setFrames s₂.frames with heap := s₂.heap, slotsUsed := s₂.slotsUsed } : State).setVm s₂.vm := by
      have : s₂ = ({ s₂ with vm := (U.calling g mk a).vm } : State).setVm s₂.vm := rfl
      rw [e2] at this
      exact this
    obtain ⟨c₂, i₂, len₂, hc₂, hd₂, hf₂⟩ := hend
    have hW' : U.WarmedH s₂.vm := hW₂
    have hcc : c₂ = c := by
      have h1 : s₂.code? g.method = U.code? g.method := by
        rw [State.code?_eq, State.code?_eq, hW'.alike.method?]
      exact Option.some.inj (hc₂.symm.trans (h1.trans h.code))
    subst hcc
    have hlen : len₂ = len := by rw [hdg] at hd₂; cases hd₂; rfl
    subst hlen
    have hs₂ : s₂ = (({ U with heap := s₂.heap, slotsUsed := s₂.slotsUsed } : State).setVm s₂.vm).setTop { g with pc := g.pc + len₂, stack := v.toList ++ g.stack } := by
      refine e3.trans ?_
      rw [hf₂, State.calling_eq h.top, State.setFrames_setFrames, State.setTop_of_frames _ hr', hr]
      rfl
    have hsame : U.sameButNew ({ U with heap := s₂.heap, slotsUsed := s₂.slotsUsed } : State) L mc ms := by
      refine ⟨?_, q2, q3, q4, q5, q6⟩
      obtain ⟨t, ht, -⟩ := State.frames_cons hr
      show ({ U with heap := s₂.heap, slotsUsed := s₂.slotsUsed } : State) = { U.setFrames U.frames with heap := s₂.heap, slotsUsed := s₂.slotsUsed }
      rw [State.setFrames_self ht]
    subst hg
    refine Or.inl ⟨v, ⟨(({ U with heap := s₂.heap, slotsUsed := s₂.slotsUsed } : State).setVm s₂.vm), Ls ++ L, c0 + mc, s0 + ms⟩,
      ⟨X.admits, X.cas, X.clock, X.frames, X.room, X.hears, X.method, X.code, (X.here.setHeapUsed s₂.heap s₂.slotsUsed).setVm hW'.alike, X.tail, State.WarmedH.trans X.warmed hW', X.limits, X.bytes, X.same.trans (hsame.setVm s.vm)⟩,
      ⟨g, mk, s₂, L, rfl, rfl, hqc, rfl, hL, rfl, rfl⟩, ?_⟩
    show Steps p.tables e below _ ((({ U with heap := s₂.heap, slotsUsed := s₂.slotsUsed } : State).setVm s₂.vm).setTop { g with pc := g.pc + len₂, stack := v.toList ++ g.stack })
    rw [← hs₂]
    exact hsteps
  · obtain ⟨e2, q2, q3, q4, q5, q6⟩ := id hsm
    have e3 : s₂ = ({ (U.calling g mk a).setFrames s₂.frames with heap := s₂.heap, slotsUsed := s₂.slotsUsed } : State).setVm s₂.vm := by
      have : s₂ = ({ s₂ with vm := (U.calling g mk a).vm } : State).setVm s₂.vm := rfl
      rw [e2] at this
      exact this
    have hf₂ : s₂.frames = .throwing q :: .java g :: U.frames.tail := hend
    have hW' : U.WarmedH s₂.vm := hW₂
    have hs₂ : s₂ = ((({ U with heap := s₂.heap, slotsUsed := s₂.slotsUsed } : State).setVm s₂.vm).setTop g).pushFrame (.throwing q) := by
      refine e3.trans ?_
      rw [hf₂, State.calling_eq h.top, State.setFrames_setFrames, State.pushFrame, State.frames_setTop _ hr', State.setTop_of_frames _ hr', State.setFrames_setFrames, hr]
      rfl
    have hsame : U.sameButNew ({ U with heap := s₂.heap, slotsUsed := s₂.slotsUsed } : State) L mc ms := by
      refine ⟨?_, q2, q3, q4, q5, q6⟩
      obtain ⟨t, ht, -⟩ := State.frames_cons hr
      show ({ U with heap := s₂.heap, slotsUsed := s₂.slotsUsed } : State) = { U.setFrames U.frames with heap := s₂.heap, slotsUsed := s₂.slotsUsed }
      rw [State.setFrames_self ht]
    subst hg
    refine Or.inr ⟨q, ⟨(({ U with heap := s₂.heap, slotsUsed := s₂.slotsUsed } : State).setVm s₂.vm), Ls ++ L, c0 + mc, s0 + ms⟩,
      ⟨X.admits, X.cas, X.clock, X.frames, X.room, X.hears, X.method, X.code, (X.here.setHeapUsed s₂.heap s₂.slotsUsed).setVm hW'.alike, X.tail, State.WarmedH.trans X.warmed hW', X.limits, X.bytes, X.same.trans (hsame.setVm s.vm)⟩,
      ⟨g, mk, s₂, L, E, ce, rfl, rfl, hx, hce, hcv, hcl, rfl, hL, rfl, rfl⟩, ?_⟩
    show Steps p.tables e below _ (((({ U with heap := s₂.heap, slotsUsed := s₂.slotsUsed } : State).setVm s₂.vm).setTop g).pushFrame (.throwing q))
    rw [← hs₂]
    exact hsteps
end Payer
section Calls
variable {p : Program} {l : Launch} {e : Env} {R : Room} {s : State} {m : MethodId} {args : Array Value} {below : List Frame} {meth : Method} {c : Code} {T : State} {locs : List Loc} {cells slots : Nat}
theorem vx_callV (X : Stand p l e R s m args below meth c T locs cells slots) (hexec : p.tables.exec = Jvm.exec) {own C : String} {index : Nat} {y : MethodName} {bytes : ByteArray} {maxL : Nat} {ret : Option FieldType}
    (hown : s.vm.findClass own = some m.cls) (hlink : (Cond.methodLink own index y).before args s = true) (hinst : (Cond.instanceMethod y).before args s = true) (hsel : (Cond.selects C y y).before args s = true)
    (hcode : (Cond.code y bytes maxL ret).before args s = true) (hy : y.cls ≠ "java/lang/invoke/MethodHandle" ∧ y.cls ≠ "java/lang/invoke/VarHandle")
    {W9 : Nat} {Pre : Pt → Array Value → Prop} {Post : Pt → Array Value → Option Value → Pt → Prop} {PostX : Pt → Array Value → Addr → Pt → Prop} (hK : vx_Back l R p e below s args y 3 W9 Pre Post PostX)
    {b : Addr} {cellB : Cell} (hcell : T.heap[b]? = some cellB) (hobj : cellB.vm.isStatics = false) (hcls : s.vm.findClass C = some cellB.cls)
    {g : JFrame} (hg : g.method = m) (hsize : g.locals.size = c.maxLocals) {argsL rest : List Value} (hlen : ∀ sig, parseMethodDescriptor y.desc = some sig → argsL.length = sig.parameters.length)
    (hstack : g.stack = argsL.reverse ++ .ref b :: rest) (hW : 2 * g.monitorRoom + (rest.map fun v => v.category).sum ≤ W9) (hdg : decode c.code g.pc = .ok (.invokevirtual index, 3))
    (hpre : ∀ vm₁, s.WarmedH vm₁ → Pre ⟨T.setVm vm₁, locs, cells, slots⟩ (Value.ref b :: argsL).toArray) :
    (∃ (v : Option Value) (vm₁ : Vm) (B : Pt), s.WarmedH vm₁ ∧ Stand p l e R s m args below meth c B.U B.locs B.cells B.slots ∧ Post ⟨T.setVm vm₁, locs, cells, slots⟩ (Value.ref b :: argsL).toArray v B ∧
      ∀ target, Steps p.tables e below (B.U.setTop { g with pc := g.pc + 3, stack := v.toList ++ rest }) target → Steps p.tables e below (T.setTop g) target) ∨
    (∃ (q : Addr) (vm₁ : Vm) (B : Pt), s.WarmedH vm₁ ∧ Stand p l e R s m args below meth c B.U B.locs B.cells B.slots ∧ PostX ⟨T.setVm vm₁, locs, cells, slots⟩ (Value.ref b :: argsL).toArray q B ∧
      Steps p.tables e below (T.setTop g) ((B.U.setTop { g with stack := rest }).pushFrame (.throwing q))) := by
  obtain ⟨mk, methM, hnamed, hmethM, hstM, habM⟩ := Cond.instanceMethod_spec hinst
  obtain ⟨methM', cM, hmethM', -, -, -, -, -, -, hsigM⟩ := Cond.code_spec hnamed hcode
  cases hmethM.symm.trans hmethM'
  obtain ⟨c2, r2, m2, q1, q2, q3, q4, kP, hkP, hkPi⟩ := Cond.selects_spec hsel
  cases hcls.symm.trans q1
  cases (State.methodFound?_of_named hnamed hy).symm.trans q2
  cases hnamed.symm.trans q3
  have hselP : selectMethod e.platform s.vm cellB.cls mk = .method mk := by rw [Launch.admits_selectMethod X.admits]; exact q4
  obtain ⟨vm₁, X₁, hstep₁⟩ := X.invokevirtual hexec hown hlink hnamed hmethM hstM hkP hkPi hy (a := b) (cell := cellB) hcell
    (fun z h => by rw [h] at hobj; cases hobj) hselP hmethM habM hkP hkPi (g := g) hg (argsL := argsL) (rest := rest) (hlen _ hsigM) hstack hdg
  rcases hK m meth c ⟨T.setVm vm₁, locs, cells, slots⟩ { g with stack := rest } (.invokevirtual index) mk (Value.ref b :: argsL).toArray X₁ hg hsize hdg hW (X₁.named hnamed) (hpre vm₁ X₁.warmed) with ⟨v, B, X', hpost, hsteps⟩ | ⟨q, B, X', hpost, hsteps⟩
  · exact Or.inl ⟨v, vm₁, B, X₁.warmed, X', hpost, fun target h => hstep₁ _ fun acts => by rw [doInvoke_state]; exact hsteps.trans h⟩
  · exact Or.inr ⟨q, vm₁, B, X₁.warmed, X', hpost, hstep₁ _ fun acts => by rw [doInvoke_state]; exact hsteps⟩
theorem vx_callS (X : Stand p l e R s m args below meth c T locs cells slots) (hexec : p.tables.exec = Jvm.exec) {own : String} {index : Nat} {y : MethodName} {bytes : ByteArray} {maxL : Nat} {ret : Option FieldType}
    (hown : s.vm.findClass own = some m.cls) (hlink : (Cond.methodLink own index y).before args s = true) (hstat : (Cond.static y).before args s = true) (hinit : (Cond.initialized y.cls).before args s = true)
    (hcode : (Cond.code y bytes maxL ret).before args s = true) (hy : y.cls ≠ "java/lang/invoke/MethodHandle" ∧ y.cls ≠ "java/lang/invoke/VarHandle")
    {W9 : Nat} {Pre : Pt → Array Value → Prop} {Post : Pt → Array Value → Option Value → Pt → Prop} {PostX : Pt → Array Value → Addr → Pt → Prop} (hK : vx_Back l R p e below s args y 3 W9 Pre Post PostX)
    {g : JFrame} (hg : g.method = m) (hsize : g.locals.size = c.maxLocals) {argsL rest : List Value} (hlen : ∀ sig, parseMethodDescriptor y.desc = some sig → argsL.length = sig.parameters.length)
    (hstack : g.stack = argsL.reverse ++ rest) (hW : 2 * g.monitorRoom + (rest.map fun v => v.category).sum ≤ W9) (hdg : decode c.code g.pc = .ok (.invokestatic index, 3))
    (hpre : ∀ vm₁, s.WarmedH vm₁ → Pre ⟨T.setVm vm₁, locs, cells, slots⟩ argsL.toArray) :
    (∃ (v : Option Value) (vm₁ : Vm) (B : Pt), s.WarmedH vm₁ ∧ Stand p l e R s m args below meth c B.U B.locs B.cells B.slots ∧ Post ⟨T.setVm vm₁, locs, cells, slots⟩ argsL.toArray v B ∧
      ∀ target, Steps p.tables e below (B.U.setTop { g with pc := g.pc + 3, stack := v.toList ++ rest }) target → Steps p.tables e below (T.setTop g) target) ∨
    (∃ (q : Addr) (vm₁ : Vm) (B : Pt), s.WarmedH vm₁ ∧ Stand p l e R s m args below meth c B.U B.locs B.cells B.slots ∧ PostX ⟨T.setVm vm₁, locs, cells, slots⟩ argsL.toArray q B ∧
      Steps p.tables e below (T.setTop g) ((B.U.setTop { g with stack := rest }).pushFrame (.throwing q))) := by
  obtain ⟨mk, hnamed⟩ := Cond.code_named hcode
  obtain ⟨methM, cM, hmethM, -, -, -, -, -, -, hsigM⟩ := Cond.code_spec hnamed hcode
  have hstatic : methM.isStatic = true := Cond.static_spec hnamed hmethM hstat
  obtain ⟨kP, hkP, -⟩ := className_of_methodNamed hnamed
  have hinitP : kP.init = .initialized := Cond.initialized_spec (findClass_of_methodNamed hnamed) hkP hinit
  obtain ⟨vm₁, X₁, hstep₁⟩ := X.invokestatic hexec hown hlink hnamed hmethM hstatic hkP hinitP hy (g := g) hg (argsL := argsL) (rest := rest) (hlen _ hsigM) hstack hdg
  rcases hK m meth c ⟨T.setVm vm₁, locs, cells, slots⟩ { g with stack := rest } (.invokestatic index) mk argsL.toArray X₁ hg hsize hdg hW (X₁.named hnamed) (hpre vm₁ X₁.warmed) with ⟨v, B, X', hpost, hsteps⟩ | ⟨q, B, X', hpost, hsteps⟩
  · exact Or.inl ⟨v, vm₁, B, X₁.warmed, X', hpost, fun target h => hstep₁ _ fun acts => by rw [doInvoke_state]; exact hsteps.trans h⟩
  · exact Or.inr ⟨q, vm₁, B, X₁.warmed, X', hpost, hstep₁ _ fun acts => by rw [doInvoke_state]; exact hsteps⟩
end Calls
theorem vx_cls {s : State} {T : State} {vm₁ : Vm} {E : String} {k : ClassId} (hW : s.WarmedH vm₁) (h : (T.setVm vm₁).vm.findClass E = some k) : s.vm.findClass E = some k := by
  have h1 : vm₁.findClass E = some k := h
  rw [hW.alike.findClass] at h1
  exact h1
/-- the method's frame g, with q thrown over it -/
def vx_W (p : Program) (l : Launch) (e : Env) (R : Room) (s : State) (m : MethodId) (args : Array Value) (below : List Frame) (meth : Method) (c : Code) (H : Heap) (locs : List Loc) (cells slots : Nat) (Q : State → Prop) (g : JFrame) (q : Addr) : Prop :=
  ∀ T : State, T.heap = H → Stand p l e R s m args below meth c T locs cells slots → ∃ t, Steps p.tables e below ((T.setTop g).pushFrame (.throwing q)) t ∧ Q t
def vx_Run (p : Program) (l : Launch) (e : Env) (R : Room) (s : State) (m : MethodId) (args : Array Value) (below : List Frame) (meth : Method) (c : Code) (H : Heap) (locs : List Loc) (cells slots mc ms : Nat) (g : JFrame) (rest : List Value) (Qa : State → Outcome → State → Prop) (XC : String → State → State → Prop) (free : Addr → Prop) : Prop :=
  ∀ T : State, T.heap = H → Stand p l e R s m args below meth c T locs cells slots →
    (∃ (v : Option Value) (st₀ t T' : State) (L : List Loc), st₀.heap = H ∧ Stand p l e R s m args below meth c T' (locs ++ L) (cells + mc) (slots + ms) ∧ (∀ q ∈ L, free q.base) ∧ T'.heap = t.heap ∧ T'.vm = t.vm ∧ Qa st₀ (.returned v) t ∧
      Goes p e below T g T' { g with pc := g.pc + 3, stack := v.toList ++ rest }) ∨
    (∃ (q : Addr) (st₀ t T' : State) (L : List Loc) (E : String) (ce : Cell), st₀.heap = H ∧ Stand p l e R s m args below meth c T' (locs ++ L) (cells + mc) (slots + ms) ∧ (∀ z ∈ L, free z.base) ∧ T'.heap = t.heap ∧ T'.vm = t.vm ∧ XC E st₀ t ∧ t.heap[q]? = some ce ∧ ce.vm = .none ∧ s.vm.findClass E = some ce.cls ∧
      Steps p.tables e below (T.setTop g) ((T'.setTop { g with stack := rest }).pushFrame (.throwing q)))
def vx_X {S : Type} (px : S → Prop) (B : String → S → State → Prop) (A : Nat → Prop) : String → State → State → Prop := fun E st t => ∃ u : S, px u ∧ B E u t ∧ va_F A st t
section Runs
variable {p : Program} {l : Launch} {e : Env} {R : Room} {s : State} {m : MethodId} {args : Array Value} {below : List Frame} {meth : Method} {c : Code} {H : Heap} {locs : List Loc} {cells slots : Nat}
variable {y : MethodName} {bytes cc : ByteArray} {maxL nL mc ms n index : Nat} {ret : Option FieldType} {ws : List Cond} {rm : Room} {Pc : Array Value → State → Prop} {Qc : Array Value → State → Outcome → State → Prop} {XC : String → State → State → Prop} {free : Addr → Prop} {Ts : List Cond} {own C : String} {b : Addr} {As rest : List Value} {g : JFrame}
theorem vx_callBack (cb : CallB R s args own index y bytes maxL ret ws rm mc ms n) (hM : vx_Met l y ws rm Pc Qc XC mc ms free) (hbl : FrameBlind Pc) : vx_Back l R p e below s args y 3 8 (PreOf R mc ms Pc) (PostOf Qc mc ms free) (vx_Post XC mc ms free) := by
  obtain ⟨hrc, hrs, hfr, hlo, hws, hcw, -, hini, -⟩ := cb
  exact vx_back (bytes := bytes) (maxL := maxL) (ret := ret) hM hbl hrc hrs hfr hlo hws hcw (fun a' U hW => word_at hW (Or.inl (by first | rfl | simp [Cond.onTables, Cond.keeps, Cond.steady])) hini)
theorem vx_runV (S : CallFix p m c cc nL s args Ts own) (hM : vx_Met l y ws rm Pc Qc XC mc ms free) (cw : CallW R s args own C index y bytes maxL ret ws rm mc ms n) (hp : PreV s H C b Pc As)
    (hg : g.method = m) (hn : As.length = n) (hsize : g.locals.size = nL) (hstack : g.stack = As.reverse ++ .ref b :: rest) (hW : 2 * g.monitorRoom + (rest.map fun v => v.category).sum ≤ 8) (hdg : decode cc g.pc = .ok (.invokevirtual index, 3)) (hf : cells + mc ≤ R.cells ∧ slots + ms ≤ R.slots) :
    vx_Run p l e R s m args below meth c H locs cells slots mc ms g rest (Qc (Value.ref b :: As).toArray) XC free := by
  have hK : vx_Back l R p e below s args y 3 8 (PreOf R mc ms Pc) (PostOf Qc mc ms free) (vx_Post XC mc ms free) := vx_callBack cw.1 hM hp.1
  obtain ⟨⟨-, -, -, -, -, -, hcode, -, hy, hlen, hl⟩, hin, hse⟩ := cw
  obtain ⟨hx, hb, hml, ho, -⟩ := S
  obtain ⟨-, ⟨cellB, hcB, hoB, hclB⟩, hPc⟩ := hp
  intro T hT X
  rcases vx_callV X hx (C := C) (bytes := bytes) (maxL := maxL) (ret := ret) ho hl hin hse hcode hy hK (by rw [hT]; exact hcB) hoB hclB hg (hsize.trans hml.symm) (argsL := As) (rest := rest) (fun sig h => hn.trans (hlen sig h)) hstack hW (by rw [hb]; exact hdg)
    (fun vm₁ hW₁ => ⟨hf.1, hf.2, hPc (T.setVm vm₁) hT hW₁⟩) with ⟨v, vm₁, ⟨U', l2, c2, s2⟩, hW₁, X', ⟨g', mk, t, L, e1, e2, hq, h1, hL, h2, h3⟩, st⟩ | ⟨q, vm₁, ⟨U', l2, c2, s2⟩, hW₁, X', ⟨g', mk, t, L, E, ce, e1, e2, hq, hce, hcv, hcl, h1, hL, h2, h3⟩, st⟩
  · dsimp only [Pt.U, Pt.locs, Pt.cells, Pt.slots] at X' e1 e2 h1 h2 h3 st
    subst h1; subst h2; subst h3
    exact Or.inl ⟨v, (T.setVm vm₁).calling g' mk (Value.ref b :: As).toArray, t, U', L, hT, X', hL, e1, e2, hq, st⟩
  · dsimp only [Pt.U, Pt.locs, Pt.cells, Pt.slots] at X' e1 e2 h1 h2 h3 st hcl
    subst h1; subst h2; subst h3
    exact Or.inr ⟨q, (T.setVm vm₁).calling g' mk (Value.ref b :: As).toArray, t, U', L, E, ce, hT, X', hL, e1, e2, hq, hce, hcv, vx_cls hW₁ hcl, st⟩
theorem vx_runS (S : CallFix p m c cc nL s args Ts own) (hM : vx_Met l y ws rm Pc Qc XC mc ms free) (cw : CallB R s args own index y bytes maxL ret ws rm mc ms n ∧ (Cond.static y).before args s = true) (hp : PreS s H Pc As)
    (hg : g.method = m) (hn : As.length = n) (hsize : g.locals.size = nL) (hstack : g.stack = As.reverse ++ rest) (hW : 2 * g.monitorRoom + (rest.map fun v => v.category).sum ≤ 8) (hdg : decode cc g.pc = .ok (.invokestatic index, 3)) (hf : cells + mc ≤ R.cells ∧ slots + ms ≤ R.slots) :
    vx_Run p l e R s m args below meth c H locs cells slots mc ms g rest (Qc As.toArray) XC free := by
  have hK : vx_Back l R p e below s args y 3 8 (PreOf R mc ms Pc) (PostOf Qc mc ms free) (vx_Post XC mc ms free) := vx_callBack cw.1 hM hp.1
  obtain ⟨⟨-, -, -, -, -, -, hcode, hini, hy, hlen, hl⟩, hstt⟩ := cw
  obtain ⟨hx, hb, hml, ho, -⟩ := S
  intro T hT X
  rcases vx_callS X hx (bytes := bytes) (maxL := maxL) (ret := ret) ho hl hstt hini hcode hy hK hg (hsize.trans hml.symm) (argsL := As) (rest := rest) (fun sig h => hn.trans (hlen sig h)) hstack hW (by rw [hb]; exact hdg)
    (fun vm₁ hW₁ => ⟨hf.1, hf.2, hp.2 (T.setVm vm₁) hT hW₁⟩) with ⟨v, vm₁, ⟨U', l2, c2, s2⟩, hW₁, X', ⟨g', mk, t, L, e1, e2, hq, h1, hL, h2, h3⟩, st⟩ | ⟨q, vm₁, ⟨U', l2, c2, s2⟩, hW₁, X', ⟨g', mk, t, L, E, ce, e1, e2, hq, hce, hcv, hcl, h1, hL, h2, h3⟩, st⟩
  · dsimp only [Pt.U, Pt.locs, Pt.cells, Pt.slots] at X' e1 e2 h1 h2 h3 st
    subst h1; subst h2; subst h3
    exact Or.inl ⟨v, (T.setVm vm₁).calling g' mk As.toArray, t, U', L, hT, X', hL, e1, e2, hq, st⟩
  · dsimp only [Pt.U, Pt.locs, Pt.cells, Pt.slots] at X' e1 e2 h1 h2 h3 st hcl
    subst h1; subst h2; subst h3
    exact Or.inr ⟨q, (T.setVm vm₁).calling g' mk As.toArray, t, U', L, E, ce, hT, X', hL, e1, e2, hq, hce, hcv, vx_cls hW₁ hcl, st⟩
end Runs
section Rows
variable {p : Program} {l : Launch} {e : Env} {R : Room} {s : State} {m : MethodId} {args : Array Value} {below : List Frame} {meth : Method} {c : Code} {H : Heap} {locs : List Loc} {cells slots : Nat} {Q : State → Prop}
variable {mc ms : Nat} {free : Addr → Prop} {A0 A1 : Nat → Prop} {H0 : Heap} {a : Array Value} {pc : Nat} {ls : Array Slot} {st0 rest : List Value}
theorem vx_keep {st₀ t T' : State} {L : List Loc} (h0 : st₀.heap = H) (e1 : T'.heap = t.heap) (hS : va_S A0 H0 H locs) (hA : ∀ q, q < H.size → A1 q → A0 q) (hf : ∀ q, free q → A0 q) (hL : ∀ q ∈ L, free q.base) (hF : va_F A1 st₀ t) :
    H.size ≤ T'.heap.size ∧ (∀ q : Nat, q < H.size → ¬ A1 q → T'.heap[q]? = H[q]?) ∧ va_S A0 H0 T'.heap (locs ++ L) := by
  obtain ⟨hz, hk⟩ := hF
  rw [h0] at hz hk
  exact ⟨by rw [e1]; exact hz, fun q h1 h2 => by rw [e1]; exact hk q h1 h2,
    ⟨Nat.le_trans hS.1 (by rw [e1]; exact hz), fun q h1 h2 => by rw [e1, hk q (Nat.lt_of_lt_of_le h1 hS.1) (fun z => h2 (hA q (Nat.lt_of_lt_of_le h1 hS.1) z))]; exact hS.2.1 q h1 h2, fun q hq => by
      rcases List.mem_append.mp hq with h | h
      · exact hS.2.2 q h
      · exact hf _ (hL q h)⟩⟩
theorem vx_calli {S SX : Type} {post : Int32 → S → Prop} {px : SX → Prop} {B : S → State → Prop} {BX : String → SX → State → Prop} {AX : Nat → Prop} (hr : vx_Run p l e R s m args below meth c H locs cells slots mc ms (F0 m pc ls st0) rest (va_Qi post B A1 a) (vx_X px BX AX) free) (hS : va_S A0 H0 H locs) (hA : ∀ q, q < H.size → A1 q → A0 q) (hf : ∀ q, free q → A0 q) (hAX : ∀ q, q < H.size → AX q → A0 q)
    (kx : ∀ (E : String) (ce : Cell) (q9 : Addr) (u : SX) (t : State) (H1 : Heap) (locs1 : List Loc), t.heap = H1 → s.vm.Alike t.vm → px u → BX E u t → H.size ≤ H1.size → (∀ q : Nat, q < H.size → ¬ AX q → H1[q]? = H[q]?) → va_S A0 H0 H1 locs1 → H1[q9]? = some ce → ce.vm = .none → s.vm.findClass E = some ce.cls → vx_W p l e R s m args below meth c H1 locs1 (cells + mc) (slots + ms) Q (F0 m pc ls rest) q9)
    (kk : ∀ (r : Int32) (u : S) (t : State) (H1 : Heap) (locs1 : List Loc), t.heap = H1 → s.vm.Alike t.vm → post r u → B u t → H.size ≤ H1.size → (∀ q : Nat, q < H.size → ¬ A1 q → H1[q]? = H[q]?) → va_S A0 H0 H1 locs1 → W p l e R s m args below meth c H1 locs1 (cells + mc) (slots + ms) Q (F0 m (pc + 3) ls (.int r :: rest))) : W p l e R s m args below meth c H locs cells slots Q (F0 m pc ls st0) := by
  intro T hT X
  rcases hr T hT X with ⟨v, st₀, t, T', L, h0, X', hL, e1, e2, ⟨⟨r, u, hv, hp, hb⟩, hF⟩, st⟩ | ⟨q, st₀, t, T', L, E, ce, h0, X', hL, e1, e2, ⟨u, hp, hb, hF⟩, hce, hcv, hcl, st⟩
  · cases hv
    obtain ⟨k1, k2, k3⟩ := vx_keep h0 e1 hS hA hf hL hF
    obtain ⟨t2, a1, b1⟩ := kk r u t T'.heap (locs ++ L) e1.symm (by rw [← e2]; exact X'.warmed.alike) hp hb k1 k2 k3 T' rfl X'
    exact ⟨t2, st t2 a1, b1⟩
  · obtain ⟨k1, k2, k3⟩ := vx_keep h0 e1 hS hAX hf hL hF
    obtain ⟨t2, a1, b1⟩ := kx E ce q u t T'.heap (locs ++ L) e1.symm (by rw [← e2]; exact X'.warmed.alike) hp hb k1 k2 k3 (by rw [e1]; exact hce) hcv hcl T' rfl X'
    exact ⟨t2, st.trans a1, b1⟩
theorem vx_calll {S SX : Type} {post : Int64 → S → Prop} {px : SX → Prop} {B : S → State → Prop} {BX : String → SX → State → Prop} {AX : Nat → Prop} (hr : vx_Run p l e R s m args below meth c H locs cells slots mc ms (F0 m pc ls st0) rest (va_Ql post B A1 a) (vx_X px BX AX) free) (hS : va_S A0 H0 H locs) (hA : ∀ q, q < H.size → A1 q → A0 q) (hf : ∀ q, free q → A0 q) (hAX : ∀ q, q < H.size → AX q → A0 q)
    (kx : ∀ (E : String) (ce : Cell) (q9 : Addr) (u : SX) (t : State) (H1 : Heap) (locs1 : List Loc), t.heap = H1 → s.vm.Alike t.vm → px u → BX E u t → H.size ≤ H1.size → (∀ q : Nat, q < H.size → ¬ AX q → H1[q]? = H[q]?) → va_S A0 H0 H1 locs1 → H1[q9]? = some ce → ce.vm = .none → s.vm.findClass E = some ce.cls → vx_W p l e R s m args below meth c H1 locs1 (cells + mc) (slots + ms) Q (F0 m pc ls rest) q9)
    (kk : ∀ (r : Int64) (u : S) (t : State) (H1 : Heap) (locs1 : List Loc), t.heap = H1 → s.vm.Alike t.vm → post r u → B u t → H.size ≤ H1.size → (∀ q : Nat, q < H.size → ¬ A1 q → H1[q]? = H[q]?) → va_S A0 H0 H1 locs1 → W p l e R s m args below meth c H1 locs1 (cells + mc) (slots + ms) Q (F0 m (pc + 3) ls (.long r :: rest))) : W p l e R s m args below meth c H locs cells slots Q (F0 m pc ls st0) := by
  intro T hT X
  rcases hr T hT X with ⟨v, st₀, t, T', L, h0, X', hL, e1, e2, ⟨⟨r, u, hv, hp, hb⟩, hF⟩, st⟩ | ⟨q, st₀, t, T', L, E, ce, h0, X', hL, e1, e2, ⟨u, hp, hb, hF⟩, hce, hcv, hcl, st⟩
  · cases hv
    obtain ⟨k1, k2, k3⟩ := vx_keep h0 e1 hS hA hf hL hF
    obtain ⟨t2, a1, b1⟩ := kk r u t T'.heap (locs ++ L) e1.symm (by rw [← e2]; exact X'.warmed.alike) hp hb k1 k2 k3 T' rfl X'
    exact ⟨t2, st t2 a1, b1⟩
  · obtain ⟨k1, k2, k3⟩ := vx_keep h0 e1 hS hAX hf hL hF
    obtain ⟨t2, a1, b1⟩ := kx E ce q u t T'.heap (locs ++ L) e1.symm (by rw [← e2]; exact X'.warmed.alike) hp hb k1 k2 k3 (by rw [e1]; exact hce) hcv hcl T' rfl X'
    exact ⟨t2, st.trans a1, b1⟩
theorem vx_callf {S SX : Type} {post : UInt32 → S → Prop} {px : SX → Prop} {B : S → State → Prop} {BX : String → SX → State → Prop} {AX : Nat → Prop} (hr : vx_Run p l e R s m args below meth c H locs cells slots mc ms (F0 m pc ls st0) rest (va_Qf post B A1 a) (vx_X px BX AX) free) (hS : va_S A0 H0 H locs) (hA : ∀ q, q < H.size → A1 q → A0 q) (hf : ∀ q, free q → A0 q) (hAX : ∀ q, q < H.size → AX q → A0 q)
    (kx : ∀ (E : String) (ce : Cell) (q9 : Addr) (u : SX) (t : State) (H1 : Heap) (locs1 : List Loc), t.heap = H1 → s.vm.Alike t.vm → px u → BX E u t → H.size ≤ H1.size → (∀ q : Nat, q < H.size → ¬ AX q → H1[q]? = H[q]?) → va_S A0 H0 H1 locs1 → H1[q9]? = some ce → ce.vm = .none → s.vm.findClass E = some ce.cls → vx_W p l e R s m args below meth c H1 locs1 (cells + mc) (slots + ms) Q (F0 m pc ls rest) q9)
    (kk : ∀ (r : UInt32) (u : S) (t : State) (H1 : Heap) (locs1 : List Loc), t.heap = H1 → s.vm.Alike t.vm → post r u → B u t → H.size ≤ H1.size → (∀ q : Nat, q < H.size → ¬ A1 q → H1[q]? = H[q]?) → va_S A0 H0 H1 locs1 → W p l e R s m args below meth c H1 locs1 (cells + mc) (slots + ms) Q (F0 m (pc + 3) ls (.float r :: rest))) : W p l e R s m args below meth c H locs cells slots Q (F0 m pc ls st0) := by
  intro T hT X
  rcases hr T hT X with ⟨v, st₀, t, T', L, h0, X', hL, e1, e2, ⟨⟨r, u, hv, hp, hb⟩, hF⟩, st⟩ | ⟨q, st₀, t, T', L, E, ce, h0, X', hL, e1, e2, ⟨u, hp, hb, hF⟩, hce, hcv, hcl, st⟩
  · cases hv
    obtain ⟨k1, k2, k3⟩ := vx_keep h0 e1 hS hA hf hL hF
    obtain ⟨t2, a1, b1⟩ := kk r u t T'.heap (locs ++ L) e1.symm (by rw [← e2]; exact X'.warmed.alike) hp hb k1 k2 k3 T' rfl X'
    exact ⟨t2, st t2 a1, b1⟩
  · obtain ⟨k1, k2, k3⟩ := vx_keep h0 e1 hS hAX hf hL hF
    obtain ⟨t2, a1, b1⟩ := kx E ce q u t T'.heap (locs ++ L) e1.symm (by rw [← e2]; exact X'.warmed.alike) hp hb k1 k2 k3 (by rw [e1]; exact hce) hcv hcl T' rfl X'
    exact ⟨t2, st.trans a1, b1⟩
theorem vx_calld {S SX : Type} {post : UInt64 → S → Prop} {px : SX → Prop} {B : S → State → Prop} {BX : String → SX → State → Prop} {AX : Nat → Prop} (hr : vx_Run p l e R s m args below meth c H locs cells slots mc ms (F0 m pc ls st0) rest (va_Qd post B A1 a) (vx_X px BX AX) free) (hS : va_S A0 H0 H locs) (hA : ∀ q, q < H.size → A1 q → A0 q) (hf : ∀ q, free q → A0 q) (hAX : ∀ q, q < H.size → AX q → A0 q)
    (kx : ∀ (E : String) (ce : Cell) (q9 : Addr) (u : SX) (t : State) (H1 : Heap) (locs1 : List Loc), t.heap = H1 → s.vm.Alike t.vm → px u → BX E u t → H.size ≤ H1.size → (∀ q : Nat, q < H.size → ¬ AX q → H1[q]? = H[q]?) → va_S A0 H0 H1 locs1 → H1[q9]? = some ce → ce.vm = .none → s.vm.findClass E = some ce.cls → vx_W p l e R s m args below meth c H1 locs1 (cells + mc) (slots + ms) Q (F0 m pc ls rest) q9)
    (kk : ∀ (r : UInt64) (u : S) (t : State) (H1 : Heap) (locs1 : List Loc), t.heap = H1 → s.vm.Alike t.vm → post r u → B u t → H.size ≤ H1.size → (∀ q : Nat, q < H.size → ¬ A1 q → H1[q]? = H[q]?) → va_S A0 H0 H1 locs1 → W p l e R s m args below meth c H1 locs1 (cells + mc) (slots + ms) Q (F0 m (pc + 3) ls (.double r :: rest))) : W p l e R s m args below meth c H locs cells slots Q (F0 m pc ls st0) := by
  intro T hT X
  rcases hr T hT X with ⟨v, st₀, t, T', L, h0, X', hL, e1, e2, ⟨⟨r, u, hv, hp, hb⟩, hF⟩, st⟩ | ⟨q, st₀, t, T', L, E, ce, h0, X', hL, e1, e2, ⟨u, hp, hb, hF⟩, hce, hcv, hcl, st⟩
  · cases hv
    obtain ⟨k1, k2, k3⟩ := vx_keep h0 e1 hS hA hf hL hF
    obtain ⟨t2, a1, b1⟩ := kk r u t T'.heap (locs ++ L) e1.symm (by rw [← e2]; exact X'.warmed.alike) hp hb k1 k2 k3 T' rfl X'
    exact ⟨t2, st t2 a1, b1⟩
  · obtain ⟨k1, k2, k3⟩ := vx_keep h0 e1 hS hAX hf hL hF
    obtain ⟨t2, a1, b1⟩ := kx E ce q u t T'.heap (locs ++ L) e1.symm (by rw [← e2]; exact X'.warmed.alike) hp hb k1 k2 k3 (by rw [e1]; exact hce) hcv hcl T' rfl X'
    exact ⟨t2, st.trans a1, b1⟩
theorem vx_callv {S SX : Type} {post : S → Prop} {px : SX → Prop} {B : S → State → Prop} {BX : String → SX → State → Prop} {AX : Nat → Prop} (hr : vx_Run p l e R s m args below meth c H locs cells slots mc ms (F0 m pc ls st0) rest (va_Qv post B A1 a) (vx_X px BX AX) free) (hS : va_S A0 H0 H locs) (hA : ∀ q, q < H.size → A1 q → A0 q) (hf : ∀ q, free q → A0 q) (hAX : ∀ q, q < H.size → AX q → A0 q)
    (kx : ∀ (E : String) (ce : Cell) (q9 : Addr) (u : SX) (t : State) (H1 : Heap) (locs1 : List Loc), t.heap = H1 → s.vm.Alike t.vm → px u → BX E u t → H.size ≤ H1.size → (∀ q : Nat, q < H.size → ¬ AX q → H1[q]? = H[q]?) → va_S A0 H0 H1 locs1 → H1[q9]? = some ce → ce.vm = .none → s.vm.findClass E = some ce.cls → vx_W p l e R s m args below meth c H1 locs1 (cells + mc) (slots + ms) Q (F0 m pc ls rest) q9)
    (kk : ∀ (u : S) (t : State) (H1 : Heap) (locs1 : List Loc), t.heap = H1 → s.vm.Alike t.vm → post u → B u t → H.size ≤ H1.size → (∀ q : Nat, q < H.size → ¬ A1 q → H1[q]? = H[q]?) → va_S A0 H0 H1 locs1 → W p l e R s m args below meth c H1 locs1 (cells + mc) (slots + ms) Q (F0 m (pc + 3) ls (rest))) : W p l e R s m args below meth c H locs cells slots Q (F0 m pc ls st0) := by
  intro T hT X
  rcases hr T hT X with ⟨v, st₀, t, T', L, h0, X', hL, e1, e2, ⟨⟨u, hv, hp, hb⟩, hF⟩, st⟩ | ⟨q, st₀, t, T', L, E, ce, h0, X', hL, e1, e2, ⟨u, hp, hb, hF⟩, hce, hcv, hcl, st⟩
  · cases hv
    obtain ⟨k1, k2, k3⟩ := vx_keep h0 e1 hS hA hf hL hF
    obtain ⟨t2, a1, b1⟩ := kk u t T'.heap (locs ++ L) e1.symm (by rw [← e2]; exact X'.warmed.alike) hp hb k1 k2 k3 T' rfl X'
    exact ⟨t2, st t2 a1, b1⟩
  · obtain ⟨k1, k2, k3⟩ := vx_keep h0 e1 hS hAX hf hL hF
    obtain ⟨t2, a1, b1⟩ := kx E ce q u t T'.heap (locs ++ L) e1.symm (by rw [← e2]; exact X'.warmed.alike) hp hb k1 k2 k3 (by rw [e1]; exact hce) hcv hcl T' rfl X'
    exact ⟨t2, st.trans a1, b1⟩
/-- caught by the row x of this method's table; the rows ahead don't take it -/
theorem vx_catch {own name : String} {E : String} {ce : Cell} {q : Addr} (hown : s.vm.findClass own = some m.cls) (pre : List ExceptionTableEntry) (x : ExceptionTableEntry) (suf : List ExceptionTableEntry) (hsplit : c.exceptionTable.toList = pre ++ x :: suf)
    (hpass : ∀ z ∈ pre, covers z pc = false ∨ (z.catchType ≠ 0 ∧ ∃ nm : String, (Cond.classLink own z.catchType nm).before args s = true ∧ va_Nc E nm s)) (hx : covers x pc = true) (h0 : x.catchType ≠ 0)
    (hlink : (Cond.classLink own x.catchType name).before args s = true) (hcast : (Cond.castable E name).before args s = true) (hcell : H[q]? = some ce) (hv : ce.vm = .none) (hcl : s.vm.findClass E = some ce.cls)
    (kk : W p l e R s m args below meth c H locs cells slots Q (F0 m x.handlerPc ls [.ref q])) : vx_W p l e R s m args below meth c H locs cells slots Q (F0 m pc ls rest) q := by
  intro T hT X
  have hpl : e.platform.magicAccessors = ({} : Platform).magicAccessors := by rw [X.admits.platform]
  obtain ⟨c3, c4, hc3, hc4, hasg⟩ := Cond.castable_spec hcast
  cases Option.some.inj (hc3.symm.trans hcl)
  obtain ⟨c5, hc5, hcl5⟩ := Cond.classLink_spec hown hlink e.platform hpl
  cases Option.some.inj (hc4.symm.trans hc5)
  obtain ⟨vm', X', st⟩ := X.thenCaughtThrough q (g := F0 m pc ls rest) rfl (Steps.refl _) (by rw [hT]; exact hcell) (by rw [hv]; rfl) (by obtain ⟨k9, h9, -⟩ := Vm.findClass_spec hcl; exact ⟨k9, h9⟩) pre x suf hsplit
    (fun z hz => by
      rcases hpass z hz with h | ⟨hz0, nm, hl1, hn1⟩
      · exact Or.inl h
      · obtain ⟨c6, hc6, hcl6⟩ := Cond.classLink_spec hown hl1 e.platform hpl
        obtain ⟨a8, b8, h1, h2, h3⟩ := hn1
        cases Option.some.inj (h1.symm.trans hcl)
        cases Option.some.inj (h2.symm.trans hc6)
        exact Or.inr ⟨hz0, _, hcl6, h3⟩) hx (Or.inr ⟨h0, c4, hcl5, hasg⟩)
  obtain ⟨t, a1, b1⟩ := kk (T.setVm vm') hT X'
  exact ⟨t, st.trans a1, b1⟩
end Rows
section Ends
variable {p : Program} {l : Launch} {e : Env} {R : Room} {s : State} {m : MethodId} {args : Array Value} {below : List Frame} {meth : Method} {c : Code} {H : Heap} {locs : List Loc} {cells slots : Nat} {Q : State → Prop}
variable {mc ms : Nat} {free : Addr → Prop} {A0 A1 : Nat → Prop} {H0 : Heap} {a : Array Value} {ls : Array Slot} {st0 rest : List Value}
variable {Qc : Array Value → State → Outcome → State → Prop} {XC : String → State → State → Prop}
/-- what a body that may throw owes at its end -/
def vx_MQ (below : List Frame) (Qc : Array Value → State → Outcome → State → Prop) (XC : String → State → State → Prop) (a : Array Value) (s : State) (mc ms : Nat) (free : Addr → Prop) : State → Prop := fun t =>
  ∃ o, t.status = .running ∧ Ended t below o ∧ vx_Q Qc XC mc ms free a s o t
theorem vx_ret {g : JFrame} {mc ms : Nat} (k : W p l e R s m args below meth c H locs cells slots (MQ below Qc args s mc ms free) g) : W p l e R s m args below meth c H locs cells slots (vx_MQ below Qc XC args s mc ms free) g := by
  intro T hT X
  obtain ⟨t, a1, o, b1, b2, b3, b4⟩ := k T hT X
  exact ⟨t, a1, o, b1, b2, Or.inl ⟨b3, b4⟩⟩
/-- not caught here: it goes on to the caller -/
theorem vx_widen {g : JFrame} {q : Addr} {k n : Nat} (h1 : cells ≤ k) (h2 : slots ≤ n) (kk : vx_W p l e R s m args below meth c H locs k n Q g q) : vx_W p l e R s m args below meth c H locs cells slots Q g q := fun T hT X => kk T hT (stand_widen X h1 h2)
theorem vx_out {pc : Nat} {E : String} {ce : Cell} {q : Addr} {mc ms : Nat} (hout : ∀ x ∈ c.exceptionTable.toList, covers x pc = false) (hlocks : meth.locks = false) (hcell : H[q]? = some ce) (hv : ce.vm = .none) (hcl : s.vm.findClass E = some ce.cls)
    (hx : ∀ t : State, t.heap = H → s.vm.Alike t.vm → XC E s t) (hf : ∀ z ∈ locs, free z.base) (hc : cells ≤ mc) (hs : slots ≤ ms) :
    vx_W p l e R s m args below meth c H locs cells slots (vx_MQ below Qc XC args s mc ms free) (F0 m pc ls rest) q := by
  intro T hT X
  obtain ⟨st1, hrun, hend, hW, hsm⟩ := X.leaveThrown q (g := F0 m pc ls rest) rfl rfl rfl hout hlocks
  have hcell9 : (T.setFrames (.throwing q :: below)).heap[q]? = some ce := by
    show T.heap[q]? = some ce
    rw [hT]; exact hcell
  exact ⟨_, st1, .threw q, hrun, hend, Or.inr ⟨q, rfl, E, ce, locs, hx _ hT hW.alike, hcell9, hv, hcl, hW, hsm.mono hc hs, hf⟩⟩
theorem vx_frame {U : State} {k n : Nat} (h : s.sameButNew ({ U with vm := s.vm } : State) locs k n) : s.heap.size ≤ U.heap.size ∧ ∀ q : Nat, q < s.heap.size → (∀ z ∈ locs, z.base ≠ q) → U.heap[q]? = s.heap[q]? := by
  obtain ⟨-, h2, -, -, -, h6⟩ := h
  refine ⟨h2, fun q hq hz => ?_⟩
  obtain ⟨c9, e1, e2, e3, e4⟩ := h6 q _ (Array.getElem?_eq_getElem hq)
  have hs : c9.slots = (s.heap[q]).slots := Array.ext_getElem? fun i => e4 i fun hm => hz _ hm rfl
  have h9 : c9 = s.heap[q] := by
    rw [hs] at e2
    exact e2
  have e5 : U.heap[q]? = some c9 := e1
  rw [e5, h9, Array.getElem?_eq_getElem hq]
/-- the words of a throw but the four that speak of the heap -/
def vx_no (w : Cond) : Bool := decide (w ≠ .isRef (.static Bundle.tN "UNASSIGNED_STACK" Bundle.steD)) && decide (w ≠ .isRef (.static Bundle.tN "SUPPRESSED_SENTINEL" Bundle.listD)) && decide (w ≠ .laysStatic Bundle.tN "UNASSIGNED_STACK" Bundle.steD) && decide (w ≠ .laysStatic Bundle.tN "SUPPRESSED_SENTINEL" Bundle.listD)
def vx_at0 (own : String) (ic : Nat) (X : String) (names : List String) : List Cond := (Bundle.ownAtoms0 own ic X names).filter vx_no
def vx_atS (own : String) (ic : Nat) (X : String) (names : List String) : List Cond := (Bundle.ownAtoms own ic X names).filter vx_no
/-- a word that the tables alone decide, or a good one -/
def vx_ot (w : Cond) : Bool := w.onTables || goodWord w
theorem vx_ot_at {args a' : Array Value} {s U : State} {w : Cond} (hW : s.WarmedH U.vm) (hvm : s.vm = U.vm) (hg : vx_ot w = true) (h : w.before args s = true) : w.before a' U = true := by
  simp only [vx_ot, Bool.or_eq_true] at hg
  rcases hg with hg | hg
  · exact va_tabs hg hvm h
  · exact word_at hW (good_of_word hg) h
/-- a list's words: the good ones out of the method's own list, the others by premises of their own -/
theorem vx_hat {args : Array Value} {s : State} {L B : List Cond} (h1 : ∀ w ∈ L.filter goodWord, w.before args s = true) (h2 : ∀ w ∈ L.filter (fun w => !goodWord w), w ∈ B) (h3 : ∀ w ∈ B, w.before args s = true) : ∀ w ∈ L, w.before args s = true := by
  intro w hw
  by_cases g : goodWord w = true
  · exact h1 w (List.mem_filter.mpr ⟨hw, g⟩)
  · refine h3 w (h2 w (List.mem_filter.mpr ⟨hw, ?_⟩))
    show (!goodWord w) = true
    cases hgw : goodWord w
    · rfl
    · exact absurd hgw g
theorem vx_c {args : Array Value} {s : State} {w : Cond} {B : List Cond} (h : w.before args s = true) (t : ∀ w ∈ B, w.before args s = true) : ∀ w' ∈ w :: B, w'.before args s = true := fun w' h' => (List.mem_cons.mp h').elim (fun e => by rw [e]; exact h) (t w')
theorem vx_n {args : Array Value} {s : State} : ∀ w ∈ ([] : List Cond), w.before args s = true := fun _ h => nomatch h
theorem vx_own {args : Array Value} {s : State} {L : List Cond} (h1 : ∀ w ∈ L.filter vx_no, w.before args s = true)
    (hU : (Cond.isRef (.static Bundle.tN "UNASSIGNED_STACK" Bundle.steD)).before args s = true) (hN : (Cond.isRef (.static Bundle.tN "SUPPRESSED_SENTINEL" Bundle.listD)).before args s = true)
    (lU : (Cond.laysStatic Bundle.tN "UNASSIGNED_STACK" Bundle.steD).before args s = true) (lN : (Cond.laysStatic Bundle.tN "SUPPRESSED_SENTINEL" Bundle.listD).before args s = true) : ∀ w ∈ L, w.before args s = true := by
  intro w hw
  by_cases e1 : w = .isRef (.static Bundle.tN "UNASSIGNED_STACK" Bundle.steD)
  · rw [e1]; exact hU
  · by_cases e2 : w = .isRef (.static Bundle.tN "SUPPRESSED_SENTINEL" Bundle.listD)
    · rw [e2]; exact hN
    · by_cases e3 : w = .laysStatic Bundle.tN "UNASSIGNED_STACK" Bundle.steD
      · rw [e3]; exact lU
      · by_cases e4 : w = .laysStatic Bundle.tN "SUPPRESSED_SENTINEL" Bundle.listD
        · rw [e4]; exact lN
        · exact h1 w (List.mem_filter.mpr ⟨hw, by unfold vx_no; rw [decide_eq_true e1, decide_eq_true e2, decide_eq_true e3, decide_eq_true e4]; rfl⟩)
/-- where a static field lies, its class's statics cell in H -/
def vx_L (C n d : String) (A : Nat → Prop) (U : State) (H : Heap) : Prop := ∃ (c : ClassId) (k : Class) (i : Nat) (f : Field) (a : Nat) (cell : Cell), U.vm.findClass C = some c ∧ U.fieldFound? C n d = some (c, k, i, f) ∧ f.isStatic = true ∧ k.statics = some a ∧ H[a]? = some cell ∧ cell.vm.isStatics = true ∧ cell.cls = c ∧ f.slot < cell.slots.size ∧ k.staticTypes[f.slot]? = some f.type ∧ ¬ A a
theorem vx_L.moved {C n d : String} {A : Nat → Prop} {u U : State} {H : Heap} (hvm : u.vm.Alike U.vm) (h : vx_L C n d A u H) : vx_L C n d A U H := by
  obtain ⟨c, k, i, f, a, cell, h1, h2, h3, h4, h5, h6, h7, h8, h9, h10⟩ := h
  obtain ⟨k', hi', he⟩ := State.fieldFound?_setVm hvm h2
  exact ⟨c, k', i, f, a, cell, by rw [hvm.findClass]; exact h1, hi', h3, by rw [he]; exact h4, h5, h6, h7, h8, by rw [he]; exact h9, h10⟩
theorem vx_L.kept {C n d : String} {A : Nat → Prop} {U : State} {H H1 : Heap} (h : vx_L C n d A U H) (hq : ∀ a : Nat, a < H.size → ¬ A a → H1[a]? = H[a]?) : vx_L C n d A U H1 := by
  obtain ⟨c, k, i, f, a, cell, h1, h2, h3, h4, h5, h6, h7, h8, h9, h10⟩ := h
  exact ⟨c, k, i, f, a, cell, h1, h2, h3, h4, by rw [hq a (Array.getElem?_eq_some_iff.mp h5).1 h10]; exact h5, h6, h7, h8, h9, h10⟩
theorem vx_L.narrow {C n d : String} {A B : Nat → Prop} {U : State} {H : Heap} (h : vx_L C n d A U H) (hAB : ∀ q, B q → A q) : vx_L C n d B U H := by
  obtain ⟨c, k, i, f, a, cell, h1, h2, h3, h4, h5, h6, h7, h8, h9, h10⟩ := h
  exact ⟨c, k, i, f, a, cell, h1, h2, h3, h4, h5, h6, h7, h8, h9, fun z => h10 (hAB _ z)⟩
theorem vx_L.word {C n d : String} {A : Nat → Prop} {s : State} {args : Array Value} (h : vx_L C n d A s s.heap) : (Cond.laysStatic C n d).before args s = true := by
  obtain ⟨c, k, i, f, a, cell, h1, h2, h3, h4, h5, h6, h7, h8, h9, -⟩ := h
  show (Cond.laysStatic C n d).holds args s none s [] = true
  exact Cond.laysStatic_of h1 h2 h3 h4 h5 h6 h7 h8 h9
/-- .. and what it holds: null or some reference -/
def vx_Zq (C n d : String) (A : Nat → Prop) (U : State) (H : Heap) : Prop := va_Zq C n d A U H ∧ vx_L C n d A U H
theorem vx_Zq.moved {C n d : String} {A : Nat → Prop} {u U : State} {H : Heap} (hvm : u.vm.Alike U.vm) (h : vx_Zq C n d A u H) : vx_Zq C n d A U H := ⟨va_Zq.moved hvm h.1, vx_L.moved hvm h.2⟩
theorem vx_Zq.kept {C n d : String} {A : Nat → Prop} {U : State} {H H1 : Heap} (h : vx_Zq C n d A U H) (hq : ∀ a : Nat, a < H.size → ¬ A a → H1[a]? = H[a]?) : vx_Zq C n d A U H1 := ⟨va_Zq.kept h.1 hq, vx_L.kept h.2 hq⟩
theorem vx_Zq.narrow {C n d : String} {A B : Nat → Prop} {U : State} {H : Heap} (h : vx_Zq C n d A U H) (hAB : ∀ q, B q → A q) : vx_Zq C n d B U H := ⟨va_Zq.narrow h.1 hAB, vx_L.narrow h.2 hAB⟩
theorem vx_Zqof {args : Array Value} {s : State} {C n d : String} {A : Nat → Prop} (hl : (Cond.laysStatic C n d).before args s = true) (hini : (Cond.initialized C).before args s = true) (h : (Cond.isRef (.static C n d)).before args s = true) (hA : ∀ a : Nat, a < s.heap.size → ¬ A a) : vx_Zq C n d A s s.heap := by
  refine ⟨va_Zqof hl hini h hA, ?_⟩
  obtain ⟨c, k, i, f, a, cell, h1, h2, h3, h4, h5, h6, h7, h8, h9⟩ := Cond.laysStatic_spec hl
  exact ⟨c, k, i, f, a, cell, h1, h2, h3, h4, h5, h6, h7, h8, h9, hA a (Array.getElem?_eq_some_iff.mp h5).1⟩
theorem vx_isRef {C n d : String} {v : Value} {A : Nat → Prop} {s : State} {args : Array Value} (h : va_Z C n d v A s s.heap) (hv : v.isRef = true) : (Cond.isRef (.static C n d)).before args s = true := by
  obtain ⟨cf, kf, fi, f, a, cell, h1, h2, h3, h4, h5, h6, h7, -⟩ := h
  have he : (Term.static C n d).eval args s none [] s = some v := by
    simp [Term.eval, State.fieldNamed?, h1, h2, h4, h5, h6, h7]
  simp only [Cond.before, Cond.holds, Cond.value, he]
  cases v <;> simp_all [Value.isRef]
theorem vx_isRefq {C n d : String} {A : Nat → Prop} {s : State} {args : Array Value} (h : va_Zq C n d A s s.heap) : (Cond.isRef (.static C n d)).before args s = true := by
  rcases h with h | ⟨t, h⟩
  · exact vx_isRef h rfl
  · exact vx_isRef h rfl
/-- the same frame, seen from here: as if the method were called anew in this heap -/
theorem vx_rebase {T : State} (X : Stand p l e R s m args below meth c T locs cells slots) {R' : Room} (hf : R'.frames ≤ R.frames) (hl : R'.locals ≤ R.locals) (hc : cells + R'.cells ≤ R.cells) (hs : slots + R'.slots ≤ R.slots) :
    Stand p l e R' ((T.setVm s.vm).setFrames (.invoking m args :: below)) m args below meth c T [] 0 0 := by
  have htop : (T.setVm s.vm).topJava?.isSome := X.here.top
  have hF : ((T.setVm s.vm).setFrames (.invoking m args :: below)).frames = .invoking m args :: below := State.frames_setFrames _ (State.cur_lt_of_top htop)
  obtain ⟨g₀, hg0⟩ := Option.isSome_iff_exists.mp htop
  obtain ⟨r, hr⟩ := State.topJava?_eq_some.mp hg0
  have hl9 : e.platform.stackLimits (T.setVm s.vm).me = e.platform.stackLimits s.me := X.limits
  have hb9 : (T.setVm s.vm).me.stackBytes = s.me.stackBytes := X.bytes
  refine ⟨X.admits, X.cas, X.clock, hF, ?_, X.hears, X.method, X.code, X.here, X.tail, X.warmed, ?_, ?_, ?_⟩
  · have h := X.room
    have hU : ((T.setVm s.vm).setFrames (.invoking m args :: below)).localsInUse = s.localsInUse := by
      rw [State.localsInUse_invoking hF (meth := meth) (c := c) X.method X.code, State.localsInUse_invoking X.frames X.method X.code]
    simp only [State.hasRoom, Bool.and_eq_true, decide_eq_true_eq] at h ⊢
    obtain ⟨⟨⟨⟨h1, h2, h3, h4, h5, h6⟩, h7⟩, h8⟩, h9⟩ := h
    rw [X.frames, List.length_cons] at h2 h3
    have q1 := X.heapSize
    have q2 := X.used
    simp only [hF, hU, List.length_cons, State.stackLimits_setFrames, State.stackBytes_setFrames, hl9, hb9]
    refine ⟨⟨⟨⟨by omega, by omega, by omega, by omega, by omega, h6⟩, ?_⟩, ?_⟩, X.book⟩
    · show T.heap.size + R'.cells ≤ e.platform.maxCells
      omega
    · show T.slotsUsed + R'.slots ≤ e.platform.maxSlots
      omega
  · rw [State.stackLimits_setFrames]; rfl
  · rw [State.stackBytes_setFrames]; rfl
  · refine ⟨?_, Nat.le_refl _, Nat.le_refl _, ?_, ?_, fun a c9 h9 => ⟨c9, h9, rfl, rfl, fun _ _ => rfl⟩⟩
    · obtain ⟨t, ht, -⟩ := State.frames_cons hr
      show T.setVm s.vm = { ((T.setVm s.vm).setFrames (.invoking m args :: below)).setFrames (T.setVm s.vm).frames with heap := T.heap, slotsUsed := T.slotsUsed }
      rw [State.setFrames_setFrames, State.setFrames_self ht]
      rfl
    · show T.slotsUsed = T.slotsUsed + ((T.heap.toList.drop T.heap.size).map (·.slots.size)).sum
      rw [List.drop_eq_nil_of_le (Nat.le_of_eq Array.length_toList)]
      rfl
    · show ((T.heap.toList.drop T.heap.size).map (·.slots.size)).sum ≤ 0
      rw [List.drop_eq_nil_of_le (Nat.le_of_eq Array.length_toList)]
      exact Nat.le_refl _
/-- 'throw new E()': new; dup; invokespecial; athrow -/
theorem vx_throw0 {cc : ByteArray} {pc : Nat} (hexec : p.tables.exec = Jvm.exec) (hb : c.code = cc) (hl : l.stackTraces = false) {own cls : String} {names : List String} {ik ic mc ms : Nat} {A : Nat → Prop}
    (hown : s.vm.findClass own = some m.cls) (hcls : Bundle.fit cls = true) (hnames : ∀ n ∈ names, Bundle.fit n = true)
    (hk : (Cond.classLink own ik cls).before args s = true) (hini : (Cond.initialized cls).before args s = true) (hat : ∀ w ∈ vx_at0 own ic cls names, w.before args s = true)
    (hgood : ∀ w ∈ Cond.classLink own ik cls :: Cond.initialized cls :: vx_at0 own ic cls names, vx_ot w = true)
    (hU : vx_Zq Bundle.tN "UNASSIGNED_STACK" Bundle.steD A s s.heap) (hN : vx_Zq Bundle.tN "SUPPRESSED_SENTINEL" Bundle.listD A s s.heap) (hS : va_S A s.heap H locs) (hsize : ls.size = c.maxLocals)
    (d0 : decode cc pc = .ok (.new ik, 3)) (d3 : decode cc (pc + 3) = .ok (.dup, 1)) (d4 : decode cc (pc + 4) = .ok (.invokespecial ic, 3)) (d7 : decode cc (pc + 7) = .ok (.athrow, 1))
    (hout : ∀ x ∈ c.exceptionTable.toList, covers x (pc + 7) = false)
    (hRframes : names.length + 3 < R.frames) (hRlocals : (rest.map fun v => v.category).sum + (13 * (names.length + 1) + 42) ≤ R.locals) (hRcells : cells + 1 ≤ R.cells) (hRslots : slots + 6 ≤ R.slots) (hlocks : meth.locks = false)
    (hx : ∀ t : State, s.vm.Alike t.vm → H.size ≤ t.heap.size → (∀ q : Nat, q < H.size → t.heap[q]? = H[q]?) → XC cls s t)
    (hf : ∀ z ∈ locs, free z.base) (hc : cells + 1 ≤ mc) (hs : slots + 6 ≤ ms) :
    W p l e R s m args below meth c H locs cells slots (vx_MQ below Qc XC args s mc ms free) (F0 m pc ls rest) := by
  intro T hT X
  have htr : e.platform.stackTraces = false := (show e.platform.stackTraces = l.stackTraces by rw [X.admits.platform]).trans hl
  have Y := vx_rebase X (R' := { frames := R.frames, locals := R.locals, cells := 1, slots := 6 }) (Nat.le_refl _) (Nat.le_refl _) hRcells hRslots
  obtain ⟨s', hA⟩ : ∃ z, z = (T.setVm s.vm).setFrames (.invoking m args :: below) := ⟨_, rfl⟩
  rw [← hA] at Y
  have hvm : s'.vm = s.vm := by rw [hA]; rfl
  have hhp : s'.heap = H := by rw [hA]; exact hT
  have hW0 : s.WarmedH s'.vm := by rw [hvm]; exact State.WarmedH.refl s
  have hat' : ∀ w ∈ vx_at0 own ic cls names, w.before args s' = true := fun w hw => vx_ot_at hW0 hvm.symm (hgood w (List.mem_cons_of_mem _ (List.mem_cons_of_mem _ hw))) (hat w hw)
  have hk' : (Cond.classLink own ik cls).before args s' = true := vx_ot_at hW0 hvm.symm (hgood _ List.mem_cons_self) hk
  have hini' : (Cond.initialized cls).before args s' = true := vx_ot_at hW0 hvm.symm (hgood _ (List.mem_cons_of_mem _ List.mem_cons_self)) hini
  have hU' : vx_Zq Bundle.tN "UNASSIGNED_STACK" Bundle.steD A s' s'.heap := by rw [hhp]; exact vx_Zq.moved hW0.alike (hU.kept hS.2.1)
  have hN' : vx_Zq Bundle.tN "SUPPRESSED_SENTINEL" Bundle.listD A s' s'.heap := by rw [hhp]; exact vx_Zq.moved hW0.alike (hN.kept hS.2.1)
  have h : ∀ w ∈ Bundle.ownAtoms0 own ic cls names, w.before args s' = true := vx_own hat' (vx_isRefq hU'.1) (vx_isRefq hN'.1) hU'.2.word hN'.2.word
  have hown' : s'.vm.findClass own = some m.cls := by rw [hvm]; exact hown
  have hins : (Cond.instantiable cls 6).before args s' = true := h _ (by simp [Bundle.ownAtoms0])
  obtain ⟨vm₁, cX, kX, hfX, hkX, -, -, X₁, st1⟩ := Y.newCold hexec (own := own) (C := cls) (index := ik) (n := 6) hown' hk' hins hini'
    (g := F0 m pc ls rest) rfl (by rw [hb]; exact d0) (Nat.le_refl _) (Nat.le_refl _)
  generalize hT1 : (T.setVm vm₁).pushCell { cls := cX, slots := kX.instanceTypes.map defaultValue, vm := .none } = T1 at X₁ st1
  have hcat : (Value.ref T.heap.size).category = 1 := rfl
  have hcellA : T1.heap[T.heap.size]? = some (freshCell cX kX) := by rw [← hT1]; exact State.heap_pushCell_size _ _
  have d3' : decode c.code (pc + 3) = .ok (.dup, 1) := by rw [hb]; exact d3
  obtain ⟨U, hsteps, hrun, hend, hW, hsame, ce, hce, hO⟩ := X₁.ctorThrow0 hexec htr (own := own) (cls := cls) (names := names) (ic := ic) hown' hcls hnames h (fun x hx => nomatch hx) hfX hkX hcellA (by rw [hhp, hT]; exact Nat.le_refl _)
    (g := { method := m, pc := pc + 4, locals := ls, stack := .ref T.heap.size :: .ref T.heap.size :: rest, locked := none }) rfl hsize rfl rfl (rest := rest) rfl
    (by rw [hb]; exact d4) (by rw [hb]; exact d7) hout hRframes (by simp only [List.map_cons, List.sum_cons, hcat]; omega) hlocks
  obtain ⟨f1, f2⟩ := vx_frame hsame
  rw [hhp] at f1 f2
  have hWs : s.WarmedH U.vm := State.WarmedH.trans hW0 hW
  have hcl : s.vm.findClass cls = some ce.cls := by
    have h9 := hO.cls
    rw [hvm] at h9
    exact h9
  have hall : s.sameButNew ({ U with vm := s.vm } : State) locs mc ms := by
    subst hA
    obtain ⟨e1, e2⟩ := hsame
    rw [State.setFrames_setFrames] at e1
    have h2 : (T.setVm s.vm).sameButNew ({ U with vm := s.vm } : State) [] (0 + 1) (0 + 6) := ⟨e1, e2⟩
    have h3 := X.same.trans h2
    rw [List.append_nil] at h3
    exact h3.mono hc hs
  refine ⟨U, ?_, .threw T.heap.size, hrun, hend, Or.inr ⟨T.heap.size, rfl, cls, ce, locs, hx U hWs.alike f1 (fun q hq => f2 q hq (fun z hz => nomatch hz)), hce, hO.vm, hcl, hWs, hall, hf⟩⟩
  refine st1 _ ?_
  show Steps p.tables e below (T1.setTop { method := m, pc := pc + 3, locals := ls, stack := .ref T.heap.size :: rest, locked := none }) _
  jvm_step X₁.here [X₁.here.top, hexec, d3', Value.category]
  exact hsteps
/-- 'throw new E("text")': new; dup; ldc; invokespecial; athrow -/
theorem vx_throwS {cc : ByteArray} {pc : Nat} (hexec : p.tables.exec = Jvm.exec) (hb : c.code = cc) (hl : l.stackTraces = false) {own cls text : String} {names : List String} {ik is ic mc ms sa : Nat} {A : Nat → Prop}
    (hown : s.vm.findClass own = some m.cls) (hcls : Bundle.fit cls = true) (hnames : ∀ n ∈ names, Bundle.fit n = true)
    (hk : (Cond.classLink own ik cls).before args s = true) (hini : (Cond.initialized cls).before args s = true) (hstr : vk_R own is text sa s) (hat : ∀ w ∈ vx_atS own ic cls names, w.before args s = true)
    (hgood : ∀ w ∈ Cond.classLink own ik cls :: Cond.initialized cls :: vx_atS own ic cls names, vx_ot w = true)
    (hU : vx_Zq Bundle.tN "UNASSIGNED_STACK" Bundle.steD A s s.heap) (hN : vx_Zq Bundle.tN "SUPPRESSED_SENTINEL" Bundle.listD A s s.heap) (hS : va_S A s.heap H locs) (hsize : ls.size = c.maxLocals)
    (d0 : decode cc pc = .ok (.new ik, 3)) (d3 : decode cc (pc + 3) = .ok (.dup, 1)) (d4 : decode cc (pc + 4) = .ok (.ldc is, 2)) (d6 : decode cc (pc + 6) = .ok (.invokespecial ic, 3)) (d9 : decode cc (pc + 9) = .ok (.athrow, 1))
    (hout : ∀ x ∈ c.exceptionTable.toList, covers x (pc + 9) = false)
    (hRframes : names.length + 3 < R.frames) (hRlocals : (rest.map fun v => v.category).sum + (13 * (names.length + 1) + 43) ≤ R.locals) (hRcells : cells + 1 ≤ R.cells) (hRslots : slots + 6 ≤ R.slots) (hlocks : meth.locks = false)
    (hx : ∀ t : State, s.vm.Alike t.vm → H.size ≤ t.heap.size → (∀ q : Nat, q < H.size → t.heap[q]? = H[q]?) → XC cls s t)
    (hf : ∀ z ∈ locs, free z.base) (hc : cells + 1 ≤ mc) (hs : slots + 6 ≤ ms) :
    W p l e R s m args below meth c H locs cells slots (vx_MQ below Qc XC args s mc ms free) (F0 m pc ls rest) := by
  intro T hT X
  have htr : e.platform.stackTraces = false := (show e.platform.stackTraces = l.stackTraces by rw [X.admits.platform]).trans hl
  have Y := vx_rebase X (R' := { frames := R.frames, locals := R.locals, cells := 1, slots := 6 }) (Nat.le_refl _) (Nat.le_refl _) hRcells hRslots
  obtain ⟨s', hA⟩ : ∃ z, z = (T.setVm s.vm).setFrames (.invoking m args :: below) := ⟨_, rfl⟩
  rw [← hA] at Y
  have hvm : s'.vm = s.vm := by rw [hA]; rfl
  have hhp : s'.heap = H := by rw [hA]; exact hT
  have hW0 : s.WarmedH s'.vm := by rw [hvm]; exact State.WarmedH.refl s
  have hat' : ∀ w ∈ vx_atS own ic cls names, w.before args s' = true := fun w hw => vx_ot_at hW0 hvm.symm (hgood w (List.mem_cons_of_mem _ (List.mem_cons_of_mem _ hw))) (hat w hw)
  have hk' : (Cond.classLink own ik cls).before args s' = true := vx_ot_at hW0 hvm.symm (hgood _ List.mem_cons_self) hk
  have hini' : (Cond.initialized cls).before args s' = true := vx_ot_at hW0 hvm.symm (hgood _ (List.mem_cons_of_mem _ List.mem_cons_self)) hini
  have hU' : vx_Zq Bundle.tN "UNASSIGNED_STACK" Bundle.steD A s' s'.heap := by rw [hhp]; exact vx_Zq.moved hW0.alike (hU.kept hS.2.1)
  have hN' : vx_Zq Bundle.tN "SUPPRESSED_SENTINEL" Bundle.listD A s' s'.heap := by rw [hhp]; exact vx_Zq.moved hW0.alike (hN.kept hS.2.1)
  have h : ∀ w ∈ Bundle.ownAtoms own ic cls names, w.before args s' = true := vx_own hat' (vx_isRefq hU'.1) (vx_isRefq hN'.1) hU'.2.word hN'.2.word
  have hown' : s'.vm.findClass own = some m.cls := by rw [hvm]; exact hown
  have hins : (Cond.instantiable cls 6).before args s' = true := h _ (by simp [Bundle.ownAtoms])
  obtain ⟨vm₁, cX, kX, hfX, hkX, -, -, X₁, st1⟩ := Y.newCold hexec (own := own) (C := cls) (index := ik) (n := 6) hown' hk' hins hini'
    (g := F0 m pc ls rest) rfl (by rw [hb]; exact d0) (Nat.le_refl _) (Nat.le_refl _)
  generalize hT1 : (T.setVm vm₁).pushCell { cls := cX, slots := kX.instanceTypes.map defaultValue, vm := .none } = T1 at X₁ st1
  have hcat : (Value.ref T.heap.size).category = 1 := rfl
  have hcellA : T1.heap[T.heap.size]? = some (freshCell cX kX) := by rw [← hT1]; exact State.heap_pushCell_size _ _
  have d3' : decode c.code (pc + 3) = .ok (.dup, 1) := by rw [hb]; exact d3
  have d4' : decode c.code (pc + 4) = .ok (.ldc is, 2) := by rw [hb]; exact d4
  have hstr' : vk_R own is text sa s' := vk_R.warm hW0 hstr
  obtain ⟨U, hsteps, hrun, hend, hW, hsame, ce, hce, hO⟩ := X₁.ctorThrowS hexec htr (own := own) (cls := cls) (names := names) (ic := ic) hown' hcls hnames h (fun x hx => nomatch hx) hfX hkX hcellA (by rw [hhp, hT]; exact Nat.le_refl _) (msg := .ref sa) rfl
    (g := { method := m, pc := pc + 6, locals := ls, stack := .ref sa :: .ref T.heap.size :: .ref T.heap.size :: rest, locked := none }) rfl hsize rfl rfl (rest := rest) rfl
    (by rw [hb]; exact d6) (by rw [hb]; exact d9) hout hRframes (by simp only [List.map_cons, List.sum_cons, hcat]; omega) hlocks
  obtain ⟨f1, f2⟩ := vx_frame hsame
  rw [hhp] at f1 f2
  have hWs : s.WarmedH U.vm := State.WarmedH.trans hW0 hW
  have hcl : s.vm.findClass cls = some ce.cls := by
    have h9 := hO.cls
    rw [hvm] at h9
    exact h9
  have hall : s.sameButNew ({ U with vm := s.vm } : State) locs mc ms := by
    subst hA
    obtain ⟨e1, e2⟩ := hsame
    rw [State.setFrames_setFrames] at e1
    have h2 : (T.setVm s.vm).sameButNew ({ U with vm := s.vm } : State) [] (0 + 1) (0 + 6) := ⟨e1, e2⟩
    have h3 := X.same.trans h2
    rw [List.append_nil] at h3
    exact h3.mono hc hs
  refine ⟨U, ?_, .threw T.heap.size, hrun, hend, Or.inr ⟨T.heap.size, rfl, cls, ce, locs, hx U hWs.alike f1 (fun q hq => f2 q hq (fun z hz => nomatch hz)), hce, hO.vm, hcl, hWs, hall, hf⟩⟩
  refine st1 _ ?_
  show Steps p.tables e below (T1.setTop { method := m, pc := pc + 3, locals := ls, stack := .ref T.heap.size :: rest, locked := none }) _
  jvm_step X₁.here [X₁.here.top, hexec, d3', Value.category]
  exact X₁.ldcString hexec (own := own) (text := text) (index := is) (a := sa) hown' hstr'.1 hstr'.2
    (g := { method := m, pc := pc + 4, locals := ls, stack := .ref T.heap.size :: .ref T.heap.size :: rest, locked := none }) rfl d4' _ hsteps
/-- 'throw new E("text")', the text by a wide index -/
theorem vx_throwSW {cc : ByteArray} {pc : Nat} (hexec : p.tables.exec = Jvm.exec) (hb : c.code = cc) (hl : l.stackTraces = false) {own cls text : String} {names : List String} {ik is ic mc ms sa : Nat} {A : Nat → Prop}
    (hown : s.vm.findClass own = some m.cls) (hcls : Bundle.fit cls = true) (hnames : ∀ n ∈ names, Bundle.fit n = true)
    (hk : (Cond.classLink own ik cls).before args s = true) (hini : (Cond.initialized cls).before args s = true) (hstr : vk_R own is text sa s) (hat : ∀ w ∈ vx_atS own ic cls names, w.before args s = true)
    (hgood : ∀ w ∈ Cond.classLink own ik cls :: Cond.initialized cls :: vx_atS own ic cls names, vx_ot w = true)
    (hU : vx_Zq Bundle.tN "UNASSIGNED_STACK" Bundle.steD A s s.heap) (hN : vx_Zq Bundle.tN "SUPPRESSED_SENTINEL" Bundle.listD A s s.heap) (hS : va_S A s.heap H locs) (hsize : ls.size = c.maxLocals)
    (d0 : decode cc pc = .ok (.new ik, 3)) (d3 : decode cc (pc + 3) = .ok (.dup, 1)) (d4 : decode cc (pc + 4) = .ok (.ldc_w is, 3)) (d7 : decode cc (pc + 7) = .ok (.invokespecial ic, 3)) (d10 : decode cc (pc + 10) = .ok (.athrow, 1))
    (hout : ∀ x ∈ c.exceptionTable.toList, covers x (pc + 10) = false)
    (hRframes : names.length + 3 < R.frames) (hRlocals : (rest.map fun v => v.category).sum + (13 * (names.length + 1) + 43) ≤ R.locals) (hRcells : cells + 1 ≤ R.cells) (hRslots : slots + 6 ≤ R.slots) (hlocks : meth.locks = false)
    (hx : ∀ t : State, s.vm.Alike t.vm → H.size ≤ t.heap.size → (∀ q : Nat, q < H.size → t.heap[q]? = H[q]?) → XC cls s t)
    (hf : ∀ z ∈ locs, free z.base) (hc : cells + 1 ≤ mc) (hs : slots + 6 ≤ ms) :
    W p l e R s m args below meth c H locs cells slots (vx_MQ below Qc XC args s mc ms free) (F0 m pc ls rest) := by
  intro T hT X
  have htr : e.platform.stackTraces = false := (show e.platform.stackTraces = l.stackTraces by rw [X.admits.platform]).trans hl
  have Y := vx_rebase X (R' := { frames := R.frames, locals := R.locals, cells := 1, slots := 6 }) (Nat.le_refl _) (Nat.le_refl _) hRcells hRslots
  obtain ⟨s', hA⟩ : ∃ z, z = (T.setVm s.vm).setFrames (.invoking m args :: below) := ⟨_, rfl⟩
  rw [← hA] at Y
  have hvm : s'.vm = s.vm := by rw [hA]; rfl
  have hhp : s'.heap = H := by rw [hA]; exact hT
  have hW0 : s.WarmedH s'.vm := by rw [hvm]; exact State.WarmedH.refl s
  have hat' : ∀ w ∈ vx_atS own ic cls names, w.before args s' = true := fun w hw => vx_ot_at hW0 hvm.symm (hgood w (List.mem_cons_of_mem _ (List.mem_cons_of_mem _ hw))) (hat w hw)
  have hk' : (Cond.classLink own ik cls).before args s' = true := vx_ot_at hW0 hvm.symm (hgood _ List.mem_cons_self) hk
  have hini' : (Cond.initialized cls).before args s' = true := vx_ot_at hW0 hvm.symm (hgood _ (List.mem_cons_of_mem _ List.mem_cons_self)) hini
  have hU' : vx_Zq Bundle.tN "UNASSIGNED_STACK" Bundle.steD A s' s'.heap := by rw [hhp]; exact vx_Zq.moved hW0.alike (hU.kept hS.2.1)
  have hN' : vx_Zq Bundle.tN "SUPPRESSED_SENTINEL" Bundle.listD A s' s'.heap := by rw [hhp]; exact vx_Zq.moved hW0.alike (hN.kept hS.2.1)
  have h : ∀ w ∈ Bundle.ownAtoms own ic cls names, w.before args s' = true := vx_own hat' (vx_isRefq hU'.1) (vx_isRefq hN'.1) hU'.2.word hN'.2.word
  have hown' : s'.vm.findClass own = some m.cls := by rw [hvm]; exact hown
  have hins : (Cond.instantiable cls 6).before args s' = true := h _ (by simp [Bundle.ownAtoms])
  obtain ⟨vm₁, cX, kX, hfX, hkX, -, -, X₁, st1⟩ := Y.newCold hexec (own := own) (C := cls) (index := ik) (n := 6) hown' hk' hins hini'
    (g := F0 m pc ls rest) rfl (by rw [hb]; exact d0) (Nat.le_refl _) (Nat.le_refl _)
  generalize hT1 : (T.setVm vm₁).pushCell { cls := cX, slots := kX.instanceTypes.map defaultValue, vm := .none } = T1 at X₁ st1
  have hcat : (Value.ref T.heap.size).category = 1 := rfl
  have hcellA : T1.heap[T.heap.size]? = some (freshCell cX kX) := by rw [← hT1]; exact State.heap_pushCell_size _ _
  have d3' : decode c.code (pc + 3) = .ok (.dup, 1) := by rw [hb]; exact d3
  have d4' : decode c.code (pc + 4) = .ok (.ldc_w is, 3) := by rw [hb]; exact d4
  have hstr' : vk_R own is text sa s' := vk_R.warm hW0 hstr
  obtain ⟨U, hsteps, hrun, hend, hW, hsame, ce, hce, hO⟩ := X₁.ctorThrowS hexec htr (own := own) (cls := cls) (names := names) (ic := ic) hown' hcls hnames h (fun x hx => nomatch hx) hfX hkX hcellA (by rw [hhp, hT]; exact Nat.le_refl _) (msg := .ref sa) rfl
    (g := { method := m, pc := pc + 7, locals := ls, stack := .ref sa :: .ref T.heap.size :: .ref T.heap.size :: rest, locked := none }) rfl hsize rfl rfl (rest := rest) rfl
    (by rw [hb]; exact d7) (by rw [hb]; exact d10) hout hRframes (by simp only [List.map_cons, List.sum_cons, hcat]; omega) hlocks
  obtain ⟨f1, f2⟩ := vx_frame hsame
  rw [hhp] at f1 f2
  have hWs : s.WarmedH U.vm := State.WarmedH.trans hW0 hW
  have hcl : s.vm.findClass cls = some ce.cls := by
    have h9 := hO.cls
    rw [hvm] at h9
    exact h9
  have hall : s.sameButNew ({ U with vm := s.vm } : State) locs mc ms := by
    subst hA
    obtain ⟨e1, e2⟩ := hsame
    rw [State.setFrames_setFrames] at e1
    have h2 : (T.setVm s.vm).sameButNew ({ U with vm := s.vm } : State) [] (0 + 1) (0 + 6) := ⟨e1, e2⟩
    have h3 := X.same.trans h2
    rw [List.append_nil] at h3
    exact h3.mono hc hs
  refine ⟨U, ?_, .threw T.heap.size, hrun, hend, Or.inr ⟨T.heap.size, rfl, cls, ce, locs, hx U hWs.alike f1 (fun q hq => f2 q hq (fun z hz => nomatch hz)), hce, hO.vm, hcl, hWs, hall, hf⟩⟩
  refine st1 _ ?_
  show Steps p.tables e below (T1.setTop { method := m, pc := pc + 3, locals := ls, stack := .ref T.heap.size :: rest, locked := none }) _
  jvm_step X₁.here [X₁.here.top, hexec, d3', Value.category]
  exact X₁.ldcStringW hexec (own := own) (text := text) (index := is) (a := sa) hown' hstr'.1 hstr'.2
    (g := { method := m, pc := pc + 4, locals := ls, stack := .ref T.heap.size :: .ref T.heap.size :: rest, locked := none }) rfl d4' _ hsteps
end Ends
section Bodies
variable {l : Launch}
theorem vx_ofW {y : MethodName} {ws ws' : List Cond} {rm : Room} {Pc : Array Value → State → Prop} {Qc : Array Value → State → Outcome → State → Prop} {XC : String → State → State → Prop} {mc ms : Nat} {free : Addr → Prop} {cc : ByteArray} {maxL : Nat} {ret : Option FieldType}
    (hy : plainName y.cls = true) (hw : ws = Cond.code y cc maxL ret :: ws')
    (body : ∀ p e s m args below meth c s₁, BodyLoose p l y (headSpec ws rm) cc maxL ret e s m args below meth c s₁ → c.maxLocals = maxL → (∀ x ∈ c.exceptionTable.toList, False) → Pc args s →
      W p l e (headSpec ws rm).room s m args below meth c s.heap [] 0 0 (vx_MQ below Qc XC args s mc ms free) (entryFrame m args maxL)) : vx_Met l y ws rm Pc Qc XC mc ms free := by
  refine MetFree.of_bodyS (code := cc) (maxLocals := maxL) (ret := ret) hy ?_ ?_
  · intro args s m h hn
    obtain ⟨meth, c, h1, h2, h3, h4, h5, h6, -, -⟩ := Cond.code_spec hn (atoms_spec (ws := ws) h _ (by rw [hw]; exact List.mem_cons_self))
    exact ⟨meth, c, h1, h2, h3, h4, h5, h6⟩
  · intro p e s m args below meth c s₁ B hml hP _
    have hh0 : s₁.heap = s.heap := by rw [B.state]; rfl
    have ht : ∀ x ∈ c.exceptionTable.toList, False := by
      obtain ⟨meth9, c9, h1, h2, -, -, -, -, h7, -⟩ := Cond.code_spec B.named (atoms_spec (ws := ws) B.pre _ (by rw [hw]; exact List.mem_cons_self))
      cases Option.some.inj (h1.symm.trans B.method)
      cases Option.some.inj (h2.symm.trans (Stand.of_body B).code)
      intro x hx
      rw [Array.isEmpty_iff.mp h7] at hx
      cases hx
    obtain ⟨t, a1, o, b1, b2, b3⟩ := body p e s m args below meth c s₁ B hml ht hP s₁ hh0 (Stand.of_body B)
    exact ⟨t, o, a1, b1, b2, b3⟩
/-- the table of a body with handlers -/
theorem vx_table {p : Program} {x y : MethodName} {S : Spec} {cc bytes : ByteArray} {maxL maxL' : Nat} {ret ret' : Option FieldType} {e : Env} {s s₁ : State} {m : MethodId} {args : Array Value} {below : List Frame} {meth : Method} {c : Code} {hh : List (Nat × Nat × Nat × Nat)}
    (B : BodyLoose p l y S cc maxL ret e s m args below meth c s₁) (h : (Cond.codeWith y bytes maxL' ret' hh).before args s = true) : c.exceptionTable.toList = tableOf hh := by
  obtain ⟨m9, meth9, c9, hn9, h1, h2, -, -, h6, -⟩ := Cond.codeWith_spec h
  cases Option.some.inj (hn9.symm.trans B.named)
  cases Option.some.inj (h1.symm.trans B.method)
  cases Option.some.inj (h2.symm.trans (Stand.of_body B).code)
  rw [← h6, table_eq]
end Bodies
end VXA
/-! ===== END ===== -/
/-! ===== BEGIN a static call of a method with an exception table ===== -/
section VXS
variable {p : Program} {l : Launch} {e : Env} {R : Room} {s : State} {m : MethodId} {args : Array Value} {below : List Frame} {meth : Method} {c : Code} {T : State} {H : Heap} {locs : List Loc} {cells slots : Nat}
abbrev vx_CSW (R : Room) (s : State) (args : Array Value) (own : String) (index : Nat) (y : MethodName) (bytes : ByteArray) (maxL : Nat) (ret : Option FieldType) (hh : List (Nat × Nat × Nat × Nat)) (ws : List Cond) (rm : Room) (mc ms n : Nat) : Prop :=
  (rm.cells = mc ∧ rm.slots = ms ∧ rm.frames + 1 ≤ R.frames ∧ 8 + (maxL + 11) + rm.locals ≤ R.locals ∧ (∀ w ∈ ws, ∀ (a' : Array Value) (U : State), s.WarmedH U.vm → w.before a' U = true) ∧ Cond.codeWith y bytes maxL ret hh ∈ ws) ∧
  (Cond.codeWith y bytes maxL ret hh).before args s = true ∧ (Cond.initialized y.cls).before args s = true ∧ (y.cls ≠ "java/lang/invoke/MethodHandle" ∧ y.cls ≠ "java/lang/invoke/VarHandle") ∧
  (∀ sig, parseMethodDescriptor y.desc = some sig → n = sig.parameters.length) ∧ (Cond.methodLink own index y).before args s = true ∧ (Cond.static y).before args s = true
theorem vx_cwSW {own : String} {index maxL mc ms : Nat} {y : MethodName} {bytes : ByteArray} {ret : Option FieldType} {hh : List (Nat × Nat × Nat × Nat)} {Ts ws ws' : List Cond} {rm : Room} (n : Nat) (ht : ∀ w ∈ Ts, w.before args s = true) (hT : GoodIn Ts (va_wsS own index y ws)) (hw : ws = Cond.codeWith y bytes maxL ret hh :: ws') (hrc : rm.cells = mc) (hrs : rm.slots = ms)
    (hd : y.cls ≠ "java/lang/invoke/MethodHandle" ∧ y.cls ≠ "java/lang/invoke/VarHandle" ∧ (parseMethodDescriptor y.desc).map (fun d => d.parameters.length) = some n) (hR : rm.frames + 1 ≤ R.frames ∧ 8 + (maxL + 11) + rm.locals ≤ R.locals) :
    vx_CSW R s args own index y bytes maxL ret hh ws rm mc ms n := by
  have ok : ∀ w ∈ va_wsS own index y ws, w.before args s = true := fun w h => ht w (hT w h).1
  have hG : GoodIn Ts ws := fun w h => hT w (by unfold va_wsS; exact List.mem_append_right _ h)
  have hc : Cond.codeWith y bytes maxL ret hh ∈ ws := by rw [hw]; exact List.mem_cons_self
  refine ⟨⟨hrc, hrs, hR.1, hR.2, pay_in ht hG, hc⟩, ht _ (hG _ hc).1, ok _ (by simp [va_wsS]), ⟨hd.1, hd.2.1⟩, fun sig h => ?_, ok _ (by simp [va_wsS]), ok _ (by simp [va_wsS])⟩
  have h2 := hd.2.2
  rw [h] at h2
  exact (Option.some.inj h2).symm
theorem vx_callSW (X : Stand p l e R s m args below meth c T locs cells slots) (hexec : p.tables.exec = Jvm.exec) {own : String} {index : Nat} {y : MethodName} {bytes : ByteArray} {maxL : Nat} {ret : Option FieldType} {hh : List (Nat × Nat × Nat × Nat)}
    (hown : s.vm.findClass own = some m.cls) (hlink : (Cond.methodLink own index y).before args s = true) (hstat : (Cond.static y).before args s = true) (hinit : (Cond.initialized y.cls).before args s = true)
    (hcode : (Cond.codeWith y bytes maxL ret hh).before args s = true) (hy : y.cls ≠ "java/lang/invoke/MethodHandle" ∧ y.cls ≠ "java/lang/invoke/VarHandle")
    {W9 : Nat} {Pre : Pt → Array Value → Prop} {Post : Pt → Array Value → Option Value → Pt → Prop} (hK : Back l R p e below s args y 3 W9 Pre Post)
    {g : JFrame} (hg : g.method = m) (hsize : g.locals.size = c.maxLocals) {argsL rest : List Value} (hlen : ∀ sig, parseMethodDescriptor y.desc = some sig → argsL.length = sig.parameters.length)
    (hstack : g.stack = argsL.reverse ++ rest) (hW : 2 * g.monitorRoom + (rest.map fun v => v.category).sum ≤ W9) (hdg : decode c.code g.pc = .ok (.invokestatic index, 3))
    (hpre : ∀ vm₁, s.WarmedH vm₁ → Pre ⟨T.setVm vm₁, locs, cells, slots⟩ argsL.toArray) :
    ∃ (v : Option Value) (vm₁ : Vm) (B : Pt), s.WarmedH vm₁ ∧ Stand p l e R s m args below meth c B.U B.locs B.cells B.slots ∧ Post ⟨T.setVm vm₁, locs, cells, slots⟩ argsL.toArray v B ∧
      ∀ target, Steps p.tables e below (B.U.setTop { g with pc := g.pc + 3, stack := v.toList ++ rest }) target → Steps p.tables e below (T.setTop g) target := by
  obtain ⟨mk, methM, cM, hnamed, hmethM, -, -, -, -, -, -, hsigM⟩ := Cond.codeWith_spec hcode
  have hstatic : methM.isStatic = true := Cond.static_spec hnamed hmethM hstat
  obtain ⟨kP, hkP, -⟩ := className_of_methodNamed hnamed
  have hinitP : kP.init = .initialized := Cond.initialized_spec (findClass_of_methodNamed hnamed) hkP hinit
  obtain ⟨vm₁, X₁, hstep₁⟩ := X.invokestatic hexec hown hlink hnamed hmethM hstatic hkP hinitP hy (g := g) hg (argsL := argsL) (rest := rest) (hlen _ hsigM) hstack hdg
  obtain ⟨v, B, X', hpost, hsteps⟩ := hK m meth c ⟨T.setVm vm₁, locs, cells, slots⟩ { g with stack := rest } (.invokestatic index) mk argsL.toArray X₁ hg hsize hdg hW (X₁.named hnamed) (hpre vm₁ X₁.warmed)
  exact ⟨v, vm₁, B, X₁.warmed, X', hpost, fun target h => hstep₁ _ fun acts => by rw [doInvoke_state]; exact hsteps.trans h⟩
theorem vx_runSW {y : MethodName} {bytes cc : ByteArray} {maxL nL mc ms n index : Nat} {ret : Option FieldType} {hh : List (Nat × Nat × Nat × Nat)} {ws : List Cond} {rm : Room} {Pc : Array Value → State → Prop} {Qc : Array Value → State → Outcome → State → Prop} {free : Addr → Prop} {Ts : List Cond} {own : String} {As rest : List Value} {g : JFrame}
    (S : CallFix p m c cc nL s args Ts own) (hM : Met l y ws rm Pc Qc mc ms free) (cw : vx_CSW R s args own index y bytes maxL ret hh ws rm mc ms n) (hp : PreS s H Pc As)
    (hg : g.method = m) (hn : As.length = n) (hsize : g.locals.size = nL) (hstack : g.stack = As.reverse ++ rest) (hW : 2 * g.monitorRoom + (rest.map fun v => v.category).sum ≤ 8) (hdg : decode cc g.pc = .ok (.invokestatic index, 3)) (hf : cells + mc ≤ R.cells ∧ slots + ms ≤ R.slots) :
    va_Run p l e R s m args below meth c H locs cells slots mc ms g rest (Qc As.toArray) (free) := by
  obtain ⟨⟨hrc, hrs, hfr, hlo, hws, hcw⟩, hcode, hini, hy, hlen, hl, hstt⟩ := cw
  have hK : Back l R p e below s args y 3 8 (PreOf R mc ms Pc) (PostOf Qc mc ms free) := va_backW (hh := hh) (bytes := bytes) (maxL := maxL) (ret := ret) hM hp.1 hrc hrs hfr hlo hws hcw (fun a' U hW => word_at hW (Or.inl (by first | rfl | simp [Cond.onTables, Cond.keeps, Cond.steady])) hini)
  obtain ⟨hx, hb, hml, ho, -⟩ := S
  intro T hT X
  obtain ⟨v, vm₁, ⟨U', l2, c2, s2⟩, hW₁, X', ⟨g', mk, t, L, e1, e2, hq, h1, hL, h2, h3⟩, st⟩ := vx_callSW X hx (hh := hh) (bytes := bytes) (maxL := maxL) (ret := ret) ho hl hstt hini hcode hy hK hg (hsize.trans hml.symm) (argsL := As) (rest := rest) (fun sig h => hn.trans (hlen sig h)) hstack hW (by rw [hb]; exact hdg)
    (fun vm₁ hW₁ => ⟨hf.1, hf.2, hp.2 (T.setVm vm₁) hT hW₁⟩)
  dsimp only [Pt.U, Pt.locs, Pt.cells, Pt.slots] at X' e1 e2 h1 h2 h3 st
  subst h1; subst h2; subst h3
  exact ⟨v, (T.setVm vm₁).calling g' mk As.toArray, t, U', L, hT, X', hL, e1, e2, hq, st⟩
/-- not caught here, past rows that name other classes: it goes on to the caller -/
theorem vx_outP {p : Program} {l : Launch} {e : Env} {R : Room} {s : State} {m : MethodId} {args : Array Value} {below : List Frame} {meth : Method} {c : Code} {H : Heap} {locs : List Loc} {cells slots : Nat} {free : Addr → Prop} {ls : Array Slot} {rest : List Value} {Qc : Array Value → State → Outcome → State → Prop} {XC : String → State → State → Prop}
    {pc : Nat} {own E : String} {ce : Cell} {q : Addr} {mc ms : Nat} (hown : s.vm.findClass own = some m.cls) (hlocks : meth.locks = false)
    (hpass : ∀ z ∈ c.exceptionTable.toList, covers z pc = false ∨ (z.catchType ≠ 0 ∧ ∃ nm : String, (Cond.classLink own z.catchType nm).before args s = true ∧ va_Nc E nm s)) (hcell : H[q]? = some ce) (hv : ce.vm = .none) (hcl : s.vm.findClass E = some ce.cls)
    (hx : ∀ t : State, t.heap = H → s.vm.Alike t.vm → XC E s t) (hf : ∀ z ∈ locs, free z.base) (hc : cells ≤ mc) (hs : slots ≤ ms) :
    vx_W p l e R s m args below meth c H locs cells slots (vx_MQ below Qc XC args s mc ms free) (F0 m pc ls rest) q := by
  intro T hT X
  have hpl : e.platform.magicAccessors = ({} : Platform).magicAccessors := by rw [X.admits.platform]
  obtain ⟨vm', hW', X', st⟩ := X.outThrough hlocks q (g := F0 m pc ls rest) rfl rfl rfl (cell := ce) (by rw [hT]; exact hcell) (by rw [hv]; rfl)
    (by obtain ⟨k9, h9, -⟩ := Vm.findClass_spec hcl; exact ⟨k9, h9⟩) (fun z hz => by
      rcases hpass z hz with h | ⟨hz0, nm, hl1, hn1⟩
      · exact Or.inl h
      · obtain ⟨c6, hc6, hcl6⟩ := Cond.classLink_spec hown hl1 e.platform hpl
        obtain ⟨a8, b8, h1, h2, h3⟩ := hn1
        cases Option.some.inj (h1.symm.trans hcl)
        cases Option.some.inj (h2.symm.trans hc6)
        exact Or.inr ⟨hz0, _, hcl6, h3⟩)
  obtain ⟨g₀, hfr⟩ := X'.frames_eq
  have hcell9 : ((T.setVm vm').setFrames (.throwing q :: below)).heap[q]? = some ce := by
    show T.heap[q]? = some ce
    rw [hT]; exact hcell
  have hend : Ended ((T.setVm vm').setFrames (.throwing q :: below)) below (.threw q) := State.frames_setFrames _ (State.cur_lt_of_frames hfr)
  refine ⟨(T.setVm vm').setFrames (.throwing q :: below), ?_, .threw q, X'.here.running, hend, Or.inr ⟨q, rfl, E, ce, locs, hx _ hT (X'.ends _).1.alike, hcell9, hv, hcl, (X'.ends _).1, (X'.ends _).2.mono hc hs, hf⟩⟩
  rw [X.pushThrowing_eq]
  exact st
/-- a thing of a world lies in the heap -/
theorem vx_lt {D : va_G} {cl : List vw_C} {ws : va_W} {H1 : Heap} (h : va_P D cl ws H1) {k : Nat} {q : Nat × va_E} (hk : ws[k]? = some q) : q.1 < H1.size := (h k q hk).lt
end VXS
/-! ===== END ===== -/
/-! ===== BEGIN methods with a table of their own: called by a name, returning or throwing ===== -/
section VXH
/-! vx_backW, vx_callVX, vx_callSX, vx_callVW, vx_runVW, vx_runVX, vx_runSX, vx_ofWH follow the same proofs as their sisters above (Free/Laws.lean, Shelf42/LK1.lean); vx_outP calls Shelf42/NT130.lean (outThrough). -/
section
variable {l : Launch} {R : Room} {p : Program} {e : Env} {below : List Frame} {s : State} {sargs : Array Value} {y : MethodName} {len W9 : Nat}
theorem vx_backW {ws : List Cond} {rm : Room} {Pc : Array Value → State → Prop} {Qc : Array Value → State → Outcome → State → Prop} {XC : String → State → State → Prop} {mc ms : Nat} {free : Addr → Prop} {bytes : ByteArray} {maxL : Nat} {ret : Option FieldType} {hh : List (Nat × Nat × Nat × Nat)}
    (hM : vx_Met l y ws rm Pc Qc XC mc ms free) (hblind : FrameBlind Pc) (hrc : rm.cells = mc) (hrs : rm.slots = ms)
    (hframes : rm.frames + 1 ≤ R.frames) (hlocals : W9 + (maxL + 11) + rm.locals ≤ R.locals)
    (hws : ∀ w ∈ ws, ∀ a' U, s.WarmedH U.vm → w.before a' U = true) (hcode : Cond.codeWith y bytes maxL ret hh ∈ ws) (hinit : ∀ a' U, s.WarmedH U.vm → (Cond.initialized y.cls).before a' U = true) :
    vx_Back l R p e below s sargs y len W9 (PreOf R mc ms Pc) (PostOf Qc mc ms free) (vx_Post XC mc ms free) := by
  intro m meth c A g ig mk a X hg hsize hdg hW hn hp
  have h1 : (headSpec ws rm).pre.before a A.U = true := atoms_intro fun w hw => hws w hw _ _ X.warmed
  have h2 : (Cond.codeWith y bytes maxL ret hh).before a A.U = true := hws _ hcode _ _ X.warmed
  have h3 : (Cond.initialized y.cls).before a A.U = true := hinit _ _ X.warmed
  have h4 : A.cells + (headSpec ws rm).room.cells ≤ R.cells := by rw [show (headSpec ws rm).room.cells = mc from hrc]; exact hp.1
  have h5 : A.slots + (headSpec ws rm).room.slots ≤ R.slots := by rw [show (headSpec ws rm).room.slots = ms from hrs]; exact hp.2.1
  have hPc : Pc a (A.U.calling g mk a) := hblind _ _ _ _ hp.2.2
  obtain ⟨U, Ls, c0, s0⟩ := A
  dsimp only [Pt.U, Pt.locs, Pt.cells, Pt.slots] at h1 h2 h3 h4 h5 X hn hPc ⊢
  obtain ⟨m9, methY, cY, hn9, hmY, hcY, -, hlY, -⟩ := Cond.codeWith_spec h2
  cases Option.some.inj (hn9.symm.trans hn)
  obtain ⟨kY, hkY, -⟩ := className_of_methodNamed hn
  have hinitY : kY.init = .initialized := Cond.initialized_spec (findClass_of_methodNamed hn) hkY h3
  have h : At U g.method c below := by rw [hg]; exact X.here
  have hlocals9 : W9 + (maxL + 11) + (headSpec ws rm).room.locals ≤ R.locals := hlocals
  have happ : (headSpec ws rm).appliesLoose y e.platform (U.calling g mk a) = true :=
    Spec.appliesLoose_calling (g := g) h hdg hn hkY hinitY
      (X.room_calling (g := g) (R' := (headSpec ws rm).room) hsize hmY hcY hframes (by rw [hlY]; omega) h4 h5) h1
  obtain ⟨mid, hmid⟩ := h.above
  have hfr : (U.setTop g).frames = (.java g :: mid) ++ below := by rw [State.frames_setTop' g h.top, hmid]; rfl
  obtain ⟨o, s₂, hsteps, -, hend, hq⟩ := Steps.callFree hM p X.admits X.cas X.clock (acts := []) hfr happ hPc trivial
  have hq' : vx_Q Qc XC mc ms free a (U.calling g mk a) o s₂ := hq
  rw [State.frames_setTop' g h.top] at hend
  obtain ⟨g₀, hg0⟩ := Option.isSome_iff_exists.mp h.top
  obtain ⟨r, hr⟩ := State.topJava?_eq_some.mp hg0
  have hr' : (({ U with heap := s₂.heap, slotsUsed := s₂.slotsUsed } : State).setVm s₂.vm).frames = .java g₀ :: r := hr
  rcases hq' with ⟨hqc, L, hfe, hL⟩ | ⟨q, rfl, E, ce, L, hx, hce, hcv, hcl, hW₂, hsm, hL⟩
  · obtain ⟨⟨v, rfl⟩, hW₂, e2, q2, q3, q4, q5, q6⟩ := id hfe
    have e3 : s₂ = ({ (U.calling g mk a).setFrames s₂.frames with heap := s₂.heap, slotsUsed := s₂.slotsUsed } : State).setVm s₂.vm := by
      have : s₂ = ({ s₂ with vm := (U.calling g mk a).vm } : State).setVm s₂.vm := rfl
      rw [e2] at this
      exact this
    obtain ⟨c₂, i₂, len₂, hc₂, hd₂, hf₂⟩ := hend
    have hW' : U.WarmedH s₂.vm := hW₂
    have hcc : c₂ = c := by
      have h1 : s₂.code? g.method = U.code? g.method := by
        rw [State.code?_eq, State.code?_eq, hW'.alike.method?]
      exact Option.some.inj (hc₂.symm.trans (h1.trans h.code))
    subst hcc
    have hlen : len₂ = len := by rw [hdg] at hd₂; cases hd₂; rfl
    subst hlen
    have hs₂ : s₂ = (({ U with heap := s₂.heap, slotsUsed := s₂.slotsUsed } : State).setVm s₂.vm).setTop { g with pc := g.pc + len₂, stack := v.toList ++ g.stack } := by
      refine e3.trans ?_
      rw [hf₂, State.calling_eq h.top, State.setFrames_setFrames, State.setTop_of_frames _ hr', hr]
      rfl
    have hsame : U.sameButNew ({ U with heap := s₂.heap, slotsUsed := s₂.slotsUsed } : State) L mc ms := by
      refine ⟨?_, q2, q3, q4, q5, q6⟩
      obtain ⟨t, ht, -⟩ := State.frames_cons hr
      show ({ U with heap := s₂.heap, slotsUsed := s₂.slotsUsed } : State) = { U.setFrames U.frames with heap := s₂.heap, slotsUsed := s₂.slotsUsed }
      rw [State.setFrames_self ht]
    subst hg
    refine Or.inl ⟨v, ⟨(({ U with heap := s₂.heap, slotsUsed := s₂.slotsUsed } : State).setVm s₂.vm), Ls ++ L, c0 + mc, s0 + ms⟩,
      ⟨X.admits, X.cas, X.clock, X.frames, X.room, X.hears, X.method, X.code, (X.here.setHeapUsed s₂.heap s₂.slotsUsed).setVm hW'.alike, X.tail, State.WarmedH.trans X.warmed hW', X.limits, X.bytes, X.same.trans (hsame.setVm s.vm)⟩,
      ⟨g, mk, s₂, L, rfl, rfl, hqc, rfl, hL, rfl, rfl⟩, ?_⟩
    show Steps p.tables e below _ ((({ U with heap := s₂.heap, slotsUsed := s₂.slotsUsed } : State).setVm s₂.vm).setTop { g with pc := g.pc + len₂, stack := v.toList ++ g.stack })
    rw [← hs₂]
    exact hsteps
  · obtain ⟨e2, q2, q3, q4, q5, q6⟩ := id hsm
    have e3 : s₂ = ({ (U.calling g mk a).setFrames s₂.frames with heap := s₂.heap, slotsUsed := s₂.slotsUsed } : State).setVm s₂.vm := by
      have : s₂ = ({ s₂ with vm := (U.calling g mk a).vm } : State).setVm s₂.vm := rfl
      rw [e2] at this
      exact this
    have hf₂ : s₂.frames = .throwing q :: .java g :: U.frames.tail := hend
    have hW' : U.WarmedH s₂.vm := hW₂
    have hs₂ : s₂ = ((({ U with heap := s₂.heap, slotsUsed := s₂.slotsUsed } : State).setVm s₂.vm).setTop g).pushFrame (.throwing q) := by
      refine e3.trans ?_
      rw [hf₂, State.calling_eq h.top, State.setFrames_setFrames, State.pushFrame, State.frames_setTop _ hr', State.setTop_of_frames _ hr', State.setFrames_setFrames, hr]
      rfl
    have hsame : U.sameButNew ({ U with heap := s₂.heap, slotsUsed := s₂.slotsUsed } : State) L mc ms := by
      refine ⟨?_, q2, q3, q4, q5, q6⟩
      obtain ⟨t, ht, -⟩ := State.frames_cons hr
      show ({ U with heap := s₂.heap, slotsUsed := s₂.slotsUsed } : State) = { U.setFrames U.frames with heap := s₂.heap, slotsUsed := s₂.slotsUsed }
      rw [State.setFrames_self ht]
    subst hg
    refine Or.inr ⟨q, ⟨(({ U with heap := s₂.heap, slotsUsed := s₂.slotsUsed } : State).setVm s₂.vm), Ls ++ L, c0 + mc, s0 + ms⟩,
      ⟨X.admits, X.cas, X.clock, X.frames, X.room, X.hears, X.method, X.code, (X.here.setHeapUsed s₂.heap s₂.slotsUsed).setVm hW'.alike, X.tail, State.WarmedH.trans X.warmed hW', X.limits, X.bytes, X.same.trans (hsame.setVm s.vm)⟩,
      ⟨g, mk, s₂, L, E, ce, rfl, rfl, hx, hce, hcv, hcl, rfl, hL, rfl, rfl⟩, ?_⟩
    show Steps p.tables e below _ (((({ U with heap := s₂.heap, slotsUsed := s₂.slotsUsed } : State).setVm s₂.vm).setTop g).pushFrame (.throwing q))
    rw [← hs₂]
    exact hsteps
end
variable {p : Program} {l : Launch} {e : Env} {R : Room} {s : State} {m : MethodId} {args : Array Value} {below : List Frame} {meth : Method} {c : Code} {T : State} {H : Heap} {locs : List Loc} {cells slots : Nat}
theorem vx_callVX (X : Stand p l e R s m args below meth c T locs cells slots) (hexec : p.tables.exec = Jvm.exec) {own C : String} {index : Nat} {y : MethodName} {bytes : ByteArray} {maxL : Nat} {ret : Option FieldType} {hh : List (Nat × Nat × Nat × Nat)}
    (hown : s.vm.findClass own = some m.cls) (hlink : (Cond.methodLink own index y).before args s = true) (hinst : (Cond.instanceMethod y).before args s = true) (hsel : (Cond.selects C y y).before args s = true)
    (hcode : (Cond.codeWith y bytes maxL ret hh).before args s = true) (hy : y.cls ≠ "java/lang/invoke/MethodHandle" ∧ y.cls ≠ "java/lang/invoke/VarHandle")
    {W9 : Nat} {Pre : Pt → Array Value → Prop} {Post : Pt → Array Value → Option Value → Pt → Prop} {PostX : Pt → Array Value → Addr → Pt → Prop} (hK : vx_Back l R p e below s args y 3 W9 Pre Post PostX)
    {b : Addr} {cellB : Cell} (hcell : T.heap[b]? = some cellB) (hobj : cellB.vm.isStatics = false) (hcls : s.vm.findClass C = some cellB.cls)
    {g : JFrame} (hg : g.method = m) (hsize : g.locals.size = c.maxLocals) {argsL rest : List Value} (hlen : ∀ sig, parseMethodDescriptor y.desc = some sig → argsL.length = sig.parameters.length)
    (hstack : g.stack = argsL.reverse ++ .ref b :: rest) (hW : 2 * g.monitorRoom + (rest.map fun v => v.category).sum ≤ W9) (hdg : decode c.code g.pc = .ok (.invokevirtual index, 3))
    (hpre : ∀ vm₁, s.WarmedH vm₁ → Pre ⟨T.setVm vm₁, locs, cells, slots⟩ (Value.ref b :: argsL).toArray) :
    (∃ (v : Option Value) (vm₁ : Vm) (B : Pt), s.WarmedH vm₁ ∧ Stand p l e R s m args below meth c B.U B.locs B.cells B.slots ∧ Post ⟨T.setVm vm₁, locs, cells, slots⟩ (Value.ref b :: argsL).toArray v B ∧
      ∀ target, Steps p.tables e below (B.U.setTop { g with pc := g.pc + 3, stack := v.toList ++ rest }) target → Steps p.tables e below (T.setTop g) target) ∨
    (∃ (q : Addr) (vm₁ : Vm) (B : Pt), s.WarmedH vm₁ ∧ Stand p l e R s m args below meth c B.U B.locs B.cells B.slots ∧ PostX ⟨T.setVm vm₁, locs, cells, slots⟩ (Value.ref b :: argsL).toArray q B ∧
      Steps p.tables e below (T.setTop g) ((B.U.setTop { g with stack := rest }).pushFrame (.throwing q))) := by
  obtain ⟨mk, methM, hnamed, hmethM, hstM, habM⟩ := Cond.instanceMethod_spec hinst
  obtain ⟨m8, methM', cM, hn8, hmethM', -, -, -, -, -, -, hsigM⟩ := Cond.codeWith_spec hcode
  cases Option.some.inj (hn8.symm.trans hnamed)
  cases hmethM.symm.trans hmethM'
  obtain ⟨c2, r2, m2, q1, q2, q3, q4, kP, hkP, hkPi⟩ := Cond.selects_spec hsel
  cases hcls.symm.trans q1
  cases (State.methodFound?_of_named hnamed hy).symm.trans q2
  cases hnamed.symm.trans q3
  have hselP : selectMethod e.platform s.vm cellB.cls mk = .method mk := by rw [Launch.admits_selectMethod X.admits]; exact q4
  obtain ⟨vm₁, X₁, hstep₁⟩ := X.invokevirtual hexec hown hlink hnamed hmethM hstM hkP hkPi hy (a := b) (cell := cellB) hcell
    (fun z h => by rw [h] at hobj; cases hobj) hselP hmethM habM hkP hkPi (g := g) hg (argsL := argsL) (rest := rest) (hlen _ hsigM) hstack hdg
  rcases hK m meth c ⟨T.setVm vm₁, locs, cells, slots⟩ { g with stack := rest } (.invokevirtual index) mk (Value.ref b :: argsL).toArray X₁ hg hsize hdg hW (X₁.named hnamed) (hpre vm₁ X₁.warmed) with ⟨v, B, X', hpost, hsteps⟩ | ⟨q, B, X', hpost, hsteps⟩
  · exact Or.inl ⟨v, vm₁, B, X₁.warmed, X', hpost, fun target h => hstep₁ _ fun acts => by rw [doInvoke_state]; exact hsteps.trans h⟩
  · exact Or.inr ⟨q, vm₁, B, X₁.warmed, X', hpost, hstep₁ _ fun acts => by rw [doInvoke_state]; exact hsteps⟩
theorem vx_callSX (X : Stand p l e R s m args below meth c T locs cells slots) (hexec : p.tables.exec = Jvm.exec) {own : String} {index : Nat} {y : MethodName} {bytes : ByteArray} {maxL : Nat} {ret : Option FieldType} {hh : List (Nat × Nat × Nat × Nat)}
    (hown : s.vm.findClass own = some m.cls) (hlink : (Cond.methodLink own index y).before args s = true) (hstat : (Cond.static y).before args s = true) (hinit : (Cond.initialized y.cls).before args s = true)
    (hcode : (Cond.codeWith y bytes maxL ret hh).before args s = true) (hy : y.cls ≠ "java/lang/invoke/MethodHandle" ∧ y.cls ≠ "java/lang/invoke/VarHandle")
    {W9 : Nat} {Pre : Pt → Array Value → Prop} {Post : Pt → Array Value → Option Value → Pt → Prop} {PostX : Pt → Array Value → Addr → Pt → Prop} (hK : vx_Back l R p e below s args y 3 W9 Pre Post PostX)
    {g : JFrame} (hg : g.method = m) (hsize : g.locals.size = c.maxLocals) {argsL rest : List Value} (hlen : ∀ sig, parseMethodDescriptor y.desc = some sig → argsL.length = sig.parameters.length)
    (hstack : g.stack = argsL.reverse ++ rest) (hW : 2 * g.monitorRoom + (rest.map fun v => v.category).sum ≤ W9) (hdg : decode c.code g.pc = .ok (.invokestatic index, 3))
    (hpre : ∀ vm₁, s.WarmedH vm₁ → Pre ⟨T.setVm vm₁, locs, cells, slots⟩ argsL.toArray) :
    (∃ (v : Option Value) (vm₁ : Vm) (B : Pt), s.WarmedH vm₁ ∧ Stand p l e R s m args below meth c B.U B.locs B.cells B.slots ∧ Post ⟨T.setVm vm₁, locs, cells, slots⟩ argsL.toArray v B ∧
      ∀ target, Steps p.tables e below (B.U.setTop { g with pc := g.pc + 3, stack := v.toList ++ rest }) target → Steps p.tables e below (T.setTop g) target) ∨
    (∃ (q : Addr) (vm₁ : Vm) (B : Pt), s.WarmedH vm₁ ∧ Stand p l e R s m args below meth c B.U B.locs B.cells B.slots ∧ PostX ⟨T.setVm vm₁, locs, cells, slots⟩ argsL.toArray q B ∧
      Steps p.tables e below (T.setTop g) ((B.U.setTop { g with stack := rest }).pushFrame (.throwing q))) := by
  obtain ⟨mk, methM, cM, hnamed, hmethM, -, -, -, -, -, -, hsigM⟩ := Cond.codeWith_spec hcode
  have hstatic : methM.isStatic = true := Cond.static_spec hnamed hmethM hstat
  obtain ⟨kP, hkP, -⟩ := className_of_methodNamed hnamed
  have hinitP : kP.init = .initialized := Cond.initialized_spec (findClass_of_methodNamed hnamed) hkP hinit
  obtain ⟨vm₁, X₁, hstep₁⟩ := X.invokestatic hexec hown hlink hnamed hmethM hstatic hkP hinitP hy (g := g) hg (argsL := argsL) (rest := rest) (hlen _ hsigM) hstack hdg
  rcases hK m meth c ⟨T.setVm vm₁, locs, cells, slots⟩ { g with stack := rest } (.invokestatic index) mk argsL.toArray X₁ hg hsize hdg hW (X₁.named hnamed) (hpre vm₁ X₁.warmed) with ⟨v, B, X', hpost, hsteps⟩ | ⟨q, B, X', hpost, hsteps⟩
  · exact Or.inl ⟨v, vm₁, B, X₁.warmed, X', hpost, fun target h => hstep₁ _ fun acts => by rw [doInvoke_state]; exact hsteps.trans h⟩
  · exact Or.inr ⟨q, vm₁, B, X₁.warmed, X', hpost, hstep₁ _ fun acts => by rw [doInvoke_state]; exact hsteps⟩
theorem vx_callVW (X : Stand p l e R s m args below meth c T locs cells slots) (hexec : p.tables.exec = Jvm.exec) {own C : String} {index : Nat} {y : MethodName} {bytes : ByteArray} {maxL : Nat} {ret : Option FieldType} {hh : List (Nat × Nat × Nat × Nat)}
    (hown : s.vm.findClass own = some m.cls) (hlink : (Cond.methodLink own index y).before args s = true) (hinst : (Cond.instanceMethod y).before args s = true) (hsel : (Cond.selects C y y).before args s = true)
    (hcode : (Cond.codeWith y bytes maxL ret hh).before args s = true) (hy : y.cls ≠ "java/lang/invoke/MethodHandle" ∧ y.cls ≠ "java/lang/invoke/VarHandle")
    {W9 : Nat} {Pre : Pt → Array Value → Prop} {Post : Pt → Array Value → Option Value → Pt → Prop} (hK : Back l R p e below s args y 3 W9 Pre Post)
    {b : Addr} {cellB : Cell} (hcell : T.heap[b]? = some cellB) (hobj : cellB.vm.isStatics = false) (hcls : s.vm.findClass C = some cellB.cls)
    {g : JFrame} (hg : g.method = m) (hsize : g.locals.size = c.maxLocals) {argsL rest : List Value} (hlen : ∀ sig, parseMethodDescriptor y.desc = some sig → argsL.length = sig.parameters.length)
    (hstack : g.stack = argsL.reverse ++ .ref b :: rest) (hW : 2 * g.monitorRoom + (rest.map fun v => v.category).sum ≤ W9) (hdg : decode c.code g.pc = .ok (.invokevirtual index, 3))
    (hpre : ∀ vm₁, s.WarmedH vm₁ → Pre ⟨T.setVm vm₁, locs, cells, slots⟩ (Value.ref b :: argsL).toArray) :
    ∃ (v : Option Value) (vm₁ : Vm) (B : Pt), s.WarmedH vm₁ ∧ Stand p l e R s m args below meth c B.U B.locs B.cells B.slots ∧ Post ⟨T.setVm vm₁, locs, cells, slots⟩ (Value.ref b :: argsL).toArray v B ∧
      ∀ target, Steps p.tables e below (B.U.setTop { g with pc := g.pc + 3, stack := v.toList ++ rest }) target → Steps p.tables e below (T.setTop g) target := by
  obtain ⟨mk, methM, hnamed, hmethM, hstM, habM⟩ := Cond.instanceMethod_spec hinst
  obtain ⟨m8, methM', cM, hn8, hmethM', -, -, -, -, -, -, hsigM⟩ := Cond.codeWith_spec hcode
  cases Option.some.inj (hn8.symm.trans hnamed)
  cases hmethM.symm.trans hmethM'
  obtain ⟨c2, r2, m2, q1, q2, q3, q4, kP, hkP, hkPi⟩ := Cond.selects_spec hsel
  cases hcls.symm.trans q1
  cases (State.methodFound?_of_named hnamed hy).symm.trans q2
  cases hnamed.symm.trans q3
  have hselP : selectMethod e.platform s.vm cellB.cls mk = .method mk := by rw [Launch.admits_selectMethod X.admits]; exact q4
  obtain ⟨vm₁, X₁, hstep₁⟩ := X.invokevirtual hexec hown hlink hnamed hmethM hstM hkP hkPi hy (a := b) (cell := cellB) hcell
    (fun z h => by rw [h] at hobj; cases hobj) hselP hmethM habM hkP hkPi (g := g) hg (argsL := argsL) (rest := rest) (hlen _ hsigM) hstack hdg
  obtain ⟨v, B, X', hpost, hsteps⟩ := hK m meth c ⟨T.setVm vm₁, locs, cells, slots⟩ { g with stack := rest } (.invokevirtual index) mk (Value.ref b :: argsL).toArray X₁ hg hsize hdg hW (X₁.named hnamed) (hpre vm₁ X₁.warmed)
  exact ⟨v, vm₁, B, X₁.warmed, X', hpost, fun target h => hstep₁ _ fun acts => by rw [doInvoke_state]; exact hsteps.trans h⟩
abbrev vx_CVW (R : Room) (s : State) (args : Array Value) (own C : String) (index : Nat) (y : MethodName) (bytes : ByteArray) (maxL : Nat) (ret : Option FieldType) (hh : List (Nat × Nat × Nat × Nat)) (ws : List Cond) (rm : Room) (mc ms n : Nat) : Prop :=
  (rm.cells = mc ∧ rm.slots = ms ∧ rm.frames + 1 ≤ R.frames ∧ 8 + (maxL + 11) + rm.locals ≤ R.locals ∧ (∀ w ∈ ws, ∀ (a' : Array Value) (U : State), s.WarmedH U.vm → w.before a' U = true) ∧ Cond.codeWith y bytes maxL ret hh ∈ ws) ∧
  (Cond.codeWith y bytes maxL ret hh).before args s = true ∧ (Cond.initialized y.cls).before args s = true ∧ (y.cls ≠ "java/lang/invoke/MethodHandle" ∧ y.cls ≠ "java/lang/invoke/VarHandle") ∧
  (∀ sig, parseMethodDescriptor y.desc = some sig → n = sig.parameters.length) ∧ (Cond.methodLink own index y).before args s = true ∧ (Cond.instanceMethod y).before args s = true ∧ (Cond.selects C y y).before args s = true
theorem vx_cwVW {own C : String} {index maxL mc ms : Nat} {y : MethodName} {bytes : ByteArray} {ret : Option FieldType} {hh : List (Nat × Nat × Nat × Nat)} {Ts ws ws' : List Cond} {rm : Room} (n : Nat) (ht : ∀ w ∈ Ts, w.before args s = true) (hT : GoodIn Ts (wsV own index C y ws)) (hw : ws = Cond.codeWith y bytes maxL ret hh :: ws') (hrc : rm.cells = mc) (hrs : rm.slots = ms)
    (hd : y.cls = C ∧ y.cls ≠ "java/lang/invoke/MethodHandle" ∧ y.cls ≠ "java/lang/invoke/VarHandle" ∧ (parseMethodDescriptor y.desc).map (fun d => d.parameters.length) = some n) (hR : rm.frames + 1 ≤ R.frames ∧ 8 + (maxL + 11) + rm.locals ≤ R.locals) :
    vx_CVW R s args own C index y bytes maxL ret hh ws rm mc ms n := by
  obtain ⟨hC, hd⟩ := hd
  subst hC
  have ok : ∀ w ∈ wsV own index y.cls y ws, w.before args s = true := fun w h => ht w (hT w h).1
  have hG : GoodIn Ts ws := fun w h => hT w (by unfold wsV; exact List.mem_append_right _ h)
  have hc : Cond.codeWith y bytes maxL ret hh ∈ ws := by rw [hw]; exact List.mem_cons_self
  refine ⟨⟨hrc, hrs, hR.1, hR.2, pay_in ht hG, hc⟩, ht _ (hG _ hc).1, ok _ (by simp [wsV]), ⟨hd.1, hd.2.1⟩, fun sig h => ?_, ok _ (by simp [wsV]), ok _ (by simp [wsV]), ok _ (by simp [wsV])⟩
  have h2 := hd.2.2
  rw [h] at h2
  exact (Option.some.inj h2).symm
theorem vx_runVW {y : MethodName} {bytes cc : ByteArray} {maxL nL mc ms n index : Nat} {ret : Option FieldType} {hh : List (Nat × Nat × Nat × Nat)} {ws : List Cond} {rm : Room} {Pc : Array Value → State → Prop} {Qc : Array Value → State → Outcome → State → Prop} {free : Addr → Prop} {Ts : List Cond} {own C : String} {b : Addr} {As rest : List Value} {g : JFrame}
    (S : CallFix p m c cc nL s args Ts own) (hM : Met l y ws rm Pc Qc mc ms free) (cw : vx_CVW R s args own C index y bytes maxL ret hh ws rm mc ms n) (hp : PreV s H C b Pc As)
    (hg : g.method = m) (hn : As.length = n) (hsize : g.locals.size = nL) (hstack : g.stack = As.reverse ++ .ref b :: rest) (hW : 2 * g.monitorRoom + (rest.map fun v => v.category).sum ≤ 8) (hdg : decode cc g.pc = .ok (.invokevirtual index, 3)) (hf : cells + mc ≤ R.cells ∧ slots + ms ≤ R.slots) :
    va_Run p l e R s m args below meth c H locs cells slots mc ms g rest (Qc (Value.ref b :: As).toArray) free := by
  obtain ⟨⟨hrc, hrs, hfr, hlo, hws, hcw⟩, hcode, hini, hy, hlen, hl, hin, hse⟩ := cw
  have hK : Back l R p e below s args y 3 8 (PreOf R mc ms Pc) (PostOf Qc mc ms free) := va_backW (hh := hh) (bytes := bytes) (maxL := maxL) (ret := ret) hM hp.1 hrc hrs hfr hlo hws hcw (fun a' U hW => word_at hW (Or.inl (by first | rfl | simp [Cond.onTables, Cond.keeps, Cond.steady])) hini)
  obtain ⟨hx, hb, hml, ho, -⟩ := S
  obtain ⟨-, ⟨cellB, hcB, hoB, hclB⟩, hPc⟩ := hp
  intro T hT X
  obtain ⟨v, vm₁, ⟨U', l2, c2, s2⟩, hW₁, X', ⟨g', mk, t, L, e1, e2, hq, h1, hL, h2, h3⟩, st⟩ := vx_callVW X hx (C := C) (hh := hh) (bytes := bytes) (maxL := maxL) (ret := ret) ho hl hin hse hcode hy hK (by rw [hT]; exact hcB) hoB hclB hg (hsize.trans hml.symm) (argsL := As) (rest := rest) (fun sig h => hn.trans (hlen sig h)) hstack hW (by rw [hb]; exact hdg)
    (fun vm₁ hW₁ => ⟨hf.1, hf.2, hPc (T.setVm vm₁) hT hW₁⟩)
  dsimp only [Pt.U, Pt.locs, Pt.cells, Pt.slots] at X' e1 e2 h1 h2 h3 st
  subst h1; subst h2; subst h3
  exact ⟨v, (T.setVm vm₁).calling g' mk (Value.ref b :: As).toArray, t, U', L, hT, X', hL, e1, e2, hq, st⟩
section
variable {y : MethodName} {bytes cc : ByteArray} {maxL nL mc ms n index : Nat} {ret : Option FieldType} {ws : List Cond} {rm : Room} {Pc : Array Value → State → Prop} {Qc : Array Value → State → Outcome → State → Prop} {XC : String → State → State → Prop} {free : Addr → Prop} {Ts : List Cond} {own C : String} {b : Addr} {As rest : List Value} {g : JFrame}
theorem vx_runVX {hh : List (Nat × Nat × Nat × Nat)} (S : CallFix p m c cc nL s args Ts own) (hM : vx_Met l y ws rm Pc Qc XC mc ms free) (cw : vx_CVW R s args own C index y bytes maxL ret hh ws rm mc ms n) (hp : PreV s H C b Pc As)
    (hg : g.method = m) (hn : As.length = n) (hsize : g.locals.size = nL) (hstack : g.stack = As.reverse ++ .ref b :: rest) (hW : 2 * g.monitorRoom + (rest.map fun v => v.category).sum ≤ 8) (hdg : decode cc g.pc = .ok (.invokevirtual index, 3)) (hf : cells + mc ≤ R.cells ∧ slots + ms ≤ R.slots) :
    vx_Run p l e R s m args below meth c H locs cells slots mc ms g rest (Qc (Value.ref b :: As).toArray) XC free := by
  obtain ⟨⟨hrc, hrs, hfr, hlo, hws, hcw⟩, hcode, hini, hy, hlen, hl, hin, hse⟩ := cw
  have hK : vx_Back l R p e below s args y 3 8 (PreOf R mc ms Pc) (PostOf Qc mc ms free) (vx_Post XC mc ms free) := vx_backW (hh := hh) (bytes := bytes) (maxL := maxL) (ret := ret) hM hp.1 hrc hrs hfr hlo hws hcw (fun a' U hW => word_at hW (Or.inl (by first | rfl | simp [Cond.onTables, Cond.keeps, Cond.steady])) hini)
  obtain ⟨hx, hb, hml, ho, -⟩ := S
  obtain ⟨-, ⟨cellB, hcB, hoB, hclB⟩, hPc⟩ := hp
  intro T hT X
  rcases vx_callVX X hx (C := C) (hh := hh) (bytes := bytes) (maxL := maxL) (ret := ret) ho hl hin hse hcode hy hK (by rw [hT]; exact hcB) hoB hclB hg (hsize.trans hml.symm) (argsL := As) (rest := rest) (fun sig h => hn.trans (hlen sig h)) hstack hW (by rw [hb]; exact hdg)
    (fun vm₁ hW₁ => ⟨hf.1, hf.2, hPc (T.setVm vm₁) hT hW₁⟩) with ⟨v, vm₁, ⟨U', l2, c2, s2⟩, hW₁, X', ⟨g', mk, t, L, e1, e2, hq, h1, hL, h2, h3⟩, st⟩ | ⟨q, vm₁, ⟨U', l2, c2, s2⟩, hW₁, X', ⟨g', mk, t, L, E, ce, e1, e2, hq, hce, hcv, hcl, h1, hL, h2, h3⟩, st⟩
  · dsimp only [Pt.U, Pt.locs, Pt.cells, Pt.slots] at X' e1 e2 h1 h2 h3 st
    subst h1; subst h2; subst h3
    exact Or.inl ⟨v, (T.setVm vm₁).calling g' mk (Value.ref b :: As).toArray, t, U', L, hT, X', hL, e1, e2, hq, st⟩
  · dsimp only [Pt.U, Pt.locs, Pt.cells, Pt.slots] at X' e1 e2 h1 h2 h3 st hcl
    subst h1; subst h2; subst h3
    exact Or.inr ⟨q, (T.setVm vm₁).calling g' mk (Value.ref b :: As).toArray, t, U', L, E, ce, hT, X', hL, e1, e2, hq, hce, hcv, vx_cls hW₁ hcl, st⟩
theorem vx_runSX {hh : List (Nat × Nat × Nat × Nat)} (S : CallFix p m c cc nL s args Ts own) (hM : vx_Met l y ws rm Pc Qc XC mc ms free) (cw : vx_CSW R s args own index y bytes maxL ret hh ws rm mc ms n) (hp : PreS s H Pc As)
    (hg : g.method = m) (hn : As.length = n) (hsize : g.locals.size = nL) (hstack : g.stack = As.reverse ++ rest) (hW : 2 * g.monitorRoom + (rest.map fun v => v.category).sum ≤ 8) (hdg : decode cc g.pc = .ok (.invokestatic index, 3)) (hf : cells + mc ≤ R.cells ∧ slots + ms ≤ R.slots) :
    vx_Run p l e R s m args below meth c H locs cells slots mc ms g rest (Qc As.toArray) XC free := by
  obtain ⟨⟨hrc, hrs, hfr, hlo, hws, hcw⟩, hcode, hini, hy, hlen, hl, hstt⟩ := cw
  have hK : vx_Back l R p e below s args y 3 8 (PreOf R mc ms Pc) (PostOf Qc mc ms free) (vx_Post XC mc ms free) := vx_backW (hh := hh) (bytes := bytes) (maxL := maxL) (ret := ret) hM hp.1 hrc hrs hfr hlo hws hcw (fun a' U hW => word_at hW (Or.inl (by first | rfl | simp [Cond.onTables, Cond.keeps, Cond.steady])) hini)
  obtain ⟨hx, hb, hml, ho, -⟩ := S
  intro T hT X
  rcases vx_callSX X hx (hh := hh) (bytes := bytes) (maxL := maxL) (ret := ret) ho hl hstt hini hcode hy hK hg (hsize.trans hml.symm) (argsL := As) (rest := rest) (fun sig h => hn.trans (hlen sig h)) hstack hW (by rw [hb]; exact hdg)
    (fun vm₁ hW₁ => ⟨hf.1, hf.2, hp.2 (T.setVm vm₁) hT hW₁⟩) with ⟨v, vm₁, ⟨U', l2, c2, s2⟩, hW₁, X', ⟨g', mk, t, L, e1, e2, hq, h1, hL, h2, h3⟩, st⟩ | ⟨q, vm₁, ⟨U', l2, c2, s2⟩, hW₁, X', ⟨g', mk, t, L, E, ce, e1, e2, hq, hce, hcv, hcl, h1, hL, h2, h3⟩, st⟩
  · dsimp only [Pt.U, Pt.locs, Pt.cells, Pt.slots] at X' e1 e2 h1 h2 h3 st
    subst h1; subst h2; subst h3
    exact Or.inl ⟨v, (T.setVm vm₁).calling g' mk As.toArray, t, U', L, hT, X', hL, e1, e2, hq, st⟩
  · dsimp only [Pt.U, Pt.locs, Pt.cells, Pt.slots] at X' e1 e2 h1 h2 h3 st hcl
    subst h1; subst h2; subst h3
    exact Or.inr ⟨q, (T.setVm vm₁).calling g' mk As.toArray, t, U', L, E, ce, hT, X', hL, e1, e2, hq, hce, hcv, vx_cls hW₁ hcl, st⟩
end
end VXH
theorem vx_ofWH {l : Launch} {y : MethodName} {ws ws' : List Cond} {rm : Room} {Pc : Array Value → State → Prop} {Qc : Array Value → State → Outcome → State → Prop} {XC : String → State → State → Prop} {mc ms : Nat} {free : Addr → Prop} {cc : ByteArray} {maxL : Nat} {ret : Option FieldType} {hh : List (Nat × Nat × Nat × Nat)}
    (hy : plainName y.cls = true) (hw : ws = Cond.codeWith y cc maxL ret hh :: ws')
    (body : ∀ p e s m args below meth c s₁, BodyLoose p l y (headSpec ws rm) cc maxL ret e s m args below meth c s₁ → c.maxLocals = maxL → Pc args s →
      W p l e (headSpec ws rm).room s m args below meth c s.heap [] 0 0 (vx_MQ below Qc XC args s mc ms free) (entryFrame m args maxL)) : vx_Met l y ws rm Pc Qc XC mc ms free := by
  refine MetFree.of_bodyS (code := cc) (maxLocals := maxL) (ret := ret) hy ?_ ?_
  · intro args s m h hn
    obtain ⟨m9, meth, c, hn9, h1, h2, h3, h4, -, h5, h6, -⟩ := Cond.codeWith_spec (atoms_spec (ws := ws) h _ (by rw [hw]; exact List.mem_cons_self))
    cases hn.symm.trans hn9
    exact ⟨meth, c, h1, h2, h3, h4, h5, h6⟩
  · intro p e s m args below meth c s₁ B hml hP _
    have hh0 : s₁.heap = s.heap := by rw [B.state]; rfl
    obtain ⟨t, a1, o, b1, b2, b3⟩ := body p e s m args below meth c s₁ B hml hP s₁ hh0 (Stand.of_body B)
    exact ⟨t, o, a1, b1, b2, b3⟩
/-! ===== END ===== -/
end
section
/-! ===== BEGIN printed: names, fields, word lists, decode rows ===== -/
def RX0 : String := "SlipLevels$Binder"
def TX0 : u_T := fun k => match k with
  | 0 => ("SlipLevels$Binder", "rows", "[LSlipLevels$Slips;", true)
  | 1 => ("SlipLevels$Binder", "runs", "[I", true)
  | 2 => ("SlipLevels$Binder", "merged", "LSlipLevels$Slips;", true)
  | 3 => ("SlipLevels$Binder", "moves", "I", false)
  | _ => ("SlipLevels$Binder", "mergings", "I", false)
def tyX0 : Nat → FieldType := fun k => match k with
  | 0 => .array (.object "SlipLevels$Slips")
  | 1 => .array .int
  | 2 => .object "SlipLevels$Slips"
  | 3 => .int
  | _ => .int
abbrev wsX00 : List Cond := u_ws RX0 TX0 5
theorem nmX0 : ∀ a, a < 5 → ∀ b, b < 5 → a ≠ b → (TX0 a).2.1 ≠ (TX0 b).2.1 := by decide +kernel
theorem tyX0_ok : ∀ k, k < 5 → parseFieldDescriptor (TX0 k).2.2.1 = some (tyX0 k) := by decide +kernel
abbrev cX0_init : ByteArray := prog_2_method_1_code
def yX0_init : MethodName := ⟨RX0, "<init>", "()V"⟩
abbrev cX0_moves : ByteArray := prog_2_method_2_code
def yX0_moves : MethodName := ⟨RX0, "moves", "()I"⟩
abbrev cX0_mergings : ByteArray := prog_2_method_3_code
def yX0_mergings : MethodName := ⟨RX0, "mergings", "()I"⟩
abbrev cX0_runsOf : ByteArray := prog_2_method_4_code
def yX0_runsOf : MethodName := ⟨RX0, "runsOf", "(I)I"⟩
abbrev cX0_runAt : ByteArray := prog_2_method_5_code
def yX0_runAt : MethodName := ⟨RX0, "runAt", "(II)LSlipLevels$Slips;"⟩
abbrev cX0_rowAt : ByteArray := prog_2_method_6_code
def yX0_rowAt : MethodName := ⟨RX0, "rowAt", "(II)LSlipLevels$Slips;"⟩
abbrev cX0_slipsOf : ByteArray := prog_2_method_7_code
def yX0_slipsOf : MethodName := ⟨RX0, "slipsOf", "(I)I"⟩
abbrev cX0_tombsOf : ByteArray := prog_2_method_8_code
def yX0_tombsOf : MethodName := ⟨RX0, "tombsOf", "(I)I"⟩
abbrev cX0_slips : ByteArray := prog_2_method_9_code
def yX0_slips : MethodName := ⟨RX0, "slips", "()I"⟩
abbrev cX0_firstWordIn : ByteArray := prog_2_method_10_code
def yX0_firstWordIn : MethodName := ⟨RX0, "firstWordIn", "(II)I"⟩
abbrev cX0_firstWord : ByteArray := prog_2_method_11_code
def yX0_firstWord : MethodName := ⟨RX0, "firstWord", "(I)I"⟩
abbrev cX0_isFirst : ByteArray := prog_2_method_12_code
def yX0_isFirst : MethodName := ⟨RX0, "isFirst", "(III)Z"⟩
abbrev cX0_detoursTo : ByteArray := prog_2_method_13_code
def yX0_detoursTo : MethodName := ⟨RX0, "detoursTo", "(I)I"⟩
abbrev cX0_settle : ByteArray := prog_2_method_14_code
def yX0_settle : MethodName := ⟨RX0, "settle", "()V"⟩
abbrev cX0_mergeLevel : ByteArray := prog_2_method_15_code
def yX0_mergeLevel : MethodName := ⟨RX0, "mergeLevel", "(I)V"⟩
abbrev cX0_nothingBehind : ByteArray := prog_2_method_16_code
def yX0_nothingBehind : MethodName := ⟨RX0, "nothingBehind", "(I)Z"⟩
abbrev cX0_gather : ByteArray := prog_2_method_17_code
def yX0_gather : MethodName := ⟨RX0, "gather", "(IZ)V"⟩
abbrev cX0_addRun : ByteArray := prog_2_method_18_code
def yX0_addRun : MethodName := ⟨RX0, "addRun", "(ILSlipLevels$Slips;)V"⟩
abbrev cX0_copyRuns : ByteArray := prog_2_method_19_code
def yX0_copyRuns : MethodName := ⟨RX0, "copyRuns", "(LSlipLevels$Binder;)V"⟩
def RX1 : String := "SlipLevels$Slips"
def TX1 : u_T := fun k => match k with
  | 0 => ("SlipLevels$Slips", "words", "[I", true)
  | 1 => ("SlipLevels$Slips", "size", "I", false)
  | 2 => ("SlipLevels$Slips", "tombs", "I", false)
  | 3 => ("SlipLevels$Slips", "least", "I", false)
  | 4 => ("SlipLevels$Slips", "greatest", "I", false)
  | _ => ("SlipLevels$Slips", "sieve", "I", false)
def tyX1 : Nat → FieldType := fun k => match k with
  | 0 => .array .int
  | 1 => .int
  | 2 => .int
  | 3 => .int
  | 4 => .int
  | _ => .int
abbrev wsX10 : List Cond := u_ws RX1 TX1 6
theorem nmX1 : ∀ a, a < 6 → ∀ b, b < 6 → a ≠ b → (TX1 a).2.1 ≠ (TX1 b).2.1 := by decide +kernel
theorem tyX1_ok : ∀ k, k < 6 → parseFieldDescriptor (TX1 k).2.2.1 = some (tyX1 k) := by decide +kernel
abbrev cX1_init : ByteArray := prog_3_method_1_code
def yX1_init : MethodName := ⟨RX1, "<init>", "()V"⟩
abbrev cX1_clear : ByteArray := prog_3_method_2_code
def yX1_clear : MethodName := ⟨RX1, "clear", "()V"⟩
abbrev cX1_copy : ByteArray := prog_3_method_3_code
def yX1_copy : MethodName := ⟨RX1, "copy", "(LSlipLevels$Slips;)V"⟩
abbrev cX1_put : ByteArray := prog_3_method_4_code
def yX1_put : MethodName := ⟨RX1, "put", "(II)V"⟩
abbrev cX1_size : ByteArray := prog_3_method_5_code
def yX1_size : MethodName := ⟨RX1, "size", "()I"⟩
abbrev cX1_tombs : ByteArray := prog_3_method_6_code
def yX1_tombs : MethodName := ⟨RX1, "tombs", "()I"⟩
abbrev cX1_wordAt : ByteArray := prog_3_method_7_code
def yX1_wordAt : MethodName := ⟨RX1, "wordAt", "(I)I"⟩
abbrev cX1_has : ByteArray := prog_3_method_8_code
def yX1_has : MethodName := ⟨RX1, "has", "(I)Z"⟩
abbrev cX1_opensFor : ByteArray := prog_3_method_9_code
def yX1_opensFor : MethodName := ⟨RX1, "opensFor", "(I)Z"⟩
abbrev cX1_numberAt : ByteArray := prog_3_method_10_code
def yX1_numberAt : MethodName := ⟨RX1, "numberAt", "(I)I"⟩
abbrev cX1_told : ByteArray := prog_3_method_11_code
def yX1_told : MethodName := ⟨RX1, "told", "(I)I"⟩
abbrev cX1_fact : ByteArray := prog_3_method_12_code
def yX1_fact : MethodName := ⟨RX1, "fact", "(I)I"⟩
def RX2 : String := "SlipLevels"
def TX2 : u_T := fun k => match k with
  | 0 => ("SlipLevels", "deskSlips", "LSlipLevels$Slips;", true)
  | 1 => ("SlipLevels", "binder", "LSlipLevels$Binder;", true)
  | 2 => ("SlipLevels", "trial", "LSlipLevels$Binder;", true)
  | 3 => ("SlipLevels", "deskRoom", "I", false)
  | _ => ("SlipLevels", "detoursRead", "I", false)
def tyX2 : Nat → FieldType := fun k => match k with
  | 0 => .object "SlipLevels$Slips"
  | 1 => .object "SlipLevels$Binder"
  | 2 => .object "SlipLevels$Binder"
  | 3 => .int
  | _ => .int
abbrev wsX20 : List Cond := u_ws RX2 TX2 5
theorem nmX2 : ∀ a, a < 5 → ∀ b, b < 5 → a ≠ b → (TX2 a).2.1 ≠ (TX2 b).2.1 := by decide +kernel
theorem tyX2_ok : ∀ k, k < 5 → parseFieldDescriptor (TX2 k).2.2.1 = some (tyX2 k) := by decide +kernel
abbrev cX2_init : ByteArray := prog_1_method_1_code
def yX2_init : MethodName := ⟨RX2, "<init>", "()V"⟩
abbrev cX2_write : ByteArray := prog_1_method_2_code
def yX2_write : MethodName := ⟨RX2, "write", "(II)Z"⟩
abbrev cX2_strike : ByteArray := prog_1_method_3_code
def yX2_strike : MethodName := ⟨RX2, "strike", "(I)Z"⟩
abbrev cX2_bind : ByteArray := prog_1_method_4_code
def yX2_bind : MethodName := ⟨RX2, "bind", "()I"⟩
abbrev cX2_merge : ByteArray := prog_1_method_5_code
def yX2_merge : MethodName := ⟨RX2, "merge", "(I)I"⟩
abbrev cX2_setRoom : ByteArray := prog_1_method_6_code
def yX2_setRoom : MethodName := ⟨RX2, "setRoom", "(I)I"⟩
abbrev cX2_read : ByteArray := prog_1_method_7_code
def yX2_read : MethodName := ⟨RX2, "read", "(I)I"⟩
abbrev cX2_detours : ByteArray := prog_1_method_8_code
def yX2_detours : MethodName := ⟨RX2, "detours", "(I)I"⟩
abbrev cX2_next : ByteArray := prog_1_method_9_code
def yX2_next : MethodName := ⟨RX2, "next", "(I)I"⟩
abbrev cX2_sum : ByteArray := prog_1_method_10_code
def yX2_sum : MethodName := ⟨RX2, "sum", "(II)I"⟩
abbrev cX2_run : ByteArray := prog_1_method_11_code
def yX2_run : MethodName := ⟨RX2, "run", "(III)I"⟩
abbrev cX2_slip : ByteArray := prog_1_method_12_code
def yX2_slip : MethodName := ⟨RX2, "slip", "(III)I"⟩
abbrev cX2_desk : ByteArray := prog_1_method_13_code
def yX2_desk : MethodName := ⟨RX2, "desk", "(I)I"⟩
abbrev cX2_level : ByteArray := prog_1_method_14_code
def yX2_level : MethodName := ⟨RX2, "level", "(II)I"⟩
abbrev cX2_count : ByteArray := prog_1_method_15_code
def yX2_count : MethodName := ⟨RX2, "count", "(I)I"⟩
abbrev cX2_spares : ByteArray := prog_1_method_16_code
def yX2_spares : MethodName := ⟨RX2, "spares", "(I)I"⟩
abbrev cX2_advise : ByteArray := prog_1_method_17_code
def yX2_advise : MethodName := ⟨RX2, "advise", "()I"⟩
abbrev cX2_mean : ByteArray := prog_1_method_18_code
def yX2_mean : MethodName := ⟨RX2, "mean", "()D"⟩
abbrev cX2_digest : ByteArray := prog_1_method_19_code
def yX2_digest : MethodName := ⟨RX2, "digest", "()J"⟩
abbrev cX2_needNumber : ByteArray := prog_1_method_20_code
def yX2_needNumber : MethodName := ⟨RX2, "needNumber", "(I)V"⟩
abbrev cX2_needLevel : ByteArray := prog_1_method_21_code
def yX2_needLevel : MethodName := ⟨RX2, "needLevel", "(I)V"⟩
abbrev cX2_slipAt : ByteArray := prog_1_method_22_code
def yX2_slipAt : MethodName := ⟨RX2, "slipAt", "(LSlipLevels$Slips;I)I"⟩
abbrev cX2_bindFrom : ByteArray := prog_1_method_23_code
def yX2_bindFrom : MethodName := ⟨RX2, "bindFrom", "(I)I"⟩
abbrev cX2_wordOf : ByteArray := prog_1_method_24_code
def yX2_wordOf : MethodName := ⟨RX2, "wordOf", "(I)I"⟩
abbrev cX2_detoursIn : ByteArray := prog_1_method_25_code
def yX2_detoursIn : MethodName := ⟨RX2, "detoursIn", "(LSlipLevels$Binder;I)I"⟩
abbrev cX2_allDetoursIn : ByteArray := prog_1_method_26_code
def yX2_allDetoursIn : MethodName := ⟨RX2, "allDetoursIn", "(LSlipLevels$Binder;)I"⟩
abbrev cX2_standingIn : ByteArray := prog_1_method_27_code
def yX2_standingIn : MethodName := ⟨RX2, "standingIn", "(II)I"⟩
abbrev cX2_wordsStanding : ByteArray := prog_1_method_28_code
def yX2_wordsStanding : MethodName := ⟨RX2, "wordsStanding", "()I"⟩
abbrev cX2_tally : ByteArray := prog_1_method_29_code
def yX2_tally : MethodName := ⟨RX2, "tally", "(I)I"⟩
abbrev cX2_tryMerging : ByteArray := prog_1_method_30_code
def yX2_tryMerging : MethodName := ⟨RX2, "tryMerging", "(I)V"⟩
abbrev cX2_digestLevel : ByteArray := prog_1_method_31_code
def yX2_digestLevel : MethodName := ⟨RX2, "digestLevel", "(JI)J"⟩
abbrev cX2_digestSlips : ByteArray := prog_1_method_32_code
def yX2_digestSlips : MethodName := ⟨RX2, "digestSlips", "(JLSlipLevels$Slips;)J"⟩
def RX3 : String := "SlipLevelsModel"
def TX3 : u_T := fun k => match k with
  | 0 => ("SlipLevelsModel", "thrown", "I", false)
  | 1 => ("SlipLevelsModel", "desk", "[I", false)
  | 2 => ("SlipLevelsModel", "levels", "[[[I", false)
  | _ => ("SlipLevelsModel", "numbers", "[I", false)
def tyX3 : Nat → FieldType := fun k => match k with
  | 0 => .int
  | 1 => .array .int
  | 2 => .array (.array (.array .int))
  | _ => .array .int
abbrev wsX30 : List Cond := u_ws RX3 TX3 4
theorem nmX3 : ∀ a, a < 4 → ∀ b, b < 4 → a ≠ b → (TX3 a).2.1 ≠ (TX3 b).2.1 := by decide +kernel
theorem tyX3_ok : ∀ k, k < 4 → parseFieldDescriptor (TX3 k).2.2.1 = some (tyX3 k) := by decide +kernel
abbrev cX3_init : ByteArray := prog_5_method_1_code
def yX3_init : MethodName := ⟨RX3, "<init>", "()V"⟩
abbrev cX3_thrown : ByteArray := prog_5_method_2_code
def yX3_thrown : MethodName := ⟨RX3, "thrown", "()I"⟩
abbrev cX3_fail : ByteArray := prog_5_method_3_code
def yX3_fail : MethodName := ⟨RX3, "fail", "(I)I"⟩
abbrev cX3_isIn : ByteArray := prog_5_method_4_code
def yX3_isIn : MethodName := ⟨RX3, "isIn", "(III)Z"⟩
abbrev cX3_isNumber : ByteArray := prog_5_method_5_code
def yX3_isNumber : MethodName := ⟨RX3, "isNumber", "(I)Z"⟩
abbrev cX3_isLevel : ByteArray := prog_5_method_6_code
def yX3_isLevel : MethodName := ⟨RX3, "isLevel", "(I)Z"⟩
abbrev cX3_isRun : ByteArray := prog_5_method_7_code
def yX3_isRun : MethodName := ⟨RX3, "isRun", "(II)Z"⟩
abbrev cX3_empty : ByteArray := prog_5_method_8_code
def yX3_empty : MethodName := ⟨RX3, "empty", "()[I"⟩
abbrev cX3_size : ByteArray := prog_5_method_9_code
def yX3_size : MethodName := ⟨RX3, "size", "([I)I"⟩
abbrev cX3_tombs : ByteArray := prog_5_method_10_code
def yX3_tombs : MethodName := ⟨RX3, "tombs", "([I)I"⟩
abbrev cX3_end : ByteArray := prog_5_method_11_code
def yX3_end : MethodName := ⟨RX3, "end", "([III)I"⟩
abbrev cX3_isOpen : ByteArray := prog_5_method_12_code
def yX3_isOpen : MethodName := ⟨RX3, "isOpen", "([II)Z"⟩
abbrev cX3_come : ByteArray := prog_5_method_13_code
def yX3_come : MethodName := ⟨RX3, "come", "(I[I)V"⟩
abbrev cX3_mergeOne : ByteArray := prog_5_method_14_code
def yX3_mergeOne : MethodName := ⟨RX3, "mergeOne", "(I)V"⟩
abbrev cX3_settle : ByteArray := prog_5_method_15_code
def yX3_settle : MethodName := ⟨RX3, "settle", "()V"⟩
abbrev cX3_bound : ByteArray := prog_5_method_16_code
def yX3_bound : MethodName := ⟨RX3, "bound", "()I"⟩
abbrev cX3_put : ByteArray := prog_5_method_17_code
def yX3_put : MethodName := ⟨RX3, "put", "(II)Z"⟩
abbrev cX3_write : ByteArray := prog_5_method_18_code
def yX3_write : MethodName := ⟨RX3, "write", "(II)Z"⟩
abbrev cX3_strike : ByteArray := prog_5_method_19_code
def yX3_strike : MethodName := ⟨RX3, "strike", "(I)Z"⟩
abbrev cX3_bind : ByteArray := prog_5_method_20_code
def yX3_bind : MethodName := ⟨RX3, "bind", "()I"⟩
abbrev cX3_merge : ByteArray := prog_5_method_21_code
def yX3_merge : MethodName := ⟨RX3, "merge", "(I)I"⟩
abbrev cX3_setRoom : ByteArray := prog_5_method_22_code
def yX3_setRoom : MethodName := ⟨RX3, "setRoom", "(I)I"⟩
abbrev cX3_said : ByteArray := prog_5_method_23_code
def yX3_said : MethodName := ⟨RX3, "said", "(I)I"⟩
abbrev cX3_word : ByteArray := prog_5_method_24_code
def yX3_word : MethodName := ⟨RX3, "word", "(I)I"⟩
abbrev cX3_opened : ByteArray := prog_5_method_25_code
def yX3_opened : MethodName := ⟨RX3, "opened", "(I)I"⟩
abbrev cX3_read : ByteArray := prog_5_method_26_code
def yX3_read : MethodName := ⟨RX3, "read", "(I)I"⟩
abbrev cX3_detours : ByteArray := prog_5_method_27_code
def yX3_detours : MethodName := ⟨RX3, "detours", "(I)I"⟩
abbrev cX3_next : ByteArray := prog_5_method_28_code
def yX3_next : MethodName := ⟨RX3, "next", "(I)I"⟩
abbrev cX3_sum : ByteArray := prog_5_method_29_code
def yX3_sum : MethodName := ⟨RX3, "sum", "(II)I"⟩
abbrev cX3_standing : ByteArray := prog_5_method_30_code
def yX3_standing : MethodName := ⟨RX3, "standing", "(II)I"⟩
abbrev cX3_runTold : ByteArray := prog_5_method_31_code
def yX3_runTold : MethodName := ⟨RX3, "runTold", "(III)I"⟩
abbrev cX3_run : ByteArray := prog_5_method_32_code
def yX3_run : MethodName := ⟨RX3, "run", "(III)I"⟩
abbrev cX3_slipTold : ByteArray := prog_5_method_33_code
def yX3_slipTold : MethodName := ⟨RX3, "slipTold", "([II)I"⟩
abbrev cX3_slip : ByteArray := prog_5_method_34_code
def yX3_slip : MethodName := ⟨RX3, "slip", "(III)I"⟩
abbrev cX3_desk : ByteArray := prog_5_method_35_code
def yX3_desk : MethodName := ⟨RX3, "desk", "(I)I"⟩
abbrev cX3_levelTold : ByteArray := prog_5_method_36_code
def yX3_levelTold : MethodName := ⟨RX3, "levelTold", "(II)I"⟩
abbrev cX3_level : ByteArray := prog_5_method_37_code
def yX3_level : MethodName := ⟨RX3, "level", "(II)I"⟩
abbrev cX3_slips : ByteArray := prog_5_method_38_code
def yX3_slips : MethodName := ⟨RX3, "slips", "()I"⟩
abbrev cX3_counted : ByteArray := prog_5_method_39_code
def yX3_counted : MethodName := ⟨RX3, "counted", "(I)I"⟩
abbrev cX3_count : ByteArray := prog_5_method_40_code
def yX3_count : MethodName := ⟨RX3, "count", "(I)I"⟩
abbrev cX3_allOpened : ByteArray := prog_5_method_41_code
def yX3_allOpened : MethodName := ⟨RX3, "allOpened", "()I"⟩
abbrev cX3_tried : ByteArray := prog_5_method_42_code
def yX3_tried : MethodName := ⟨RX3, "tried", "(IZ)I"⟩
abbrev cX3_spares : ByteArray := prog_5_method_43_code
def yX3_spares : MethodName := ⟨RX3, "spares", "(I)I"⟩
abbrev cX3_advise : ByteArray := prog_5_method_44_code
def yX3_advise : MethodName := ⟨RX3, "advise", "()I"⟩
abbrev cX3_mean : ByteArray := prog_5_method_45_code
def yX3_mean : MethodName := ⟨RX3, "mean", "()D"⟩
abbrev cX3_digest : ByteArray := prog_5_method_46_code
def yX3_digest : MethodName := ⟨RX3, "digest", "()J"⟩
def RJx145de : String := "java/io/Serializable"
def TJx145de : u_T := fun k => match k with
  | _ => ("", "", "", false)
def tyJx145de : Nat → FieldType := fun k => match k with
  | _ => .int
abbrev wsJx145de0 : List Cond := u_ws RJx145de TJx145de 0
theorem nmJx145de : ∀ a, a < 0 → ∀ b, b < 0 → a ≠ b → (TJx145de a).2.1 ≠ (TJx145de b).2.1 := by decide +kernel
theorem tyJx145de_ok : ∀ k, k < 0 → parseFieldDescriptor (TJx145de k).2.2.1 = some (tyJx145de k) := by decide +kernel
def RJx8e188 : String := "java/lang/Cloneable"
def TJx8e188 : u_T := fun k => match k with
  | _ => ("", "", "", false)
def tyJx8e188 : Nat → FieldType := fun k => match k with
  | _ => .int
abbrev wsJx8e1880 : List Cond := u_ws RJx8e188 TJx8e188 0
theorem nmJx8e188 : ∀ a, a < 0 → ∀ b, b < 0 → a ≠ b → (TJx8e188 a).2.1 ≠ (TJx8e188 b).2.1 := by decide +kernel
theorem tyJx8e188_ok : ∀ k, k < 0 → parseFieldDescriptor (TJx8e188 k).2.2.1 = some (tyJx8e188 k) := by decide +kernel
def RJ9 : String := "java/lang/Math"
def TJ9 : u_T := fun k => match k with
  | _ => ("", "", "", false)
def tyJ9 : Nat → FieldType := fun k => match k with
  | _ => .int
abbrev wsJ90 : List Cond := u_ws RJ9 TJ9 0
theorem nmJ9 : ∀ a, a < 0 → ∀ b, b < 0 → a ≠ b → (TJ9 a).2.1 ≠ (TJ9 b).2.1 := by decide +kernel
theorem tyJ9_ok : ∀ k, k < 0 → parseFieldDescriptor (TJ9 k).2.2.1 = some (tyJ9 k) := by decide +kernel
abbrev cJ9_max_7cf53 : ByteArray := prog_11_method_65_code
def yJ9_max_7cf53 : MethodName := ⟨RJ9, "max", "(II)I"⟩
abbrev cJ9_min_7cf53 : ByteArray := prog_11_method_69_code
def yJ9_min_7cf53 : MethodName := ⟨RJ9, "min", "(II)I"⟩
def RJ0 : String := "java/lang/String"
def TJ0 : u_T := fun k => match k with
  | _ => ("", "", "", false)
def tyJ0 : Nat → FieldType := fun k => match k with
  | _ => .int
abbrev wsJ00 : List Cond := u_ws RJ0 TJ0 0
theorem nmJ0 : ∀ a, a < 0 → ∀ b, b < 0 → a ≠ b → (TJ0 a).2.1 ≠ (TJ0 b).2.1 := by decide +kernel
theorem tyJ0_ok : ∀ k, k < 0 → parseFieldDescriptor (TJ0 k).2.2.1 = some (tyJ0 k) := by decide +kernel
def RJ10 : String := "java/lang/System"
def TJ10 : u_T := fun k => match k with
  | _ => ("", "", "", false)
def tyJ10 : Nat → FieldType := fun k => match k with
  | _ => .int
abbrev wsJ100 : List Cond := u_ws RJ10 TJ10 0
theorem nmJ10 : ∀ a, a < 0 → ∀ b, b < 0 → a ≠ b → (TJ10 a).2.1 ≠ (TJ10 b).2.1 := by decide +kernel
theorem tyJ10_ok : ∀ k, k < 0 → parseFieldDescriptor (TJ10 k).2.2.1 = some (tyJ10 k) := by decide +kernel
def RJ7 : String := "java/util/Arrays"
def TJ7 : u_T := fun k => match k with
  | _ => ("", "", "", false)
def tyJ7 : Nat → FieldType := fun k => match k with
  | _ => .int
abbrev wsJ70 : List Cond := u_ws RJ7 TJ7 0
theorem nmJ7 : ∀ a, a < 0 → ∀ b, b < 0 → a ≠ b → (TJ7 a).2.1 ≠ (TJ7 b).2.1 := by decide +kernel
theorem tyJ7_ok : ∀ k, k < 0 → parseFieldDescriptor (TJ7 k).2.2.1 = some (tyJ7 k) := by decide +kernel
abbrev cJ7_fill_53178 : ByteArray := prog_16_method_103_code
def yJ7_fill_53178 : MethodName := ⟨RJ7, "fill", "([II)V"⟩
def RL : String := "SlipLevelsLaw"
abbrev cL_write : ByteArray := method_3_code
def yL_write : MethodName := ⟨RL, "write", "(LSlipLevels;II[J)I"⟩
abbrev cL_strike : ByteArray := method_4_code
def yL_strike : MethodName := ⟨RL, "strike", "(LSlipLevels;I[J)I"⟩
abbrev cL_merge : ByteArray := method_5_code
def yL_merge : MethodName := ⟨RL, "merge", "(LSlipLevels;I[J)I"⟩
abbrev cL_setRoom : ByteArray := method_6_code
def yL_setRoom : MethodName := ⟨RL, "setRoom", "(LSlipLevels;I[J)I"⟩
abbrev cL_read : ByteArray := method_7_code
def yL_read : MethodName := ⟨RL, "read", "(LSlipLevels;I[J)I"⟩
abbrev cL_detours : ByteArray := method_8_code
def yL_detours : MethodName := ⟨RL, "detours", "(LSlipLevels;I[J)I"⟩
abbrev cL_next : ByteArray := method_9_code
def yL_next : MethodName := ⟨RL, "next", "(LSlipLevels;I[J)I"⟩
abbrev cL_sum : ByteArray := method_10_code
def yL_sum : MethodName := ⟨RL, "sum", "(LSlipLevels;II[J)I"⟩
abbrev cL_run : ByteArray := method_11_code
def yL_run : MethodName := ⟨RL, "run", "(LSlipLevels;III[J)I"⟩
abbrev cL_slip : ByteArray := method_12_code
def yL_slip : MethodName := ⟨RL, "slip", "(LSlipLevels;III[J)I"⟩
abbrev cL_desk : ByteArray := method_13_code
def yL_desk : MethodName := ⟨RL, "desk", "(LSlipLevels;I[J)I"⟩
abbrev cL_level : ByteArray := method_14_code
def yL_level : MethodName := ⟨RL, "level", "(LSlipLevels;II[J)I"⟩
abbrev cL_count : ByteArray := method_15_code
def yL_count : MethodName := ⟨RL, "count", "(LSlipLevels;I[J)I"⟩
abbrev cL_spares : ByteArray := method_16_code
def yL_spares : MethodName := ⟨RL, "spares", "(LSlipLevels;I[J)I"⟩
abbrev cL_law : ByteArray := code
def yL_law : MethodName := ⟨RL, "law", "([I)Z"⟩
def wsJ7_fill_53178 : List Cond := .code yJ7_fill_53178 cJ7_fill_53178 4 none :: ([])
def wsX1_clear : List Cond := .code yX1_clear cX1_clear 1 none :: ([.fieldLink RX1 9 "SlipLevels$Slips" "words" "[I", .fieldLink RX1 24 "SlipLevels$Slips" "size" "I", .fieldLink RX1 28 "SlipLevels$Slips" "tombs" "I", .fieldLink RX1 31 "SlipLevels$Slips" "least" "I", .fieldLink RX1 34 "SlipLevels$Slips" "greatest" "I", .fieldLink RX1 37 "SlipLevels$Slips" "sieve" "I", .methodLink RX1 18 yJ7_fill_53178, .static yJ7_fill_53178, .initialized RJ7, .code yJ7_fill_53178 cJ7_fill_53178 4 none] ++ wsX10)
def wsX1_init : List Cond := .code yX1_init cX1_init 1 none :: ([.methodLink RX1 3 objectInit, .instanceMethod objectInit, .code objectInit ⟨#[0xb1]⟩ 1 none, .arrayClass .int, .fieldLink RX1 9 "SlipLevels$Slips" "words" "[I", .methodLink RX1 15 yX1_clear, .instanceMethod yX1_clear, .selects RX1 yX1_clear yX1_clear, .initialized RX1, .code yX1_clear cX1_clear 1 none, .fieldLink RX1 24 "SlipLevels$Slips" "size" "I", .fieldLink RX1 28 "SlipLevels$Slips" "tombs" "I", .fieldLink RX1 31 "SlipLevels$Slips" "least" "I", .fieldLink RX1 34 "SlipLevels$Slips" "greatest" "I", .fieldLink RX1 37 "SlipLevels$Slips" "sieve" "I", .methodLink RX1 18 yJ7_fill_53178, .static yJ7_fill_53178, .initialized RJ7, .code yJ7_fill_53178 cJ7_fill_53178 4 none] ++ wsX10)
def wsX0_init_r1 : List Cond := [Cond.methodLink RX0 3 objectInit, Cond.instanceMethod objectInit, Cond.code objectInit ⟨#[0xb1]⟩ 1 none, Cond.classLink RX0 9 RX1, Cond.fieldLink RX0 11 "SlipLevels$Binder" "rows" "[LSlipLevels$Slips;", Cond.arrayClass .int, Cond.fieldLink RX0 17 "SlipLevels$Binder" "runs" "[I", Cond.instantiable RX1 6, Cond.initialized RX1, Cond.fieldLink RX0 22 "SlipLevels$Binder" "merged" "LSlipLevels$Slips;", Cond.fieldLink RX0 26 "SlipLevels$Binder" "moves" "I", Cond.fieldLink RX0 30 "SlipLevels$Binder" "mergings" "I", Cond.methodLink RX0 21 yX1_init, Cond.instanceMethod yX1_init, Cond.code yX1_init cX1_init 1 none, Cond.methodLink RX1 3 objectInit, Cond.fieldLink RX1 9 "SlipLevels$Slips" "words" "[I", Cond.methodLink RX1 15 yX1_clear, Cond.instanceMethod yX1_clear, Cond.selects RX1 yX1_clear yX1_clear, Cond.code yX1_clear cX1_clear 1 none, Cond.fieldLink RX1 24 "SlipLevels$Slips" "size" "I", Cond.fieldLink RX1 28 "SlipLevels$Slips" "tombs" "I", Cond.fieldLink RX1 31 "SlipLevels$Slips" "least" "I"]
def wsX0_init_r2 : List Cond := [Cond.fieldLink RX1 34 "SlipLevels$Slips" "greatest" "I", Cond.fieldLink RX1 37 "SlipLevels$Slips" "sieve" "I", Cond.methodLink RX1 18 yJ7_fill_53178, Cond.static yJ7_fill_53178, Cond.initialized RJ7, Cond.code yJ7_fill_53178 cJ7_fill_53178 4 none]
def wsX0_init : List Cond := .code yX0_init cX0_init 2 none :: ((wsX0_init_r1 ++ wsX0_init_r2) ++ wsX00 ++ wsX10)
def wsX0_moves : List Cond := .code yX0_moves cX0_moves 1 (some .int) :: ([.fieldLink RX0 26 "SlipLevels$Binder" "moves" "I"] ++ wsX00)
def wsX0_mergings : List Cond := .code yX0_mergings cX0_mergings 1 (some .int) :: ([.fieldLink RX0 30 "SlipLevels$Binder" "mergings" "I"] ++ wsX00)
def wsX0_runsOf : List Cond := .code yX0_runsOf cX0_runsOf 2 (some .int) :: ([.fieldLink RX0 17 "SlipLevels$Binder" "runs" "[I"] ++ wsX00)
def wsX0_runAt : List Cond := .code yX0_runAt cX0_runAt 4 (some (.object "SlipLevels$Slips")) :: ([.fieldLink RX0 17 "SlipLevels$Binder" "runs" "[I", .fieldLink RX0 11 "SlipLevels$Binder" "rows" "[LSlipLevels$Slips;"] ++ wsX00)
def wsX0_rowAt : List Cond := .code yX0_rowAt cX0_rowAt 3 (some (.object "SlipLevels$Slips")) :: ([.fieldLink RX0 11 "SlipLevels$Binder" "rows" "[LSlipLevels$Slips;"] ++ wsX00)
def wsX1_size : List Cond := .code yX1_size cX1_size 1 (some .int) :: ([.fieldLink RX1 24 "SlipLevels$Slips" "size" "I"] ++ wsX10)
def wsX0_slipsOf : List Cond := .code yX0_slipsOf cX0_slipsOf 5 (some .int) :: ([.methodLink RX0 33 yX0_runsOf, .instanceMethod yX0_runsOf, .selects RX0 yX0_runsOf yX0_runsOf, .initialized RX0, .code yX0_runsOf cX0_runsOf 2 (some .int), .fieldLink RX0 17 "SlipLevels$Binder" "runs" "[I", .methodLink RX0 37 yX0_runAt, .instanceMethod yX0_runAt, .selects RX0 yX0_runAt yX0_runAt, .code yX0_runAt cX0_runAt 4 (some (.object "SlipLevels$Slips")), .fieldLink RX0 11 "SlipLevels$Binder" "rows" "[LSlipLevels$Slips;", .methodLink RX0 41 yX1_size, .instanceMethod yX1_size, .selects RX1 yX1_size yX1_size, .initialized RX1, .code yX1_size cX1_size 1 (some .int), .fieldLink RX1 24 "SlipLevels$Slips" "size" "I"] ++ wsX00 ++ wsX10)
def wsX1_tombs : List Cond := .code yX1_tombs cX1_tombs 1 (some .int) :: ([.fieldLink RX1 28 "SlipLevels$Slips" "tombs" "I"] ++ wsX10)
def wsX0_tombsOf : List Cond := .code yX0_tombsOf cX0_tombsOf 5 (some .int) :: ([.methodLink RX0 33 yX0_runsOf, .instanceMethod yX0_runsOf, .selects RX0 yX0_runsOf yX0_runsOf, .initialized RX0, .code yX0_runsOf cX0_runsOf 2 (some .int), .fieldLink RX0 17 "SlipLevels$Binder" "runs" "[I", .methodLink RX0 37 yX0_runAt, .instanceMethod yX0_runAt, .selects RX0 yX0_runAt yX0_runAt, .code yX0_runAt cX0_runAt 4 (some (.object "SlipLevels$Slips")), .fieldLink RX0 11 "SlipLevels$Binder" "rows" "[LSlipLevels$Slips;", .methodLink RX0 45 yX1_tombs, .instanceMethod yX1_tombs, .selects RX1 yX1_tombs yX1_tombs, .initialized RX1, .code yX1_tombs cX1_tombs 1 (some .int), .fieldLink RX1 28 "SlipLevels$Slips" "tombs" "I"] ++ wsX00 ++ wsX10)
def wsX0_slips : List Cond := .code yX0_slips cX0_slips 3 (some .int) :: ([.methodLink RX0 48 yX0_slipsOf, .instanceMethod yX0_slipsOf, .selects RX0 yX0_slipsOf yX0_slipsOf, .initialized RX0, .code yX0_slipsOf cX0_slipsOf 5 (some .int), .methodLink RX0 33 yX0_runsOf, .instanceMethod yX0_runsOf, .selects RX0 yX0_runsOf yX0_runsOf, .code yX0_runsOf cX0_runsOf 2 (some .int), .fieldLink RX0 17 "SlipLevels$Binder" "runs" "[I", .methodLink RX0 37 yX0_runAt, .instanceMethod yX0_runAt, .selects RX0 yX0_runAt yX0_runAt, .code yX0_runAt cX0_runAt 4 (some (.object "SlipLevels$Slips")), .fieldLink RX0 11 "SlipLevels$Binder" "rows" "[LSlipLevels$Slips;", .methodLink RX0 41 yX1_size, .instanceMethod yX1_size, .selects RX1 yX1_size yX1_size, .initialized RX1, .code yX1_size cX1_size 1 (some .int), .fieldLink RX1 24 "SlipLevels$Slips" "size" "I"] ++ wsX00 ++ wsX10)
def wsX1_wordAt : List Cond := .code yX1_wordAt cX1_wordAt 2 (some .int) :: ([.fieldLink RX1 9 "SlipLevels$Slips" "words" "[I"] ++ wsX10)
def wsX0_firstWordIn : List Cond := .code yX0_firstWordIn cX0_firstWordIn 5 (some .int) :: ([.methodLink RX0 37 yX0_runAt, .instanceMethod yX0_runAt, .selects RX0 yX0_runAt yX0_runAt, .initialized RX0, .code yX0_runAt cX0_runAt 4 (some (.object "SlipLevels$Slips")), .fieldLink RX0 17 "SlipLevels$Binder" "runs" "[I", .fieldLink RX0 11 "SlipLevels$Binder" "rows" "[LSlipLevels$Slips;", .methodLink RX0 51 yX1_wordAt, .instanceMethod yX1_wordAt, .selects RX1 yX1_wordAt yX1_wordAt, .initialized RX1, .code yX1_wordAt cX1_wordAt 2 (some .int), .fieldLink RX1 9 "SlipLevels$Slips" "words" "[I"] ++ wsX00 ++ wsX10)
def wsX0_firstWord : List Cond := .code yX0_firstWord cX0_firstWord 4 (some .int) :: ([.methodLink RX0 54 yX0_firstWordIn, .instanceMethod yX0_firstWordIn, .selects RX0 yX0_firstWordIn yX0_firstWordIn, .initialized RX0, .code yX0_firstWordIn cX0_firstWordIn 5 (some .int), .methodLink RX0 37 yX0_runAt, .instanceMethod yX0_runAt, .selects RX0 yX0_runAt yX0_runAt, .code yX0_runAt cX0_runAt 4 (some (.object "SlipLevels$Slips")), .fieldLink RX0 17 "SlipLevels$Binder" "runs" "[I", .fieldLink RX0 11 "SlipLevels$Binder" "rows" "[LSlipLevels$Slips;", .methodLink RX0 51 yX1_wordAt, .instanceMethod yX1_wordAt, .selects RX1 yX1_wordAt yX1_wordAt, .initialized RX1, .code yX1_wordAt cX1_wordAt 2 (some .int), .fieldLink RX1 9 "SlipLevels$Slips" "words" "[I"] ++ wsX00 ++ wsX10)
def wsX1_has : List Cond := .code yX1_has cX1_has 2 (some .boolean) :: ([.methodLink RX1 55 yX1_wordAt, .instanceMethod yX1_wordAt, .selects RX1 yX1_wordAt yX1_wordAt, .initialized RX1, .code yX1_wordAt cX1_wordAt 2 (some .int), .fieldLink RX1 9 "SlipLevels$Slips" "words" "[I"] ++ wsX10)
def wsX0_isFirst : List Cond := .code yX0_isFirst cX0_isFirst 6 (some .boolean) :: ([.methodLink RX0 54 yX0_firstWordIn, .instanceMethod yX0_firstWordIn, .selects RX0 yX0_firstWordIn yX0_firstWordIn, .initialized RX0, .code yX0_firstWordIn cX0_firstWordIn 5 (some .int), .methodLink RX0 37 yX0_runAt, .instanceMethod yX0_runAt, .selects RX0 yX0_runAt yX0_runAt, .code yX0_runAt cX0_runAt 4 (some (.object "SlipLevels$Slips")), .fieldLink RX0 17 "SlipLevels$Binder" "runs" "[I", .fieldLink RX0 11 "SlipLevels$Binder" "rows" "[LSlipLevels$Slips;", .methodLink RX0 51 yX1_wordAt, .instanceMethod yX1_wordAt, .selects RX1 yX1_wordAt yX1_wordAt, .initialized RX1, .code yX1_wordAt cX1_wordAt 2 (some .int), .fieldLink RX1 9 "SlipLevels$Slips" "words" "[I", .methodLink RX0 58 yX1_has, .instanceMethod yX1_has, .selects RX1 yX1_has yX1_has, .code yX1_has cX1_has 2 (some .boolean), .methodLink RX1 55 yX1_wordAt] ++ wsX00 ++ wsX10)
def wsX1_opensFor : List Cond := .code yX1_opensFor cX1_opensFor 2 (some .boolean) :: ([.fieldLink RX1 31 "SlipLevels$Slips" "least" "I", .fieldLink RX1 34 "SlipLevels$Slips" "greatest" "I", .fieldLink RX1 37 "SlipLevels$Slips" "sieve" "I"] ++ wsX10)
def wsX0_detoursTo_r1 : List Cond := [Cond.methodLink RX0 33 yX0_runsOf, Cond.instanceMethod yX0_runsOf, Cond.selects RX0 yX0_runsOf yX0_runsOf, Cond.initialized RX0, Cond.code yX0_runsOf cX0_runsOf 2 (some .int), Cond.fieldLink RX0 17 "SlipLevels$Binder" "runs" "[I", Cond.methodLink RX0 37 yX0_runAt, Cond.instanceMethod yX0_runAt, Cond.selects RX0 yX0_runAt yX0_runAt, Cond.code yX0_runAt cX0_runAt 4 (some (.object "SlipLevels$Slips")), Cond.fieldLink RX0 11 "SlipLevels$Binder" "rows" "[LSlipLevels$Slips;", Cond.methodLink RX0 62 yX1_opensFor, Cond.instanceMethod yX1_opensFor, Cond.selects RX1 yX1_opensFor yX1_opensFor, Cond.initialized RX1, Cond.code yX1_opensFor cX1_opensFor 2 (some .boolean), Cond.fieldLink RX1 31 "SlipLevels$Slips" "least" "I", Cond.fieldLink RX1 34 "SlipLevels$Slips" "greatest" "I", Cond.fieldLink RX1 37 "SlipLevels$Slips" "sieve" "I", Cond.methodLink RX0 58 yX1_has, Cond.instanceMethod yX1_has, Cond.selects RX1 yX1_has yX1_has, Cond.code yX1_has cX1_has 2 (some .boolean), Cond.methodLink RX1 55 yX1_wordAt]
def wsX0_detoursTo_r2 : List Cond := [Cond.instanceMethod yX1_wordAt, Cond.selects RX1 yX1_wordAt yX1_wordAt, Cond.code yX1_wordAt cX1_wordAt 2 (some .int), Cond.fieldLink RX1 9 "SlipLevels$Slips" "words" "[I"]
def wsX0_detoursTo : List Cond := .code yX0_detoursTo cX0_detoursTo 6 (some .int) :: ((wsX0_detoursTo_r1 ++ wsX0_detoursTo_r2) ++ wsX00 ++ wsX10)
def wsX0_nothingBehind : List Cond := .code yX0_nothingBehind cX0_nothingBehind 3 (some .boolean) :: ([.methodLink RX0 33 yX0_runsOf, .instanceMethod yX0_runsOf, .selects RX0 yX0_runsOf yX0_runsOf, .initialized RX0, .code yX0_runsOf cX0_runsOf 2 (some .int), .fieldLink RX0 17 "SlipLevels$Binder" "runs" "[I"] ++ wsX00)
def wsX1_put : List Cond := .code yX1_put cX1_put 4 none :: ([.fieldLink RX1 9 "SlipLevels$Slips" "words" "[I", .fieldLink RX1 24 "SlipLevels$Slips" "size" "I", .fieldLink RX1 28 "SlipLevels$Slips" "tombs" "I", .fieldLink RX1 31 "SlipLevels$Slips" "least" "I", .methodLink RX1 46 Lib.Math.min.name, .static Lib.Math.min.name, .initialized "java/lang/Math", .code Lib.Math.min.name Lib.Math.min.code 2 (some .int), .fieldLink RX1 34 "SlipLevels$Slips" "greatest" "I", .methodLink RX1 52 Lib.Math.max.name, .static Lib.Math.max.name, .code Lib.Math.max.name Lib.Math.max.code 2 (some .int), .fieldLink RX1 37 "SlipLevels$Slips" "sieve" "I"] ++ wsX10)
def wsX0_gather_r1 : List Cond := [Cond.fieldLink RX0 22 "SlipLevels$Binder" "merged" "LSlipLevels$Slips;", Cond.methodLink RX0 85 yX1_clear, Cond.instanceMethod yX1_clear, Cond.selects RX1 yX1_clear yX1_clear, Cond.initialized RX1, Cond.code yX1_clear cX1_clear 1 none, Cond.fieldLink RX1 9 "SlipLevels$Slips" "words" "[I", Cond.fieldLink RX1 24 "SlipLevels$Slips" "size" "I", Cond.fieldLink RX1 28 "SlipLevels$Slips" "tombs" "I", Cond.fieldLink RX1 31 "SlipLevels$Slips" "least" "I", Cond.fieldLink RX1 34 "SlipLevels$Slips" "greatest" "I", Cond.fieldLink RX1 37 "SlipLevels$Slips" "sieve" "I", Cond.methodLink RX1 18 yJ7_fill_53178, Cond.static yJ7_fill_53178, Cond.initialized RJ7, Cond.code yJ7_fill_53178 cJ7_fill_53178 4 none, Cond.methodLink RX0 54 yX0_firstWordIn, Cond.instanceMethod yX0_firstWordIn, Cond.selects RX0 yX0_firstWordIn yX0_firstWordIn, Cond.initialized RX0, Cond.code yX0_firstWordIn cX0_firstWordIn 5 (some .int), Cond.methodLink RX0 37 yX0_runAt, Cond.instanceMethod yX0_runAt, Cond.selects RX0 yX0_runAt yX0_runAt]
def wsX0_gather_r2 : List Cond := [Cond.code yX0_runAt cX0_runAt 4 (some (.object "SlipLevels$Slips")), Cond.fieldLink RX0 17 "SlipLevels$Binder" "runs" "[I", Cond.fieldLink RX0 11 "SlipLevels$Binder" "rows" "[LSlipLevels$Slips;", Cond.methodLink RX0 51 yX1_wordAt, Cond.instanceMethod yX1_wordAt, Cond.selects RX1 yX1_wordAt yX1_wordAt, Cond.code yX1_wordAt cX1_wordAt 2 (some .int), Cond.methodLink RX0 88 yX1_put, Cond.instanceMethod yX1_put, Cond.selects RX1 yX1_put yX1_put, Cond.code yX1_put cX1_put 4 none, Cond.methodLink RX1 46 Lib.Math.min.name, Cond.static Lib.Math.min.name, Cond.initialized "java/lang/Math", Cond.code Lib.Math.min.name Lib.Math.min.code 2 (some .int), Cond.methodLink RX1 52 Lib.Math.max.name, Cond.static Lib.Math.max.name, Cond.code Lib.Math.max.name Lib.Math.max.code 2 (some .int)]
def wsX0_gather : List Cond := .code yX0_gather cX0_gather 5 none :: ((wsX0_gather_r1 ++ wsX0_gather_r2) ++ wsX00 ++ wsX10)
def wsX1_copy : List Cond := .code yX1_copy cX1_copy 2 none :: ([.fieldLink RX1 9 "SlipLevels$Slips" "words" "[I", .methodLink RX1 40 arraycopyName, .native arraycopyName, .static arraycopyName, .initialized "java/lang/System", .fieldLink RX1 24 "SlipLevels$Slips" "size" "I", .fieldLink RX1 28 "SlipLevels$Slips" "tombs" "I", .fieldLink RX1 31 "SlipLevels$Slips" "least" "I", .fieldLink RX1 34 "SlipLevels$Slips" "greatest" "I", .fieldLink RX1 37 "SlipLevels$Slips" "sieve" "I"] ++ wsX10)
def wsX0_addRun_r1 : List Cond := [Cond.fieldLink RX0 17 "SlipLevels$Binder" "runs" "[I", Cond.fieldLink RX0 26 "SlipLevels$Binder" "moves" "I", Cond.methodLink RX0 33 yX0_runsOf, Cond.instanceMethod yX0_runsOf, Cond.selects RX0 yX0_runsOf yX0_runsOf, Cond.initialized RX0, Cond.code yX0_runsOf cX0_runsOf 2 (some .int), Cond.methodLink RX0 92 yX0_rowAt, Cond.instanceMethod yX0_rowAt, Cond.selects RX0 yX0_rowAt yX0_rowAt, Cond.code yX0_rowAt cX0_rowAt 3 (some (.object "SlipLevels$Slips")), Cond.fieldLink RX0 11 "SlipLevels$Binder" "rows" "[LSlipLevels$Slips;", Cond.methodLink RX0 41 yX1_size, Cond.instanceMethod yX1_size, Cond.selects RX1 yX1_size yX1_size, Cond.initialized RX1, Cond.code yX1_size cX1_size 1 (some .int), Cond.fieldLink RX1 24 "SlipLevels$Slips" "size" "I", Cond.methodLink RX0 95 yX1_copy, Cond.instanceMethod yX1_copy, Cond.selects RX1 yX1_copy yX1_copy, Cond.code yX1_copy cX1_copy 2 none, Cond.fieldLink RX1 9 "SlipLevels$Slips" "words" "[I", Cond.methodLink RX1 40 arraycopyName]
def wsX0_addRun_r2 : List Cond := [Cond.native arraycopyName, Cond.static arraycopyName, Cond.initialized "java/lang/System", Cond.fieldLink RX1 28 "SlipLevels$Slips" "tombs" "I", Cond.fieldLink RX1 31 "SlipLevels$Slips" "least" "I", Cond.fieldLink RX1 34 "SlipLevels$Slips" "greatest" "I", Cond.fieldLink RX1 37 "SlipLevels$Slips" "sieve" "I"]
def wsX0_addRun : List Cond := .code yX0_addRun cX0_addRun 4 none :: ((wsX0_addRun_r1 ++ wsX0_addRun_r2) ++ wsX00 ++ wsX10)
def wsX0_mergeLevel_r1 : List Cond := [Cond.fieldLink RX0 17 "SlipLevels$Binder" "runs" "[I", Cond.methodLink RX0 76 Lib.Math.min.name, Cond.static Lib.Math.min.name, Cond.initialized "java/lang/Math", Cond.code Lib.Math.min.name Lib.Math.min.code 2 (some .int), Cond.fieldLink RX0 22 "SlipLevels$Binder" "merged" "LSlipLevels$Slips;", Cond.fieldLink RX0 30 "SlipLevels$Binder" "mergings" "I", Cond.methodLink RX0 69 yX0_nothingBehind, Cond.instanceMethod yX0_nothingBehind, Cond.selects RX0 yX0_nothingBehind yX0_nothingBehind, Cond.initialized RX0, Cond.code yX0_nothingBehind cX0_nothingBehind 3 (some .boolean), Cond.methodLink RX0 33 yX0_runsOf, Cond.instanceMethod yX0_runsOf, Cond.selects RX0 yX0_runsOf yX0_runsOf, Cond.code yX0_runsOf cX0_runsOf 2 (some .int), Cond.methodLink RX0 72 yX0_gather, Cond.instanceMethod yX0_gather, Cond.selects RX0 yX0_gather yX0_gather, Cond.code yX0_gather cX0_gather 5 none, Cond.methodLink RX0 85 yX1_clear, Cond.instanceMethod yX1_clear, Cond.selects RX1 yX1_clear yX1_clear, Cond.initialized RX1]
def wsX0_mergeLevel_r2 : List Cond := [Cond.code yX1_clear cX1_clear 1 none, Cond.fieldLink RX1 9 "SlipLevels$Slips" "words" "[I", Cond.fieldLink RX1 24 "SlipLevels$Slips" "size" "I", Cond.fieldLink RX1 28 "SlipLevels$Slips" "tombs" "I", Cond.fieldLink RX1 31 "SlipLevels$Slips" "least" "I", Cond.fieldLink RX1 34 "SlipLevels$Slips" "greatest" "I", Cond.fieldLink RX1 37 "SlipLevels$Slips" "sieve" "I", Cond.methodLink RX1 18 yJ7_fill_53178, Cond.static yJ7_fill_53178, Cond.initialized RJ7, Cond.code yJ7_fill_53178 cJ7_fill_53178 4 none, Cond.methodLink RX0 54 yX0_firstWordIn, Cond.instanceMethod yX0_firstWordIn, Cond.selects RX0 yX0_firstWordIn yX0_firstWordIn, Cond.code yX0_firstWordIn cX0_firstWordIn 5 (some .int), Cond.methodLink RX0 37 yX0_runAt, Cond.instanceMethod yX0_runAt, Cond.selects RX0 yX0_runAt yX0_runAt, Cond.code yX0_runAt cX0_runAt 4 (some (.object "SlipLevels$Slips")), Cond.fieldLink RX0 11 "SlipLevels$Binder" "rows" "[LSlipLevels$Slips;", Cond.methodLink RX0 51 yX1_wordAt, Cond.instanceMethod yX1_wordAt, Cond.selects RX1 yX1_wordAt yX1_wordAt, Cond.code yX1_wordAt cX1_wordAt 2 (some .int)]
def wsX0_mergeLevel_r3 : List Cond := [Cond.methodLink RX0 88 yX1_put, Cond.instanceMethod yX1_put, Cond.selects RX1 yX1_put yX1_put, Cond.code yX1_put cX1_put 4 none, Cond.methodLink RX1 46 Lib.Math.min.name, Cond.methodLink RX1 52 Lib.Math.max.name, Cond.static Lib.Math.max.name, Cond.code Lib.Math.max.name Lib.Math.max.code 2 (some .int), Cond.methodLink RX0 81 yX0_addRun, Cond.instanceMethod yX0_addRun, Cond.selects RX0 yX0_addRun yX0_addRun, Cond.code yX0_addRun cX0_addRun 4 none, Cond.fieldLink RX0 26 "SlipLevels$Binder" "moves" "I", Cond.methodLink RX0 92 yX0_rowAt, Cond.instanceMethod yX0_rowAt, Cond.selects RX0 yX0_rowAt yX0_rowAt, Cond.code yX0_rowAt cX0_rowAt 3 (some (.object "SlipLevels$Slips")), Cond.methodLink RX0 41 yX1_size, Cond.instanceMethod yX1_size, Cond.selects RX1 yX1_size yX1_size, Cond.code yX1_size cX1_size 1 (some .int), Cond.methodLink RX0 95 yX1_copy, Cond.instanceMethod yX1_copy, Cond.selects RX1 yX1_copy yX1_copy]
def wsX0_mergeLevel_r4 : List Cond := [Cond.code yX1_copy cX1_copy 2 none, Cond.methodLink RX1 40 arraycopyName, Cond.native arraycopyName, Cond.static arraycopyName, Cond.initialized "java/lang/System"]
def wsX0_mergeLevel : List Cond := .code yX0_mergeLevel cX0_mergeLevel 2 none :: ((wsX0_mergeLevel_r1 ++ (wsX0_mergeLevel_r2 ++ (wsX0_mergeLevel_r3 ++ wsX0_mergeLevel_r4))) ++ wsX00 ++ wsX10)
def wsX0_settle_r1 : List Cond := [Cond.methodLink RX0 33 yX0_runsOf, Cond.instanceMethod yX0_runsOf, Cond.selects RX0 yX0_runsOf yX0_runsOf, Cond.initialized RX0, Cond.code yX0_runsOf cX0_runsOf 2 (some .int), Cond.fieldLink RX0 17 "SlipLevels$Binder" "runs" "[I", Cond.methodLink RX0 65 yX0_mergeLevel, Cond.instanceMethod yX0_mergeLevel, Cond.selects RX0 yX0_mergeLevel yX0_mergeLevel, Cond.code yX0_mergeLevel cX0_mergeLevel 2 none, Cond.methodLink RX0 76 Lib.Math.min.name, Cond.static Lib.Math.min.name, Cond.initialized "java/lang/Math", Cond.code Lib.Math.min.name Lib.Math.min.code 2 (some .int), Cond.fieldLink RX0 22 "SlipLevels$Binder" "merged" "LSlipLevels$Slips;", Cond.fieldLink RX0 30 "SlipLevels$Binder" "mergings" "I", Cond.methodLink RX0 69 yX0_nothingBehind, Cond.instanceMethod yX0_nothingBehind, Cond.selects RX0 yX0_nothingBehind yX0_nothingBehind, Cond.code yX0_nothingBehind cX0_nothingBehind 3 (some .boolean), Cond.methodLink RX0 72 yX0_gather, Cond.instanceMethod yX0_gather, Cond.selects RX0 yX0_gather yX0_gather, Cond.code yX0_gather cX0_gather 5 none]
def wsX0_settle_r2 : List Cond := [Cond.methodLink RX0 85 yX1_clear, Cond.instanceMethod yX1_clear, Cond.selects RX1 yX1_clear yX1_clear, Cond.initialized RX1, Cond.code yX1_clear cX1_clear 1 none, Cond.fieldLink RX1 9 "SlipLevels$Slips" "words" "[I", Cond.fieldLink RX1 24 "SlipLevels$Slips" "size" "I", Cond.fieldLink RX1 28 "SlipLevels$Slips" "tombs" "I", Cond.fieldLink RX1 31 "SlipLevels$Slips" "least" "I", Cond.fieldLink RX1 34 "SlipLevels$Slips" "greatest" "I", Cond.fieldLink RX1 37 "SlipLevels$Slips" "sieve" "I", Cond.methodLink RX1 18 yJ7_fill_53178, Cond.static yJ7_fill_53178, Cond.initialized RJ7, Cond.code yJ7_fill_53178 cJ7_fill_53178 4 none, Cond.methodLink RX0 54 yX0_firstWordIn, Cond.instanceMethod yX0_firstWordIn, Cond.selects RX0 yX0_firstWordIn yX0_firstWordIn, Cond.code yX0_firstWordIn cX0_firstWordIn 5 (some .int), Cond.methodLink RX0 37 yX0_runAt, Cond.instanceMethod yX0_runAt, Cond.selects RX0 yX0_runAt yX0_runAt, Cond.code yX0_runAt cX0_runAt 4 (some (.object "SlipLevels$Slips")), Cond.fieldLink RX0 11 "SlipLevels$Binder" "rows" "[LSlipLevels$Slips;"]
def wsX0_settle_r3 : List Cond := [Cond.methodLink RX0 51 yX1_wordAt, Cond.instanceMethod yX1_wordAt, Cond.selects RX1 yX1_wordAt yX1_wordAt, Cond.code yX1_wordAt cX1_wordAt 2 (some .int), Cond.methodLink RX0 88 yX1_put, Cond.instanceMethod yX1_put, Cond.selects RX1 yX1_put yX1_put, Cond.code yX1_put cX1_put 4 none, Cond.methodLink RX1 46 Lib.Math.min.name, Cond.methodLink RX1 52 Lib.Math.max.name, Cond.static Lib.Math.max.name, Cond.code Lib.Math.max.name Lib.Math.max.code 2 (some .int), Cond.methodLink RX0 81 yX0_addRun, Cond.instanceMethod yX0_addRun, Cond.selects RX0 yX0_addRun yX0_addRun, Cond.code yX0_addRun cX0_addRun 4 none, Cond.fieldLink RX0 26 "SlipLevels$Binder" "moves" "I", Cond.methodLink RX0 92 yX0_rowAt, Cond.instanceMethod yX0_rowAt, Cond.selects RX0 yX0_rowAt yX0_rowAt, Cond.code yX0_rowAt cX0_rowAt 3 (some (.object "SlipLevels$Slips")), Cond.methodLink RX0 41 yX1_size, Cond.instanceMethod yX1_size, Cond.selects RX1 yX1_size yX1_size]
def wsX0_settle_r4 : List Cond := [Cond.code yX1_size cX1_size 1 (some .int), Cond.methodLink RX0 95 yX1_copy, Cond.instanceMethod yX1_copy, Cond.selects RX1 yX1_copy yX1_copy, Cond.code yX1_copy cX1_copy 2 none, Cond.methodLink RX1 40 arraycopyName, Cond.native arraycopyName, Cond.static arraycopyName, Cond.initialized "java/lang/System"]
def wsX0_settle : List Cond := .code yX0_settle cX0_settle 2 none :: ((wsX0_settle_r1 ++ (wsX0_settle_r2 ++ (wsX0_settle_r3 ++ wsX0_settle_r4))) ++ wsX00 ++ wsX10)
def wsX0_copyRuns : List Cond := .code yX0_copyRuns cX0_copyRuns 5 none :: ([.fieldLink RX0 17 "SlipLevels$Binder" "runs" "[I", .methodLink RX0 92 yX0_rowAt, .instanceMethod yX0_rowAt, .selects RX0 yX0_rowAt yX0_rowAt, .initialized RX0, .code yX0_rowAt cX0_rowAt 3 (some (.object "SlipLevels$Slips")), .fieldLink RX0 11 "SlipLevels$Binder" "rows" "[LSlipLevels$Slips;", .methodLink RX0 95 yX1_copy, .instanceMethod yX1_copy, .selects RX1 yX1_copy yX1_copy, .initialized RX1, .code yX1_copy cX1_copy 2 none, .fieldLink RX1 9 "SlipLevels$Slips" "words" "[I", .methodLink RX1 40 arraycopyName, .native arraycopyName, .static arraycopyName, .initialized "java/lang/System", .fieldLink RX1 24 "SlipLevels$Slips" "size" "I", .fieldLink RX1 28 "SlipLevels$Slips" "tombs" "I", .fieldLink RX1 31 "SlipLevels$Slips" "least" "I", .fieldLink RX1 34 "SlipLevels$Slips" "greatest" "I", .fieldLink RX1 37 "SlipLevels$Slips" "sieve" "I"] ++ wsX00 ++ wsX10)
def wsX1_numberAt : List Cond := .code yX1_numberAt cX1_numberAt 4 (some .int) :: ([.fieldLink RX1 24 "SlipLevels$Slips" "size" "I", .methodLink RX1 59 yX1_has, .instanceMethod yX1_has, .selects RX1 yX1_has yX1_has, .initialized RX1, .code yX1_has cX1_has 2 (some .boolean), .methodLink RX1 55 yX1_wordAt, .instanceMethod yX1_wordAt, .selects RX1 yX1_wordAt yX1_wordAt, .code yX1_wordAt cX1_wordAt 2 (some .int), .fieldLink RX1 9 "SlipLevels$Slips" "words" "[I"] ++ wsX10)
def wsX1_told : List Cond := .code yX1_told cX1_told 3 (some .int) :: ([.methodLink RX1 55 yX1_wordAt, .instanceMethod yX1_wordAt, .selects RX1 yX1_wordAt yX1_wordAt, .initialized RX1, .code yX1_wordAt cX1_wordAt 2 (some .int), .fieldLink RX1 9 "SlipLevels$Slips" "words" "[I"] ++ wsX10)
def wsX1_fact : List Cond := .code yX1_fact cX1_fact 2 (some .int) :: ([.fieldLink RX1 24 "SlipLevels$Slips" "size" "I", .fieldLink RX1 31 "SlipLevels$Slips" "least" "I", .fieldLink RX1 34 "SlipLevels$Slips" "greatest" "I", .fieldLink RX1 37 "SlipLevels$Slips" "sieve" "I", .fieldLink RX1 28 "SlipLevels$Slips" "tombs" "I"] ++ wsX10)
def wsX2_init_r1 : List Cond := [Cond.methodLink RX2 1 objectInit, Cond.instanceMethod objectInit, Cond.code objectInit ⟨#[0xb1]⟩ 1 none, Cond.classLink RX2 7 RX1, Cond.instantiable RX1 6, Cond.initialized RX1, Cond.fieldLink RX2 10 "SlipLevels" "deskSlips" "LSlipLevels$Slips;", Cond.classLink RX2 16 RX0, Cond.instantiable RX0 5, Cond.initialized RX0, Cond.fieldLink RX2 19 "SlipLevels" "binder" "LSlipLevels$Binder;", Cond.fieldLink RX2 23 "SlipLevels" "trial" "LSlipLevels$Binder;", Cond.fieldLink RX2 26 "SlipLevels" "deskRoom" "I", Cond.fieldLink RX2 30 "SlipLevels" "detoursRead" "I", Cond.methodLink RX2 9 yX1_init, Cond.instanceMethod yX1_init, Cond.code yX1_init cX1_init 1 none, Cond.methodLink RX1 3 objectInit, Cond.arrayClass .int, Cond.fieldLink RX1 9 "SlipLevels$Slips" "words" "[I", Cond.methodLink RX1 15 yX1_clear, Cond.instanceMethod yX1_clear, Cond.selects RX1 yX1_clear yX1_clear, Cond.code yX1_clear cX1_clear 1 none]
def wsX2_init_r2 : List Cond := [Cond.fieldLink RX1 24 "SlipLevels$Slips" "size" "I", Cond.fieldLink RX1 28 "SlipLevels$Slips" "tombs" "I", Cond.fieldLink RX1 31 "SlipLevels$Slips" "least" "I", Cond.fieldLink RX1 34 "SlipLevels$Slips" "greatest" "I", Cond.fieldLink RX1 37 "SlipLevels$Slips" "sieve" "I", Cond.methodLink RX1 18 yJ7_fill_53178, Cond.static yJ7_fill_53178, Cond.initialized RJ7, Cond.code yJ7_fill_53178 cJ7_fill_53178 4 none, Cond.methodLink RX2 18 yX0_init, Cond.instanceMethod yX0_init, Cond.code yX0_init cX0_init 2 none, Cond.methodLink RX0 3 objectInit, Cond.classLink RX0 9 RX1, Cond.fieldLink RX0 11 "SlipLevels$Binder" "rows" "[LSlipLevels$Slips;", Cond.fieldLink RX0 17 "SlipLevels$Binder" "runs" "[I", Cond.fieldLink RX0 22 "SlipLevels$Binder" "merged" "LSlipLevels$Slips;", Cond.fieldLink RX0 26 "SlipLevels$Binder" "moves" "I", Cond.fieldLink RX0 30 "SlipLevels$Binder" "mergings" "I", Cond.methodLink RX0 21 yX1_init]
def wsX2_init : List Cond := .code yX2_init cX2_init 1 none :: ((wsX2_init_r1 ++ wsX2_init_r2) ++ wsX10 ++ wsX20 ++ wsX00)
def wsX2_needNumber : List Cond := .code yX2_needNumber cX2_needNumber 1 none :: ([.classLink RX2 94 "java/lang/IndexOutOfBoundsException", .initialized "java/lang/IndexOutOfBoundsException"] ++ (vx_atS RX2 98 "java/lang/IndexOutOfBoundsException" ["java/lang/RuntimeException", "java/lang/Exception"]).filter goodWord)
def wsX2_bindFrom_r1 : List Cond := [Cond.fieldLink RX2 10 "SlipLevels" "deskSlips" "LSlipLevels$Slips;", Cond.fieldLink RX2 19 "SlipLevels" "binder" "LSlipLevels$Binder;", Cond.methodLink RX2 160 yX1_size, Cond.instanceMethod yX1_size, Cond.selects RX1 yX1_size yX1_size, Cond.initialized RX1, Cond.code yX1_size cX1_size 1 (some .int), Cond.fieldLink RX1 24 "SlipLevels$Slips" "size" "I", Cond.methodLink RX2 63 yX0_moves, Cond.instanceMethod yX0_moves, Cond.selects RX0 yX0_moves yX0_moves, Cond.initialized RX0, Cond.code yX0_moves cX0_moves 1 (some .int), Cond.fieldLink RX0 26 "SlipLevels$Binder" "moves" "I", Cond.methodLink RX2 163 yX0_addRun, Cond.instanceMethod yX0_addRun, Cond.selects RX0 yX0_addRun yX0_addRun, Cond.code yX0_addRun cX0_addRun 4 none, Cond.fieldLink RX0 17 "SlipLevels$Binder" "runs" "[I", Cond.methodLink RX0 33 yX0_runsOf, Cond.instanceMethod yX0_runsOf, Cond.selects RX0 yX0_runsOf yX0_runsOf, Cond.code yX0_runsOf cX0_runsOf 2 (some .int), Cond.methodLink RX0 92 yX0_rowAt]
def wsX2_bindFrom_r2 : List Cond := [Cond.instanceMethod yX0_rowAt, Cond.selects RX0 yX0_rowAt yX0_rowAt, Cond.code yX0_rowAt cX0_rowAt 3 (some (.object "SlipLevels$Slips")), Cond.fieldLink RX0 11 "SlipLevels$Binder" "rows" "[LSlipLevels$Slips;", Cond.methodLink RX0 41 yX1_size, Cond.methodLink RX0 95 yX1_copy, Cond.instanceMethod yX1_copy, Cond.selects RX1 yX1_copy yX1_copy, Cond.code yX1_copy cX1_copy 2 none, Cond.fieldLink RX1 9 "SlipLevels$Slips" "words" "[I", Cond.methodLink RX1 40 arraycopyName, Cond.native arraycopyName, Cond.static arraycopyName, Cond.initialized "java/lang/System", Cond.fieldLink RX1 28 "SlipLevels$Slips" "tombs" "I", Cond.fieldLink RX1 31 "SlipLevels$Slips" "least" "I", Cond.fieldLink RX1 34 "SlipLevels$Slips" "greatest" "I", Cond.fieldLink RX1 37 "SlipLevels$Slips" "sieve" "I", Cond.methodLink RX2 167 yX1_clear, Cond.instanceMethod yX1_clear, Cond.selects RX1 yX1_clear yX1_clear, Cond.code yX1_clear cX1_clear 1 none, Cond.methodLink RX1 18 yJ7_fill_53178, Cond.static yJ7_fill_53178]
def wsX2_bindFrom_r3 : List Cond := [Cond.initialized RJ7, Cond.code yJ7_fill_53178 cJ7_fill_53178 4 none, Cond.methodLink RX2 70 yX0_settle, Cond.instanceMethod yX0_settle, Cond.selects RX0 yX0_settle yX0_settle, Cond.code yX0_settle cX0_settle 2 none, Cond.methodLink RX0 65 yX0_mergeLevel, Cond.instanceMethod yX0_mergeLevel, Cond.selects RX0 yX0_mergeLevel yX0_mergeLevel, Cond.code yX0_mergeLevel cX0_mergeLevel 2 none, Cond.methodLink RX0 76 Lib.Math.min.name, Cond.static Lib.Math.min.name, Cond.initialized "java/lang/Math", Cond.code Lib.Math.min.name Lib.Math.min.code 2 (some .int), Cond.fieldLink RX0 22 "SlipLevels$Binder" "merged" "LSlipLevels$Slips;", Cond.fieldLink RX0 30 "SlipLevels$Binder" "mergings" "I", Cond.methodLink RX0 69 yX0_nothingBehind, Cond.instanceMethod yX0_nothingBehind, Cond.selects RX0 yX0_nothingBehind yX0_nothingBehind, Cond.code yX0_nothingBehind cX0_nothingBehind 3 (some .boolean), Cond.methodLink RX0 72 yX0_gather, Cond.instanceMethod yX0_gather, Cond.selects RX0 yX0_gather yX0_gather, Cond.code yX0_gather cX0_gather 5 none]
def wsX2_bindFrom_r4 : List Cond := [Cond.methodLink RX0 85 yX1_clear, Cond.methodLink RX0 54 yX0_firstWordIn, Cond.instanceMethod yX0_firstWordIn, Cond.selects RX0 yX0_firstWordIn yX0_firstWordIn, Cond.code yX0_firstWordIn cX0_firstWordIn 5 (some .int), Cond.methodLink RX0 37 yX0_runAt, Cond.instanceMethod yX0_runAt, Cond.selects RX0 yX0_runAt yX0_runAt, Cond.code yX0_runAt cX0_runAt 4 (some (.object "SlipLevels$Slips")), Cond.methodLink RX0 51 yX1_wordAt, Cond.instanceMethod yX1_wordAt, Cond.selects RX1 yX1_wordAt yX1_wordAt, Cond.code yX1_wordAt cX1_wordAt 2 (some .int), Cond.methodLink RX0 88 yX1_put, Cond.instanceMethod yX1_put, Cond.selects RX1 yX1_put yX1_put, Cond.code yX1_put cX1_put 4 none, Cond.methodLink RX1 46 Lib.Math.min.name, Cond.methodLink RX1 52 Lib.Math.max.name, Cond.static Lib.Math.max.name, Cond.code Lib.Math.max.name Lib.Math.max.code 2 (some .int), Cond.methodLink RX0 81 yX0_addRun]
def wsX2_bindFrom : List Cond := .code yX2_bindFrom cX2_bindFrom 3 (some .int) :: ((wsX2_bindFrom_r1 ++ (wsX2_bindFrom_r2 ++ (wsX2_bindFrom_r3 ++ wsX2_bindFrom_r4))) ++ wsX20 ++ wsX10 ++ wsX00)
def wsX2_write_r1 : List Cond := [Cond.classLink RX2 37 "java/lang/IllegalArgumentException", Cond.initialized "java/lang/IllegalArgumentException", Cond.fieldLink RX2 10 "SlipLevels" "deskSlips" "LSlipLevels$Slips;", Cond.fieldLink RX2 26 "SlipLevels" "deskRoom" "I", Cond.methodLink RX2 33 yX2_needNumber, Cond.static yX2_needNumber, Cond.initialized RX2, Cond.code yX2_needNumber cX2_needNumber 1 none, Cond.classLink RX2 94 "java/lang/IndexOutOfBoundsException", Cond.initialized "java/lang/IndexOutOfBoundsException", Cond.methodLink RX2 44 yX1_put, Cond.instanceMethod yX1_put, Cond.selects RX1 yX1_put yX1_put, Cond.initialized RX1, Cond.code yX1_put cX1_put 4 none, Cond.fieldLink RX1 9 "SlipLevels$Slips" "words" "[I", Cond.fieldLink RX1 24 "SlipLevels$Slips" "size" "I", Cond.fieldLink RX1 28 "SlipLevels$Slips" "tombs" "I", Cond.fieldLink RX1 31 "SlipLevels$Slips" "least" "I", Cond.methodLink RX1 46 Lib.Math.min.name, Cond.static Lib.Math.min.name, Cond.initialized "java/lang/Math", Cond.code Lib.Math.min.name Lib.Math.min.code 2 (some .int), Cond.fieldLink RX1 34 "SlipLevels$Slips" "greatest" "I"]
def wsX2_write_r2 : List Cond := [Cond.methodLink RX1 52 Lib.Math.max.name, Cond.static Lib.Math.max.name, Cond.code Lib.Math.max.name Lib.Math.max.code 2 (some .int), Cond.fieldLink RX1 37 "SlipLevels$Slips" "sieve" "I", Cond.methodLink RX2 48 yX2_bindFrom, Cond.instanceMethod yX2_bindFrom, Cond.selects RX2 yX2_bindFrom yX2_bindFrom, Cond.code yX2_bindFrom cX2_bindFrom 3 (some .int), Cond.fieldLink RX2 19 "SlipLevels" "binder" "LSlipLevels$Binder;", Cond.methodLink RX2 160 yX1_size, Cond.instanceMethod yX1_size, Cond.selects RX1 yX1_size yX1_size, Cond.code yX1_size cX1_size 1 (some .int), Cond.methodLink RX2 63 yX0_moves, Cond.instanceMethod yX0_moves, Cond.selects RX0 yX0_moves yX0_moves, Cond.initialized RX0, Cond.code yX0_moves cX0_moves 1 (some .int), Cond.fieldLink RX0 26 "SlipLevels$Binder" "moves" "I", Cond.methodLink RX2 163 yX0_addRun, Cond.instanceMethod yX0_addRun, Cond.selects RX0 yX0_addRun yX0_addRun, Cond.code yX0_addRun cX0_addRun 4 none, Cond.fieldLink RX0 17 "SlipLevels$Binder" "runs" "[I"]
def wsX2_write_r3 : List Cond := [Cond.methodLink RX0 33 yX0_runsOf, Cond.instanceMethod yX0_runsOf, Cond.selects RX0 yX0_runsOf yX0_runsOf, Cond.code yX0_runsOf cX0_runsOf 2 (some .int), Cond.methodLink RX0 92 yX0_rowAt, Cond.instanceMethod yX0_rowAt, Cond.selects RX0 yX0_rowAt yX0_rowAt, Cond.code yX0_rowAt cX0_rowAt 3 (some (.object "SlipLevels$Slips")), Cond.fieldLink RX0 11 "SlipLevels$Binder" "rows" "[LSlipLevels$Slips;", Cond.methodLink RX0 41 yX1_size, Cond.methodLink RX0 95 yX1_copy, Cond.instanceMethod yX1_copy, Cond.selects RX1 yX1_copy yX1_copy, Cond.code yX1_copy cX1_copy 2 none, Cond.methodLink RX1 40 arraycopyName, Cond.native arraycopyName, Cond.static arraycopyName, Cond.initialized "java/lang/System", Cond.methodLink RX2 167 yX1_clear, Cond.instanceMethod yX1_clear, Cond.selects RX1 yX1_clear yX1_clear, Cond.code yX1_clear cX1_clear 1 none, Cond.methodLink RX1 18 yJ7_fill_53178, Cond.static yJ7_fill_53178]
def wsX2_write_r4 : List Cond := [Cond.initialized RJ7, Cond.code yJ7_fill_53178 cJ7_fill_53178 4 none, Cond.methodLink RX2 70 yX0_settle, Cond.instanceMethod yX0_settle, Cond.selects RX0 yX0_settle yX0_settle, Cond.code yX0_settle cX0_settle 2 none, Cond.methodLink RX0 65 yX0_mergeLevel, Cond.instanceMethod yX0_mergeLevel, Cond.selects RX0 yX0_mergeLevel yX0_mergeLevel, Cond.code yX0_mergeLevel cX0_mergeLevel 2 none, Cond.methodLink RX0 76 Lib.Math.min.name, Cond.fieldLink RX0 22 "SlipLevels$Binder" "merged" "LSlipLevels$Slips;", Cond.fieldLink RX0 30 "SlipLevels$Binder" "mergings" "I", Cond.methodLink RX0 69 yX0_nothingBehind, Cond.instanceMethod yX0_nothingBehind, Cond.selects RX0 yX0_nothingBehind yX0_nothingBehind, Cond.code yX0_nothingBehind cX0_nothingBehind 3 (some .boolean), Cond.methodLink RX0 72 yX0_gather, Cond.instanceMethod yX0_gather, Cond.selects RX0 yX0_gather yX0_gather, Cond.code yX0_gather cX0_gather 5 none, Cond.methodLink RX0 85 yX1_clear, Cond.methodLink RX0 54 yX0_firstWordIn, Cond.instanceMethod yX0_firstWordIn]
def wsX2_write_r5 : List Cond := [Cond.selects RX0 yX0_firstWordIn yX0_firstWordIn, Cond.code yX0_firstWordIn cX0_firstWordIn 5 (some .int), Cond.methodLink RX0 37 yX0_runAt, Cond.instanceMethod yX0_runAt, Cond.selects RX0 yX0_runAt yX0_runAt, Cond.code yX0_runAt cX0_runAt 4 (some (.object "SlipLevels$Slips")), Cond.methodLink RX0 51 yX1_wordAt, Cond.instanceMethod yX1_wordAt, Cond.selects RX1 yX1_wordAt yX1_wordAt, Cond.code yX1_wordAt cX1_wordAt 2 (some .int), Cond.methodLink RX0 88 yX1_put, Cond.methodLink RX0 81 yX0_addRun]
def wsX2_write : List Cond := .code yX2_write cX2_write 3 (some .boolean) :: ((wsX2_write_r1 ++ (wsX2_write_r2 ++ (wsX2_write_r3 ++ (wsX2_write_r4 ++ wsX2_write_r5)))) ++ wsX20 ++ wsX10 ++ wsX00 ++ (vx_atS RX2 41 "java/lang/IllegalArgumentException" ["java/lang/RuntimeException", "java/lang/Exception"]).filter goodWord ++ (vx_atS RX2 98 "java/lang/IndexOutOfBoundsException" ["java/lang/RuntimeException", "java/lang/Exception"]).filter goodWord)
def wsX2_strike_r1 : List Cond := [Cond.fieldLink RX2 10 "SlipLevels" "deskSlips" "LSlipLevels$Slips;", Cond.fieldLink RX2 26 "SlipLevels" "deskRoom" "I", Cond.methodLink RX2 33 yX2_needNumber, Cond.static yX2_needNumber, Cond.initialized RX2, Cond.code yX2_needNumber cX2_needNumber 1 none, Cond.classLink RX2 94 "java/lang/IndexOutOfBoundsException", Cond.initialized "java/lang/IndexOutOfBoundsException", Cond.methodLink RX2 44 yX1_put, Cond.instanceMethod yX1_put, Cond.selects RX1 yX1_put yX1_put, Cond.initialized RX1, Cond.code yX1_put cX1_put 4 none, Cond.fieldLink RX1 9 "SlipLevels$Slips" "words" "[I", Cond.fieldLink RX1 24 "SlipLevels$Slips" "size" "I", Cond.fieldLink RX1 28 "SlipLevels$Slips" "tombs" "I", Cond.fieldLink RX1 31 "SlipLevels$Slips" "least" "I", Cond.methodLink RX1 46 Lib.Math.min.name, Cond.static Lib.Math.min.name, Cond.initialized "java/lang/Math", Cond.code Lib.Math.min.name Lib.Math.min.code 2 (some .int), Cond.fieldLink RX1 34 "SlipLevels$Slips" "greatest" "I", Cond.methodLink RX1 52 Lib.Math.max.name, Cond.static Lib.Math.max.name]
def wsX2_strike_r2 : List Cond := [Cond.code Lib.Math.max.name Lib.Math.max.code 2 (some .int), Cond.fieldLink RX1 37 "SlipLevels$Slips" "sieve" "I", Cond.methodLink RX2 48 yX2_bindFrom, Cond.instanceMethod yX2_bindFrom, Cond.selects RX2 yX2_bindFrom yX2_bindFrom, Cond.code yX2_bindFrom cX2_bindFrom 3 (some .int), Cond.fieldLink RX2 19 "SlipLevels" "binder" "LSlipLevels$Binder;", Cond.methodLink RX2 160 yX1_size, Cond.instanceMethod yX1_size, Cond.selects RX1 yX1_size yX1_size, Cond.code yX1_size cX1_size 1 (some .int), Cond.methodLink RX2 63 yX0_moves, Cond.instanceMethod yX0_moves, Cond.selects RX0 yX0_moves yX0_moves, Cond.initialized RX0, Cond.code yX0_moves cX0_moves 1 (some .int), Cond.fieldLink RX0 26 "SlipLevels$Binder" "moves" "I", Cond.methodLink RX2 163 yX0_addRun, Cond.instanceMethod yX0_addRun, Cond.selects RX0 yX0_addRun yX0_addRun, Cond.code yX0_addRun cX0_addRun 4 none, Cond.fieldLink RX0 17 "SlipLevels$Binder" "runs" "[I", Cond.methodLink RX0 33 yX0_runsOf, Cond.instanceMethod yX0_runsOf]
def wsX2_strike_r3 : List Cond := [Cond.selects RX0 yX0_runsOf yX0_runsOf, Cond.code yX0_runsOf cX0_runsOf 2 (some .int), Cond.methodLink RX0 92 yX0_rowAt, Cond.instanceMethod yX0_rowAt, Cond.selects RX0 yX0_rowAt yX0_rowAt, Cond.code yX0_rowAt cX0_rowAt 3 (some (.object "SlipLevels$Slips")), Cond.fieldLink RX0 11 "SlipLevels$Binder" "rows" "[LSlipLevels$Slips;", Cond.methodLink RX0 41 yX1_size, Cond.methodLink RX0 95 yX1_copy, Cond.instanceMethod yX1_copy, Cond.selects RX1 yX1_copy yX1_copy, Cond.code yX1_copy cX1_copy 2 none, Cond.methodLink RX1 40 arraycopyName, Cond.native arraycopyName, Cond.static arraycopyName, Cond.initialized "java/lang/System", Cond.methodLink RX2 167 yX1_clear, Cond.instanceMethod yX1_clear, Cond.selects RX1 yX1_clear yX1_clear, Cond.code yX1_clear cX1_clear 1 none, Cond.methodLink RX1 18 yJ7_fill_53178, Cond.static yJ7_fill_53178, Cond.initialized RJ7, Cond.code yJ7_fill_53178 cJ7_fill_53178 4 none]
def wsX2_strike_r4 : List Cond := [Cond.methodLink RX2 70 yX0_settle, Cond.instanceMethod yX0_settle, Cond.selects RX0 yX0_settle yX0_settle, Cond.code yX0_settle cX0_settle 2 none, Cond.methodLink RX0 65 yX0_mergeLevel, Cond.instanceMethod yX0_mergeLevel, Cond.selects RX0 yX0_mergeLevel yX0_mergeLevel, Cond.code yX0_mergeLevel cX0_mergeLevel 2 none, Cond.methodLink RX0 76 Lib.Math.min.name, Cond.fieldLink RX0 22 "SlipLevels$Binder" "merged" "LSlipLevels$Slips;", Cond.fieldLink RX0 30 "SlipLevels$Binder" "mergings" "I", Cond.methodLink RX0 69 yX0_nothingBehind, Cond.instanceMethod yX0_nothingBehind, Cond.selects RX0 yX0_nothingBehind yX0_nothingBehind, Cond.code yX0_nothingBehind cX0_nothingBehind 3 (some .boolean), Cond.methodLink RX0 72 yX0_gather, Cond.instanceMethod yX0_gather, Cond.selects RX0 yX0_gather yX0_gather, Cond.code yX0_gather cX0_gather 5 none, Cond.methodLink RX0 85 yX1_clear, Cond.methodLink RX0 54 yX0_firstWordIn, Cond.instanceMethod yX0_firstWordIn, Cond.selects RX0 yX0_firstWordIn yX0_firstWordIn, Cond.code yX0_firstWordIn cX0_firstWordIn 5 (some .int)]
def wsX2_strike_r5 : List Cond := [Cond.methodLink RX0 37 yX0_runAt, Cond.instanceMethod yX0_runAt, Cond.selects RX0 yX0_runAt yX0_runAt, Cond.code yX0_runAt cX0_runAt 4 (some (.object "SlipLevels$Slips")), Cond.methodLink RX0 51 yX1_wordAt, Cond.instanceMethod yX1_wordAt, Cond.selects RX1 yX1_wordAt yX1_wordAt, Cond.code yX1_wordAt cX1_wordAt 2 (some .int), Cond.methodLink RX0 88 yX1_put, Cond.methodLink RX0 81 yX0_addRun]
def wsX2_strike : List Cond := .code yX2_strike cX2_strike 2 (some .boolean) :: ((wsX2_strike_r1 ++ (wsX2_strike_r2 ++ (wsX2_strike_r3 ++ (wsX2_strike_r4 ++ wsX2_strike_r5)))) ++ wsX20 ++ wsX10 ++ wsX00 ++ (vx_atS RX2 98 "java/lang/IndexOutOfBoundsException" ["java/lang/RuntimeException", "java/lang/Exception"]).filter goodWord)
def wsX2_bind_r1 : List Cond := [Cond.methodLink RX2 48 yX2_bindFrom, Cond.instanceMethod yX2_bindFrom, Cond.selects RX2 yX2_bindFrom yX2_bindFrom, Cond.initialized RX2, Cond.code yX2_bindFrom cX2_bindFrom 3 (some .int), Cond.fieldLink RX2 10 "SlipLevels" "deskSlips" "LSlipLevels$Slips;", Cond.fieldLink RX2 19 "SlipLevels" "binder" "LSlipLevels$Binder;", Cond.methodLink RX2 160 yX1_size, Cond.instanceMethod yX1_size, Cond.selects RX1 yX1_size yX1_size, Cond.initialized RX1, Cond.code yX1_size cX1_size 1 (some .int), Cond.fieldLink RX1 24 "SlipLevels$Slips" "size" "I", Cond.methodLink RX2 63 yX0_moves, Cond.instanceMethod yX0_moves, Cond.selects RX0 yX0_moves yX0_moves, Cond.initialized RX0, Cond.code yX0_moves cX0_moves 1 (some .int), Cond.fieldLink RX0 26 "SlipLevels$Binder" "moves" "I", Cond.methodLink RX2 163 yX0_addRun, Cond.instanceMethod yX0_addRun, Cond.selects RX0 yX0_addRun yX0_addRun, Cond.code yX0_addRun cX0_addRun 4 none, Cond.fieldLink RX0 17 "SlipLevels$Binder" "runs" "[I"]
def wsX2_bind_r2 : List Cond := [Cond.methodLink RX0 33 yX0_runsOf, Cond.instanceMethod yX0_runsOf, Cond.selects RX0 yX0_runsOf yX0_runsOf, Cond.code yX0_runsOf cX0_runsOf 2 (some .int), Cond.methodLink RX0 92 yX0_rowAt, Cond.instanceMethod yX0_rowAt, Cond.selects RX0 yX0_rowAt yX0_rowAt, Cond.code yX0_rowAt cX0_rowAt 3 (some (.object "SlipLevels$Slips")), Cond.fieldLink RX0 11 "SlipLevels$Binder" "rows" "[LSlipLevels$Slips;", Cond.methodLink RX0 41 yX1_size, Cond.methodLink RX0 95 yX1_copy, Cond.instanceMethod yX1_copy, Cond.selects RX1 yX1_copy yX1_copy, Cond.code yX1_copy cX1_copy 2 none, Cond.fieldLink RX1 9 "SlipLevels$Slips" "words" "[I", Cond.methodLink RX1 40 arraycopyName, Cond.native arraycopyName, Cond.static arraycopyName, Cond.initialized "java/lang/System", Cond.fieldLink RX1 28 "SlipLevels$Slips" "tombs" "I", Cond.fieldLink RX1 31 "SlipLevels$Slips" "least" "I", Cond.fieldLink RX1 34 "SlipLevels$Slips" "greatest" "I", Cond.fieldLink RX1 37 "SlipLevels$Slips" "sieve" "I", Cond.methodLink RX2 167 yX1_clear]
def wsX2_bind_r3 : List Cond := [Cond.instanceMethod yX1_clear, Cond.selects RX1 yX1_clear yX1_clear, Cond.code yX1_clear cX1_clear 1 none, Cond.methodLink RX1 18 yJ7_fill_53178, Cond.static yJ7_fill_53178, Cond.initialized RJ7, Cond.code yJ7_fill_53178 cJ7_fill_53178 4 none, Cond.methodLink RX2 70 yX0_settle, Cond.instanceMethod yX0_settle, Cond.selects RX0 yX0_settle yX0_settle, Cond.code yX0_settle cX0_settle 2 none, Cond.methodLink RX0 65 yX0_mergeLevel, Cond.instanceMethod yX0_mergeLevel, Cond.selects RX0 yX0_mergeLevel yX0_mergeLevel, Cond.code yX0_mergeLevel cX0_mergeLevel 2 none, Cond.methodLink RX0 76 Lib.Math.min.name, Cond.static Lib.Math.min.name, Cond.initialized "java/lang/Math", Cond.code Lib.Math.min.name Lib.Math.min.code 2 (some .int), Cond.fieldLink RX0 22 "SlipLevels$Binder" "merged" "LSlipLevels$Slips;", Cond.fieldLink RX0 30 "SlipLevels$Binder" "mergings" "I", Cond.methodLink RX0 69 yX0_nothingBehind, Cond.instanceMethod yX0_nothingBehind, Cond.selects RX0 yX0_nothingBehind yX0_nothingBehind]
def wsX2_bind_r4 : List Cond := [Cond.code yX0_nothingBehind cX0_nothingBehind 3 (some .boolean), Cond.methodLink RX0 72 yX0_gather, Cond.instanceMethod yX0_gather, Cond.selects RX0 yX0_gather yX0_gather, Cond.code yX0_gather cX0_gather 5 none, Cond.methodLink RX0 85 yX1_clear, Cond.methodLink RX0 54 yX0_firstWordIn, Cond.instanceMethod yX0_firstWordIn, Cond.selects RX0 yX0_firstWordIn yX0_firstWordIn, Cond.code yX0_firstWordIn cX0_firstWordIn 5 (some .int), Cond.methodLink RX0 37 yX0_runAt, Cond.instanceMethod yX0_runAt, Cond.selects RX0 yX0_runAt yX0_runAt, Cond.code yX0_runAt cX0_runAt 4 (some (.object "SlipLevels$Slips")), Cond.methodLink RX0 51 yX1_wordAt, Cond.instanceMethod yX1_wordAt, Cond.selects RX1 yX1_wordAt yX1_wordAt, Cond.code yX1_wordAt cX1_wordAt 2 (some .int), Cond.methodLink RX0 88 yX1_put, Cond.instanceMethod yX1_put, Cond.selects RX1 yX1_put yX1_put, Cond.code yX1_put cX1_put 4 none, Cond.methodLink RX1 46 Lib.Math.min.name, Cond.methodLink RX1 52 Lib.Math.max.name]
def wsX2_bind_r5 : List Cond := [Cond.static Lib.Math.max.name, Cond.code Lib.Math.max.name Lib.Math.max.code 2 (some .int), Cond.methodLink RX0 81 yX0_addRun]
def wsX2_bind : List Cond := .code yX2_bind cX2_bind 1 (some .int) :: ((wsX2_bind_r1 ++ (wsX2_bind_r2 ++ (wsX2_bind_r3 ++ (wsX2_bind_r4 ++ wsX2_bind_r5)))) ++ wsX20 ++ wsX10 ++ wsX00)
def wsX2_needLevel : List Cond := .code yX2_needLevel cX2_needLevel 1 none :: ([.classLink RX2 94 "java/lang/IndexOutOfBoundsException", .initialized "java/lang/IndexOutOfBoundsException"] ++ (vx_atS RX2 98 "java/lang/IndexOutOfBoundsException" ["java/lang/RuntimeException", "java/lang/Exception"]).filter goodWord)
def wsX2_merge_r1 : List Cond := [Cond.classLink RX2 58 "java/lang/IllegalStateException", Cond.initialized "java/lang/IllegalStateException", Cond.fieldLink RX2 19 "SlipLevels" "binder" "LSlipLevels$Binder;", Cond.methodLink RX2 52 yX2_needLevel, Cond.static yX2_needLevel, Cond.initialized RX2, Cond.code yX2_needLevel cX2_needLevel 1 none, Cond.classLink RX2 94 "java/lang/IndexOutOfBoundsException", Cond.initialized "java/lang/IndexOutOfBoundsException", Cond.methodLink RX2 55 yX0_runsOf, Cond.instanceMethod yX0_runsOf, Cond.selects RX0 yX0_runsOf yX0_runsOf, Cond.initialized RX0, Cond.code yX0_runsOf cX0_runsOf 2 (some .int), Cond.fieldLink RX0 17 "SlipLevels$Binder" "runs" "[I", Cond.methodLink RX2 63 yX0_moves, Cond.instanceMethod yX0_moves, Cond.selects RX0 yX0_moves yX0_moves, Cond.code yX0_moves cX0_moves 1 (some .int), Cond.fieldLink RX0 26 "SlipLevels$Binder" "moves" "I", Cond.methodLink RX2 67 yX0_mergeLevel, Cond.instanceMethod yX0_mergeLevel, Cond.selects RX0 yX0_mergeLevel yX0_mergeLevel, Cond.code yX0_mergeLevel cX0_mergeLevel 2 none]
def wsX2_merge_r2 : List Cond := [Cond.methodLink RX0 76 Lib.Math.min.name, Cond.static Lib.Math.min.name, Cond.initialized "java/lang/Math", Cond.code Lib.Math.min.name Lib.Math.min.code 2 (some .int), Cond.fieldLink RX0 22 "SlipLevels$Binder" "merged" "LSlipLevels$Slips;", Cond.fieldLink RX0 30 "SlipLevels$Binder" "mergings" "I", Cond.methodLink RX0 69 yX0_nothingBehind, Cond.instanceMethod yX0_nothingBehind, Cond.selects RX0 yX0_nothingBehind yX0_nothingBehind, Cond.code yX0_nothingBehind cX0_nothingBehind 3 (some .boolean), Cond.methodLink RX0 33 yX0_runsOf, Cond.methodLink RX0 72 yX0_gather, Cond.instanceMethod yX0_gather, Cond.selects RX0 yX0_gather yX0_gather, Cond.code yX0_gather cX0_gather 5 none, Cond.methodLink RX0 85 yX1_clear, Cond.instanceMethod yX1_clear, Cond.selects RX1 yX1_clear yX1_clear, Cond.initialized RX1, Cond.code yX1_clear cX1_clear 1 none, Cond.fieldLink RX1 9 "SlipLevels$Slips" "words" "[I", Cond.fieldLink RX1 24 "SlipLevels$Slips" "size" "I", Cond.fieldLink RX1 28 "SlipLevels$Slips" "tombs" "I", Cond.fieldLink RX1 31 "SlipLevels$Slips" "least" "I"]
def wsX2_merge_r3 : List Cond := [Cond.fieldLink RX1 34 "SlipLevels$Slips" "greatest" "I", Cond.fieldLink RX1 37 "SlipLevels$Slips" "sieve" "I", Cond.methodLink RX1 18 yJ7_fill_53178, Cond.static yJ7_fill_53178, Cond.initialized RJ7, Cond.code yJ7_fill_53178 cJ7_fill_53178 4 none, Cond.methodLink RX0 54 yX0_firstWordIn, Cond.instanceMethod yX0_firstWordIn, Cond.selects RX0 yX0_firstWordIn yX0_firstWordIn, Cond.code yX0_firstWordIn cX0_firstWordIn 5 (some .int), Cond.methodLink RX0 37 yX0_runAt, Cond.instanceMethod yX0_runAt, Cond.selects RX0 yX0_runAt yX0_runAt, Cond.code yX0_runAt cX0_runAt 4 (some (.object "SlipLevels$Slips")), Cond.fieldLink RX0 11 "SlipLevels$Binder" "rows" "[LSlipLevels$Slips;", Cond.methodLink RX0 51 yX1_wordAt, Cond.instanceMethod yX1_wordAt, Cond.selects RX1 yX1_wordAt yX1_wordAt, Cond.code yX1_wordAt cX1_wordAt 2 (some .int), Cond.methodLink RX0 88 yX1_put, Cond.instanceMethod yX1_put, Cond.selects RX1 yX1_put yX1_put, Cond.code yX1_put cX1_put 4 none, Cond.methodLink RX1 46 Lib.Math.min.name]
def wsX2_merge_r4 : List Cond := [Cond.methodLink RX1 52 Lib.Math.max.name, Cond.static Lib.Math.max.name, Cond.code Lib.Math.max.name Lib.Math.max.code 2 (some .int), Cond.methodLink RX0 81 yX0_addRun, Cond.instanceMethod yX0_addRun, Cond.selects RX0 yX0_addRun yX0_addRun, Cond.code yX0_addRun cX0_addRun 4 none, Cond.methodLink RX0 92 yX0_rowAt, Cond.instanceMethod yX0_rowAt, Cond.selects RX0 yX0_rowAt yX0_rowAt, Cond.code yX0_rowAt cX0_rowAt 3 (some (.object "SlipLevels$Slips")), Cond.methodLink RX0 41 yX1_size, Cond.instanceMethod yX1_size, Cond.selects RX1 yX1_size yX1_size, Cond.code yX1_size cX1_size 1 (some .int), Cond.methodLink RX0 95 yX1_copy, Cond.instanceMethod yX1_copy, Cond.selects RX1 yX1_copy yX1_copy, Cond.code yX1_copy cX1_copy 2 none, Cond.methodLink RX1 40 arraycopyName, Cond.native arraycopyName, Cond.static arraycopyName, Cond.initialized "java/lang/System", Cond.methodLink RX2 70 yX0_settle]
def wsX2_merge_r5 : List Cond := [Cond.instanceMethod yX0_settle, Cond.selects RX0 yX0_settle yX0_settle, Cond.code yX0_settle cX0_settle 2 none, Cond.methodLink RX0 65 yX0_mergeLevel]
def wsX2_merge : List Cond := .code yX2_merge cX2_merge 3 (some .int) :: ((wsX2_merge_r1 ++ (wsX2_merge_r2 ++ (wsX2_merge_r3 ++ (wsX2_merge_r4 ++ wsX2_merge_r5)))) ++ wsX20 ++ wsX00 ++ wsX10 ++ (vx_atS RX2 62 "java/lang/IllegalStateException" ["java/lang/RuntimeException", "java/lang/Exception"]).filter goodWord ++ (vx_atS RX2 98 "java/lang/IndexOutOfBoundsException" ["java/lang/RuntimeException", "java/lang/Exception"]).filter goodWord)
def wsX2_setRoom_r1 : List Cond := [Cond.classLink RX2 37 "java/lang/IllegalArgumentException", Cond.initialized "java/lang/IllegalArgumentException", Cond.fieldLink RX2 26 "SlipLevels" "deskRoom" "I", Cond.methodLink RX2 48 yX2_bindFrom, Cond.instanceMethod yX2_bindFrom, Cond.selects RX2 yX2_bindFrom yX2_bindFrom, Cond.initialized RX2, Cond.code yX2_bindFrom cX2_bindFrom 3 (some .int), Cond.fieldLink RX2 10 "SlipLevels" "deskSlips" "LSlipLevels$Slips;", Cond.fieldLink RX2 19 "SlipLevels" "binder" "LSlipLevels$Binder;", Cond.methodLink RX2 160 yX1_size, Cond.instanceMethod yX1_size, Cond.selects RX1 yX1_size yX1_size, Cond.initialized RX1, Cond.code yX1_size cX1_size 1 (some .int), Cond.fieldLink RX1 24 "SlipLevels$Slips" "size" "I", Cond.methodLink RX2 63 yX0_moves, Cond.instanceMethod yX0_moves, Cond.selects RX0 yX0_moves yX0_moves, Cond.initialized RX0, Cond.code yX0_moves cX0_moves 1 (some .int), Cond.fieldLink RX0 26 "SlipLevels$Binder" "moves" "I", Cond.methodLink RX2 163 yX0_addRun, Cond.instanceMethod yX0_addRun]
def wsX2_setRoom_r2 : List Cond := [Cond.selects RX0 yX0_addRun yX0_addRun, Cond.code yX0_addRun cX0_addRun 4 none, Cond.fieldLink RX0 17 "SlipLevels$Binder" "runs" "[I", Cond.methodLink RX0 33 yX0_runsOf, Cond.instanceMethod yX0_runsOf, Cond.selects RX0 yX0_runsOf yX0_runsOf, Cond.code yX0_runsOf cX0_runsOf 2 (some .int), Cond.methodLink RX0 92 yX0_rowAt, Cond.instanceMethod yX0_rowAt, Cond.selects RX0 yX0_rowAt yX0_rowAt, Cond.code yX0_rowAt cX0_rowAt 3 (some (.object "SlipLevels$Slips")), Cond.fieldLink RX0 11 "SlipLevels$Binder" "rows" "[LSlipLevels$Slips;", Cond.methodLink RX0 41 yX1_size, Cond.methodLink RX0 95 yX1_copy, Cond.instanceMethod yX1_copy, Cond.selects RX1 yX1_copy yX1_copy, Cond.code yX1_copy cX1_copy 2 none, Cond.fieldLink RX1 9 "SlipLevels$Slips" "words" "[I", Cond.methodLink RX1 40 arraycopyName, Cond.native arraycopyName, Cond.static arraycopyName, Cond.initialized "java/lang/System", Cond.fieldLink RX1 28 "SlipLevels$Slips" "tombs" "I", Cond.fieldLink RX1 31 "SlipLevels$Slips" "least" "I"]
def wsX2_setRoom_r3 : List Cond := [Cond.fieldLink RX1 34 "SlipLevels$Slips" "greatest" "I", Cond.fieldLink RX1 37 "SlipLevels$Slips" "sieve" "I", Cond.methodLink RX2 167 yX1_clear, Cond.instanceMethod yX1_clear, Cond.selects RX1 yX1_clear yX1_clear, Cond.code yX1_clear cX1_clear 1 none, Cond.methodLink RX1 18 yJ7_fill_53178, Cond.static yJ7_fill_53178, Cond.initialized RJ7, Cond.code yJ7_fill_53178 cJ7_fill_53178 4 none, Cond.methodLink RX2 70 yX0_settle, Cond.instanceMethod yX0_settle, Cond.selects RX0 yX0_settle yX0_settle, Cond.code yX0_settle cX0_settle 2 none, Cond.methodLink RX0 65 yX0_mergeLevel, Cond.instanceMethod yX0_mergeLevel, Cond.selects RX0 yX0_mergeLevel yX0_mergeLevel, Cond.code yX0_mergeLevel cX0_mergeLevel 2 none, Cond.methodLink RX0 76 Lib.Math.min.name, Cond.static Lib.Math.min.name, Cond.initialized "java/lang/Math", Cond.code Lib.Math.min.name Lib.Math.min.code 2 (some .int), Cond.fieldLink RX0 22 "SlipLevels$Binder" "merged" "LSlipLevels$Slips;", Cond.fieldLink RX0 30 "SlipLevels$Binder" "mergings" "I"]
def wsX2_setRoom_r4 : List Cond := [Cond.methodLink RX0 69 yX0_nothingBehind, Cond.instanceMethod yX0_nothingBehind, Cond.selects RX0 yX0_nothingBehind yX0_nothingBehind, Cond.code yX0_nothingBehind cX0_nothingBehind 3 (some .boolean), Cond.methodLink RX0 72 yX0_gather, Cond.instanceMethod yX0_gather, Cond.selects RX0 yX0_gather yX0_gather, Cond.code yX0_gather cX0_gather 5 none, Cond.methodLink RX0 85 yX1_clear, Cond.methodLink RX0 54 yX0_firstWordIn, Cond.instanceMethod yX0_firstWordIn, Cond.selects RX0 yX0_firstWordIn yX0_firstWordIn, Cond.code yX0_firstWordIn cX0_firstWordIn 5 (some .int), Cond.methodLink RX0 37 yX0_runAt, Cond.instanceMethod yX0_runAt, Cond.selects RX0 yX0_runAt yX0_runAt, Cond.code yX0_runAt cX0_runAt 4 (some (.object "SlipLevels$Slips")), Cond.methodLink RX0 51 yX1_wordAt, Cond.instanceMethod yX1_wordAt, Cond.selects RX1 yX1_wordAt yX1_wordAt, Cond.code yX1_wordAt cX1_wordAt 2 (some .int), Cond.methodLink RX0 88 yX1_put, Cond.instanceMethod yX1_put, Cond.selects RX1 yX1_put yX1_put]
def wsX2_setRoom_r5 : List Cond := [Cond.code yX1_put cX1_put 4 none, Cond.methodLink RX1 46 Lib.Math.min.name, Cond.methodLink RX1 52 Lib.Math.max.name, Cond.static Lib.Math.max.name, Cond.code Lib.Math.max.name Lib.Math.max.code 2 (some .int), Cond.methodLink RX0 81 yX0_addRun]
def wsX2_setRoom : List Cond := .code yX2_setRoom cX2_setRoom 3 (some .int) :: ((wsX2_setRoom_r1 ++ (wsX2_setRoom_r2 ++ (wsX2_setRoom_r3 ++ (wsX2_setRoom_r4 ++ wsX2_setRoom_r5)))) ++ wsX20 ++ wsX10 ++ wsX00 ++ (vx_atS RX2 41 "java/lang/IllegalArgumentException" ["java/lang/RuntimeException", "java/lang/Exception"]).filter goodWord)
def wsX2_detoursIn_r1 : List Cond := [Cond.fieldLink RX2 10 "SlipLevels" "deskSlips" "LSlipLevels$Slips;", Cond.methodLink RX2 176 yX1_has, Cond.instanceMethod yX1_has, Cond.selects RX1 yX1_has yX1_has, Cond.initialized RX1, Cond.code yX1_has cX1_has 2 (some .boolean), Cond.methodLink RX1 55 yX1_wordAt, Cond.instanceMethod yX1_wordAt, Cond.selects RX1 yX1_wordAt yX1_wordAt, Cond.code yX1_wordAt cX1_wordAt 2 (some .int), Cond.fieldLink RX1 9 "SlipLevels$Slips" "words" "[I", Cond.methodLink RX2 180 yX0_detoursTo, Cond.instanceMethod yX0_detoursTo, Cond.selects RX0 yX0_detoursTo yX0_detoursTo, Cond.initialized RX0, Cond.code yX0_detoursTo cX0_detoursTo 6 (some .int), Cond.methodLink RX0 33 yX0_runsOf, Cond.instanceMethod yX0_runsOf, Cond.selects RX0 yX0_runsOf yX0_runsOf, Cond.code yX0_runsOf cX0_runsOf 2 (some .int), Cond.fieldLink RX0 17 "SlipLevels$Binder" "runs" "[I", Cond.methodLink RX0 37 yX0_runAt, Cond.instanceMethod yX0_runAt, Cond.selects RX0 yX0_runAt yX0_runAt]
def wsX2_detoursIn_r2 : List Cond := [Cond.code yX0_runAt cX0_runAt 4 (some (.object "SlipLevels$Slips")), Cond.fieldLink RX0 11 "SlipLevels$Binder" "rows" "[LSlipLevels$Slips;", Cond.methodLink RX0 62 yX1_opensFor, Cond.instanceMethod yX1_opensFor, Cond.selects RX1 yX1_opensFor yX1_opensFor, Cond.code yX1_opensFor cX1_opensFor 2 (some .boolean), Cond.fieldLink RX1 31 "SlipLevels$Slips" "least" "I", Cond.fieldLink RX1 34 "SlipLevels$Slips" "greatest" "I", Cond.fieldLink RX1 37 "SlipLevels$Slips" "sieve" "I", Cond.methodLink RX0 58 yX1_has]
def wsX2_detoursIn : List Cond := .code yX2_detoursIn cX2_detoursIn 3 (some .int) :: ((wsX2_detoursIn_r1 ++ wsX2_detoursIn_r2) ++ wsX20 ++ wsX10 ++ wsX00)
def wsX2_wordOf : List Cond := .code yX2_wordOf cX2_wordOf 3 (some .int) :: ([.fieldLink RX2 10 "SlipLevels" "deskSlips" "LSlipLevels$Slips;", .fieldLink RX2 19 "SlipLevels" "binder" "LSlipLevels$Binder;", .methodLink RX2 170 yX1_wordAt, .instanceMethod yX1_wordAt, .selects RX1 yX1_wordAt yX1_wordAt, .initialized RX1, .code yX1_wordAt cX1_wordAt 2 (some .int), .fieldLink RX1 9 "SlipLevels$Slips" "words" "[I", .methodLink RX2 173 yX0_firstWord, .instanceMethod yX0_firstWord, .selects RX0 yX0_firstWord yX0_firstWord, .initialized RX0, .code yX0_firstWord cX0_firstWord 4 (some .int), .methodLink RX0 54 yX0_firstWordIn, .instanceMethod yX0_firstWordIn, .selects RX0 yX0_firstWordIn yX0_firstWordIn, .code yX0_firstWordIn cX0_firstWordIn 5 (some .int), .methodLink RX0 37 yX0_runAt, .instanceMethod yX0_runAt, .selects RX0 yX0_runAt yX0_runAt, .code yX0_runAt cX0_runAt 4 (some (.object "SlipLevels$Slips")), .fieldLink RX0 17 "SlipLevels$Binder" "runs" "[I", .fieldLink RX0 11 "SlipLevels$Binder" "rows" "[LSlipLevels$Slips;", .methodLink RX0 51 yX1_wordAt] ++ wsX20 ++ wsX10 ++ wsX00)
def wsX2_read_r1 : List Cond := [Cond.fieldLink RX2 30 "SlipLevels" "detoursRead" "I", Cond.fieldLink RX2 19 "SlipLevels" "binder" "LSlipLevels$Binder;", Cond.methodLink RX2 33 yX2_needNumber, Cond.static yX2_needNumber, Cond.initialized RX2, Cond.code yX2_needNumber cX2_needNumber 1 none, Cond.classLink RX2 94 "java/lang/IndexOutOfBoundsException", Cond.initialized "java/lang/IndexOutOfBoundsException", Cond.methodLink RX2 75 yX2_detoursIn, Cond.instanceMethod yX2_detoursIn, Cond.selects RX2 yX2_detoursIn yX2_detoursIn, Cond.code yX2_detoursIn cX2_detoursIn 3 (some .int), Cond.fieldLink RX2 10 "SlipLevels" "deskSlips" "LSlipLevels$Slips;", Cond.methodLink RX2 176 yX1_has, Cond.instanceMethod yX1_has, Cond.selects RX1 yX1_has yX1_has, Cond.initialized RX1, Cond.code yX1_has cX1_has 2 (some .boolean), Cond.methodLink RX1 55 yX1_wordAt, Cond.instanceMethod yX1_wordAt, Cond.selects RX1 yX1_wordAt yX1_wordAt, Cond.code yX1_wordAt cX1_wordAt 2 (some .int), Cond.fieldLink RX1 9 "SlipLevels$Slips" "words" "[I", Cond.methodLink RX2 180 yX0_detoursTo]
def wsX2_read_r2 : List Cond := [Cond.instanceMethod yX0_detoursTo, Cond.selects RX0 yX0_detoursTo yX0_detoursTo, Cond.initialized RX0, Cond.code yX0_detoursTo cX0_detoursTo 6 (some .int), Cond.methodLink RX0 33 yX0_runsOf, Cond.instanceMethod yX0_runsOf, Cond.selects RX0 yX0_runsOf yX0_runsOf, Cond.code yX0_runsOf cX0_runsOf 2 (some .int), Cond.fieldLink RX0 17 "SlipLevels$Binder" "runs" "[I", Cond.methodLink RX0 37 yX0_runAt, Cond.instanceMethod yX0_runAt, Cond.selects RX0 yX0_runAt yX0_runAt, Cond.code yX0_runAt cX0_runAt 4 (some (.object "SlipLevels$Slips")), Cond.fieldLink RX0 11 "SlipLevels$Binder" "rows" "[LSlipLevels$Slips;", Cond.methodLink RX0 62 yX1_opensFor, Cond.instanceMethod yX1_opensFor, Cond.selects RX1 yX1_opensFor yX1_opensFor, Cond.code yX1_opensFor cX1_opensFor 2 (some .boolean), Cond.fieldLink RX1 31 "SlipLevels$Slips" "least" "I", Cond.fieldLink RX1 34 "SlipLevels$Slips" "greatest" "I", Cond.fieldLink RX1 37 "SlipLevels$Slips" "sieve" "I", Cond.methodLink RX0 58 yX1_has, Cond.methodLink RX2 79 yX2_wordOf, Cond.instanceMethod yX2_wordOf]
def wsX2_read_r3 : List Cond := [Cond.selects RX2 yX2_wordOf yX2_wordOf, Cond.code yX2_wordOf cX2_wordOf 3 (some .int), Cond.methodLink RX2 170 yX1_wordAt, Cond.methodLink RX2 173 yX0_firstWord, Cond.instanceMethod yX0_firstWord, Cond.selects RX0 yX0_firstWord yX0_firstWord, Cond.code yX0_firstWord cX0_firstWord 4 (some .int), Cond.methodLink RX0 54 yX0_firstWordIn, Cond.instanceMethod yX0_firstWordIn, Cond.selects RX0 yX0_firstWordIn yX0_firstWordIn, Cond.code yX0_firstWordIn cX0_firstWordIn 5 (some .int), Cond.methodLink RX0 51 yX1_wordAt]
def wsX2_read : List Cond := .code yX2_read cX2_read 2 (some .int) :: ((wsX2_read_r1 ++ (wsX2_read_r2 ++ wsX2_read_r3)) ++ wsX20 ++ wsX10 ++ wsX00 ++ (vx_atS RX2 98 "java/lang/IndexOutOfBoundsException" ["java/lang/RuntimeException", "java/lang/Exception"]).filter goodWord)
def wsX2_detours_r1 : List Cond := [Cond.fieldLink RX2 19 "SlipLevels" "binder" "LSlipLevels$Binder;", Cond.methodLink RX2 33 yX2_needNumber, Cond.static yX2_needNumber, Cond.initialized RX2, Cond.code yX2_needNumber cX2_needNumber 1 none, Cond.classLink RX2 94 "java/lang/IndexOutOfBoundsException", Cond.initialized "java/lang/IndexOutOfBoundsException", Cond.methodLink RX2 75 yX2_detoursIn, Cond.instanceMethod yX2_detoursIn, Cond.selects RX2 yX2_detoursIn yX2_detoursIn, Cond.code yX2_detoursIn cX2_detoursIn 3 (some .int), Cond.fieldLink RX2 10 "SlipLevels" "deskSlips" "LSlipLevels$Slips;", Cond.methodLink RX2 176 yX1_has, Cond.instanceMethod yX1_has, Cond.selects RX1 yX1_has yX1_has, Cond.initialized RX1, Cond.code yX1_has cX1_has 2 (some .boolean), Cond.methodLink RX1 55 yX1_wordAt, Cond.instanceMethod yX1_wordAt, Cond.selects RX1 yX1_wordAt yX1_wordAt, Cond.code yX1_wordAt cX1_wordAt 2 (some .int), Cond.fieldLink RX1 9 "SlipLevels$Slips" "words" "[I", Cond.methodLink RX2 180 yX0_detoursTo, Cond.instanceMethod yX0_detoursTo]
def wsX2_detours_r2 : List Cond := [Cond.selects RX0 yX0_detoursTo yX0_detoursTo, Cond.initialized RX0, Cond.code yX0_detoursTo cX0_detoursTo 6 (some .int), Cond.methodLink RX0 33 yX0_runsOf, Cond.instanceMethod yX0_runsOf, Cond.selects RX0 yX0_runsOf yX0_runsOf, Cond.code yX0_runsOf cX0_runsOf 2 (some .int), Cond.fieldLink RX0 17 "SlipLevels$Binder" "runs" "[I", Cond.methodLink RX0 37 yX0_runAt, Cond.instanceMethod yX0_runAt, Cond.selects RX0 yX0_runAt yX0_runAt, Cond.code yX0_runAt cX0_runAt 4 (some (.object "SlipLevels$Slips")), Cond.fieldLink RX0 11 "SlipLevels$Binder" "rows" "[LSlipLevels$Slips;", Cond.methodLink RX0 62 yX1_opensFor, Cond.instanceMethod yX1_opensFor, Cond.selects RX1 yX1_opensFor yX1_opensFor, Cond.code yX1_opensFor cX1_opensFor 2 (some .boolean), Cond.fieldLink RX1 31 "SlipLevels$Slips" "least" "I", Cond.fieldLink RX1 34 "SlipLevels$Slips" "greatest" "I", Cond.fieldLink RX1 37 "SlipLevels$Slips" "sieve" "I", Cond.methodLink RX0 58 yX1_has]
def wsX2_detours : List Cond := .code yX2_detours cX2_detours 2 (some .int) :: ((wsX2_detours_r1 ++ wsX2_detours_r2) ++ wsX20 ++ wsX10 ++ wsX00 ++ (vx_atS RX2 98 "java/lang/IndexOutOfBoundsException" ["java/lang/RuntimeException", "java/lang/Exception"]).filter goodWord)
def wsX2_next_r1 : List Cond := [Cond.methodLink RX2 33 yX2_needNumber, Cond.static yX2_needNumber, Cond.initialized RX2, Cond.code yX2_needNumber cX2_needNumber 1 none, Cond.classLink RX2 94 "java/lang/IndexOutOfBoundsException", Cond.initialized "java/lang/IndexOutOfBoundsException", Cond.methodLink RX2 79 yX2_wordOf, Cond.instanceMethod yX2_wordOf, Cond.selects RX2 yX2_wordOf yX2_wordOf, Cond.code yX2_wordOf cX2_wordOf 3 (some .int), Cond.fieldLink RX2 10 "SlipLevels" "deskSlips" "LSlipLevels$Slips;", Cond.fieldLink RX2 19 "SlipLevels" "binder" "LSlipLevels$Binder;", Cond.methodLink RX2 170 yX1_wordAt, Cond.instanceMethod yX1_wordAt, Cond.selects RX1 yX1_wordAt yX1_wordAt, Cond.initialized RX1, Cond.code yX1_wordAt cX1_wordAt 2 (some .int), Cond.fieldLink RX1 9 "SlipLevels$Slips" "words" "[I", Cond.methodLink RX2 173 yX0_firstWord, Cond.instanceMethod yX0_firstWord, Cond.selects RX0 yX0_firstWord yX0_firstWord, Cond.initialized RX0, Cond.code yX0_firstWord cX0_firstWord 4 (some .int), Cond.methodLink RX0 54 yX0_firstWordIn]
def wsX2_next_r2 : List Cond := [Cond.instanceMethod yX0_firstWordIn, Cond.selects RX0 yX0_firstWordIn yX0_firstWordIn, Cond.code yX0_firstWordIn cX0_firstWordIn 5 (some .int), Cond.methodLink RX0 37 yX0_runAt, Cond.instanceMethod yX0_runAt, Cond.selects RX0 yX0_runAt yX0_runAt, Cond.code yX0_runAt cX0_runAt 4 (some (.object "SlipLevels$Slips")), Cond.fieldLink RX0 17 "SlipLevels$Binder" "runs" "[I", Cond.fieldLink RX0 11 "SlipLevels$Binder" "rows" "[LSlipLevels$Slips;", Cond.methodLink RX0 51 yX1_wordAt]
def wsX2_next : List Cond := .code yX2_next cX2_next 3 (some .int) :: ((wsX2_next_r1 ++ wsX2_next_r2) ++ wsX20 ++ wsX10 ++ wsX00 ++ (vx_atS RX2 98 "java/lang/IndexOutOfBoundsException" ["java/lang/RuntimeException", "java/lang/Exception"]).filter goodWord)
def wsX2_sum_r1 : List Cond := [Cond.classLink RX2 37 "java/lang/IllegalArgumentException", Cond.initialized "java/lang/IllegalArgumentException", Cond.methodLink RX2 84 Lib.Math.max.name, Cond.static Lib.Math.max.name, Cond.initialized "java/lang/Math", Cond.code Lib.Math.max.name Lib.Math.max.code 2 (some .int), Cond.methodLink RX2 33 yX2_needNumber, Cond.static yX2_needNumber, Cond.initialized RX2, Cond.code yX2_needNumber cX2_needNumber 1 none, Cond.classLink RX2 94 "java/lang/IndexOutOfBoundsException", Cond.initialized "java/lang/IndexOutOfBoundsException", Cond.methodLink RX2 79 yX2_wordOf, Cond.instanceMethod yX2_wordOf, Cond.selects RX2 yX2_wordOf yX2_wordOf, Cond.code yX2_wordOf cX2_wordOf 3 (some .int), Cond.fieldLink RX2 10 "SlipLevels" "deskSlips" "LSlipLevels$Slips;", Cond.fieldLink RX2 19 "SlipLevels" "binder" "LSlipLevels$Binder;", Cond.methodLink RX2 170 yX1_wordAt, Cond.instanceMethod yX1_wordAt, Cond.selects RX1 yX1_wordAt yX1_wordAt, Cond.initialized RX1, Cond.code yX1_wordAt cX1_wordAt 2 (some .int), Cond.fieldLink RX1 9 "SlipLevels$Slips" "words" "[I"]
def wsX2_sum_r2 : List Cond := [Cond.methodLink RX2 173 yX0_firstWord, Cond.instanceMethod yX0_firstWord, Cond.selects RX0 yX0_firstWord yX0_firstWord, Cond.initialized RX0, Cond.code yX0_firstWord cX0_firstWord 4 (some .int), Cond.methodLink RX0 54 yX0_firstWordIn, Cond.instanceMethod yX0_firstWordIn, Cond.selects RX0 yX0_firstWordIn yX0_firstWordIn, Cond.code yX0_firstWordIn cX0_firstWordIn 5 (some .int), Cond.methodLink RX0 37 yX0_runAt, Cond.instanceMethod yX0_runAt, Cond.selects RX0 yX0_runAt yX0_runAt, Cond.code yX0_runAt cX0_runAt 4 (some (.object "SlipLevels$Slips")), Cond.fieldLink RX0 17 "SlipLevels$Binder" "runs" "[I", Cond.fieldLink RX0 11 "SlipLevels$Binder" "rows" "[LSlipLevels$Slips;", Cond.methodLink RX0 51 yX1_wordAt]
def wsX2_sum : List Cond := .code yX2_sum cX2_sum 5 (some .int) :: ((wsX2_sum_r1 ++ wsX2_sum_r2) ++ wsX20 ++ wsX10 ++ wsX00 ++ (vx_atS RX2 41 "java/lang/IllegalArgumentException" ["java/lang/RuntimeException", "java/lang/Exception"]).filter goodWord ++ (vx_atS RX2 98 "java/lang/IndexOutOfBoundsException" ["java/lang/RuntimeException", "java/lang/Exception"]).filter goodWord)
def wsX2_standingIn_r1 : List Cond := [Cond.fieldLink RX2 10 "SlipLevels" "deskSlips" "LSlipLevels$Slips;", Cond.fieldLink RX2 19 "SlipLevels" "binder" "LSlipLevels$Binder;", Cond.methodLink RX2 176 yX1_has, Cond.instanceMethod yX1_has, Cond.selects RX1 yX1_has yX1_has, Cond.initialized RX1, Cond.code yX1_has cX1_has 2 (some .boolean), Cond.methodLink RX1 55 yX1_wordAt, Cond.instanceMethod yX1_wordAt, Cond.selects RX1 yX1_wordAt yX1_wordAt, Cond.code yX1_wordAt cX1_wordAt 2 (some .int), Cond.fieldLink RX1 9 "SlipLevels$Slips" "words" "[I", Cond.methodLink RX2 183 yX0_isFirst, Cond.instanceMethod yX0_isFirst, Cond.selects RX0 yX0_isFirst yX0_isFirst, Cond.initialized RX0, Cond.code yX0_isFirst cX0_isFirst 6 (some .boolean), Cond.methodLink RX0 54 yX0_firstWordIn, Cond.instanceMethod yX0_firstWordIn, Cond.selects RX0 yX0_firstWordIn yX0_firstWordIn, Cond.code yX0_firstWordIn cX0_firstWordIn 5 (some .int), Cond.methodLink RX0 37 yX0_runAt, Cond.instanceMethod yX0_runAt, Cond.selects RX0 yX0_runAt yX0_runAt]
def wsX2_standingIn_r2 : List Cond := [Cond.code yX0_runAt cX0_runAt 4 (some (.object "SlipLevels$Slips")), Cond.fieldLink RX0 17 "SlipLevels$Binder" "runs" "[I", Cond.fieldLink RX0 11 "SlipLevels$Binder" "rows" "[LSlipLevels$Slips;", Cond.methodLink RX0 51 yX1_wordAt, Cond.methodLink RX0 58 yX1_has]
def wsX2_standingIn : List Cond := .code yX2_standingIn cX2_standingIn 5 (some .int) :: ((wsX2_standingIn_r1 ++ wsX2_standingIn_r2) ++ wsX20 ++ wsX10 ++ wsX00)
def wsX2_run_r1 : List Cond := [Cond.classLink RX2 94 "java/lang/IndexOutOfBoundsException", Cond.initialized "java/lang/IndexOutOfBoundsException", Cond.fieldLink RX2 19 "SlipLevels" "binder" "LSlipLevels$Binder;", Cond.methodLink RX2 52 yX2_needLevel, Cond.static yX2_needLevel, Cond.initialized RX2, Cond.code yX2_needLevel cX2_needLevel 1 none, Cond.methodLink RX2 90 yX0_runAt, Cond.instanceMethod yX0_runAt, Cond.selects RX0 yX0_runAt yX0_runAt, Cond.initialized RX0, Cond.code yX0_runAt cX0_runAt 4 (some (.object "SlipLevels$Slips")), Cond.fieldLink RX0 17 "SlipLevels$Binder" "runs" "[I", Cond.fieldLink RX0 11 "SlipLevels$Binder" "rows" "[LSlipLevels$Slips;", Cond.methodLink RX2 101 yX2_standingIn, Cond.instanceMethod yX2_standingIn, Cond.selects RX2 yX2_standingIn yX2_standingIn, Cond.code yX2_standingIn cX2_standingIn 5 (some .int), Cond.fieldLink RX2 10 "SlipLevels" "deskSlips" "LSlipLevels$Slips;", Cond.methodLink RX2 176 yX1_has, Cond.instanceMethod yX1_has, Cond.selects RX1 yX1_has yX1_has, Cond.initialized RX1, Cond.code yX1_has cX1_has 2 (some .boolean)]
def wsX2_run_r2 : List Cond := [Cond.methodLink RX1 55 yX1_wordAt, Cond.instanceMethod yX1_wordAt, Cond.selects RX1 yX1_wordAt yX1_wordAt, Cond.code yX1_wordAt cX1_wordAt 2 (some .int), Cond.fieldLink RX1 9 "SlipLevels$Slips" "words" "[I", Cond.methodLink RX2 183 yX0_isFirst, Cond.instanceMethod yX0_isFirst, Cond.selects RX0 yX0_isFirst yX0_isFirst, Cond.code yX0_isFirst cX0_isFirst 6 (some .boolean), Cond.methodLink RX0 54 yX0_firstWordIn, Cond.instanceMethod yX0_firstWordIn, Cond.selects RX0 yX0_firstWordIn yX0_firstWordIn, Cond.code yX0_firstWordIn cX0_firstWordIn 5 (some .int), Cond.methodLink RX0 37 yX0_runAt, Cond.methodLink RX0 51 yX1_wordAt, Cond.methodLink RX0 58 yX1_has, Cond.methodLink RX2 104 yX1_fact, Cond.instanceMethod yX1_fact, Cond.selects RX1 yX1_fact yX1_fact, Cond.code yX1_fact cX1_fact 2 (some .int), Cond.fieldLink RX1 24 "SlipLevels$Slips" "size" "I", Cond.fieldLink RX1 31 "SlipLevels$Slips" "least" "I", Cond.fieldLink RX1 34 "SlipLevels$Slips" "greatest" "I", Cond.fieldLink RX1 37 "SlipLevels$Slips" "sieve" "I"]
def wsX2_run_r3 : List Cond := [Cond.fieldLink RX1 28 "SlipLevels$Slips" "tombs" "I"]
def wsX2_run : List Cond := .code yX2_run cX2_run 5 (some .int) :: ((wsX2_run_r1 ++ (wsX2_run_r2 ++ wsX2_run_r3)) ++ wsX20 ++ wsX00 ++ wsX10 ++ (vx_atS RX2 98 "java/lang/IndexOutOfBoundsException" ["java/lang/RuntimeException", "java/lang/Exception"]).filter goodWord)
def wsX2_slipAt : List Cond := .code yX2_slipAt cX2_slipAt 3 (some .int) :: ([.classLink RX2 94 "java/lang/IndexOutOfBoundsException", .initialized "java/lang/IndexOutOfBoundsException", .methodLink RX2 152 yX1_numberAt, .instanceMethod yX1_numberAt, .selects RX1 yX1_numberAt yX1_numberAt, .initialized RX1, .code yX1_numberAt cX1_numberAt 4 (some .int), .fieldLink RX1 24 "SlipLevels$Slips" "size" "I", .methodLink RX1 59 yX1_has, .instanceMethod yX1_has, .selects RX1 yX1_has yX1_has, .code yX1_has cX1_has 2 (some .boolean), .methodLink RX1 55 yX1_wordAt, .instanceMethod yX1_wordAt, .selects RX1 yX1_wordAt yX1_wordAt, .code yX1_wordAt cX1_wordAt 2 (some .int), .fieldLink RX1 9 "SlipLevels$Slips" "words" "[I", .methodLink RX2 157 yX1_told, .instanceMethod yX1_told, .selects RX1 yX1_told yX1_told, .code yX1_told cX1_told 3 (some .int)] ++ wsX10 ++ (vx_atS RX2 98 "java/lang/IndexOutOfBoundsException" ["java/lang/RuntimeException", "java/lang/Exception"]).filter goodWord)
def wsX2_slip_r1 : List Cond := [Cond.classLink RX2 94 "java/lang/IndexOutOfBoundsException", Cond.initialized "java/lang/IndexOutOfBoundsException", Cond.fieldLink RX2 19 "SlipLevels" "binder" "LSlipLevels$Binder;", Cond.methodLink RX2 52 yX2_needLevel, Cond.static yX2_needLevel, Cond.initialized RX2, Cond.code yX2_needLevel cX2_needLevel 1 none, Cond.methodLink RX2 90 yX0_runAt, Cond.instanceMethod yX0_runAt, Cond.selects RX0 yX0_runAt yX0_runAt, Cond.initialized RX0, Cond.code yX0_runAt cX0_runAt 4 (some (.object "SlipLevels$Slips")), Cond.fieldLink RX0 17 "SlipLevels$Binder" "runs" "[I", Cond.fieldLink RX0 11 "SlipLevels$Binder" "rows" "[LSlipLevels$Slips;", Cond.methodLink RX2 107 yX2_slipAt, Cond.static yX2_slipAt, Cond.code yX2_slipAt cX2_slipAt 3 (some .int), Cond.methodLink RX2 152 yX1_numberAt, Cond.instanceMethod yX1_numberAt, Cond.selects RX1 yX1_numberAt yX1_numberAt, Cond.initialized RX1, Cond.code yX1_numberAt cX1_numberAt 4 (some .int), Cond.fieldLink RX1 24 "SlipLevels$Slips" "size" "I", Cond.methodLink RX1 59 yX1_has]
def wsX2_slip_r2 : List Cond := [Cond.instanceMethod yX1_has, Cond.selects RX1 yX1_has yX1_has, Cond.code yX1_has cX1_has 2 (some .boolean), Cond.methodLink RX1 55 yX1_wordAt, Cond.instanceMethod yX1_wordAt, Cond.selects RX1 yX1_wordAt yX1_wordAt, Cond.code yX1_wordAt cX1_wordAt 2 (some .int), Cond.fieldLink RX1 9 "SlipLevels$Slips" "words" "[I", Cond.methodLink RX2 157 yX1_told, Cond.instanceMethod yX1_told, Cond.selects RX1 yX1_told yX1_told, Cond.code yX1_told cX1_told 3 (some .int)]
def wsX2_slip : List Cond := .code yX2_slip cX2_slip 5 (some .int) :: ((wsX2_slip_r1 ++ wsX2_slip_r2) ++ wsX20 ++ wsX00 ++ wsX10 ++ (vx_atS RX2 98 "java/lang/IndexOutOfBoundsException" ["java/lang/RuntimeException", "java/lang/Exception"]).filter goodWord)
def wsX2_desk_r1 : List Cond := [Cond.fieldLink RX2 10 "SlipLevels" "deskSlips" "LSlipLevels$Slips;", Cond.methodLink RX2 107 yX2_slipAt, Cond.static yX2_slipAt, Cond.initialized RX2, Cond.code yX2_slipAt cX2_slipAt 3 (some .int), Cond.classLink RX2 94 "java/lang/IndexOutOfBoundsException", Cond.initialized "java/lang/IndexOutOfBoundsException", Cond.methodLink RX2 152 yX1_numberAt, Cond.instanceMethod yX1_numberAt, Cond.selects RX1 yX1_numberAt yX1_numberAt, Cond.initialized RX1, Cond.code yX1_numberAt cX1_numberAt 4 (some .int), Cond.fieldLink RX1 24 "SlipLevels$Slips" "size" "I", Cond.methodLink RX1 59 yX1_has, Cond.instanceMethod yX1_has, Cond.selects RX1 yX1_has yX1_has, Cond.code yX1_has cX1_has 2 (some .boolean), Cond.methodLink RX1 55 yX1_wordAt, Cond.instanceMethod yX1_wordAt, Cond.selects RX1 yX1_wordAt yX1_wordAt, Cond.code yX1_wordAt cX1_wordAt 2 (some .int), Cond.fieldLink RX1 9 "SlipLevels$Slips" "words" "[I", Cond.methodLink RX2 157 yX1_told, Cond.instanceMethod yX1_told]
def wsX2_desk_r2 : List Cond := [Cond.selects RX1 yX1_told yX1_told, Cond.code yX1_told cX1_told 3 (some .int)]
def wsX2_desk : List Cond := .code yX2_desk cX2_desk 2 (some .int) :: ((wsX2_desk_r1 ++ wsX2_desk_r2) ++ wsX20 ++ wsX10 ++ (vx_atS RX2 98 "java/lang/IndexOutOfBoundsException" ["java/lang/RuntimeException", "java/lang/Exception"]).filter goodWord)
def wsX2_level_r1 : List Cond := [Cond.classLink RX2 94 "java/lang/IndexOutOfBoundsException", Cond.initialized "java/lang/IndexOutOfBoundsException", Cond.fieldLink RX2 19 "SlipLevels" "binder" "LSlipLevels$Binder;", Cond.methodLink RX2 52 yX2_needLevel, Cond.static yX2_needLevel, Cond.initialized RX2, Cond.code yX2_needLevel cX2_needLevel 1 none, Cond.methodLink RX2 55 yX0_runsOf, Cond.instanceMethod yX0_runsOf, Cond.selects RX0 yX0_runsOf yX0_runsOf, Cond.initialized RX0, Cond.code yX0_runsOf cX0_runsOf 2 (some .int), Cond.fieldLink RX0 17 "SlipLevels$Binder" "runs" "[I", Cond.methodLink RX2 113 yX0_slipsOf, Cond.instanceMethod yX0_slipsOf, Cond.selects RX0 yX0_slipsOf yX0_slipsOf, Cond.code yX0_slipsOf cX0_slipsOf 5 (some .int), Cond.methodLink RX0 33 yX0_runsOf, Cond.methodLink RX0 37 yX0_runAt, Cond.instanceMethod yX0_runAt, Cond.selects RX0 yX0_runAt yX0_runAt, Cond.code yX0_runAt cX0_runAt 4 (some (.object "SlipLevels$Slips")), Cond.fieldLink RX0 11 "SlipLevels$Binder" "rows" "[LSlipLevels$Slips;", Cond.methodLink RX0 41 yX1_size]
def wsX2_level_r2 : List Cond := [Cond.instanceMethod yX1_size, Cond.selects RX1 yX1_size yX1_size, Cond.initialized RX1, Cond.code yX1_size cX1_size 1 (some .int), Cond.fieldLink RX1 24 "SlipLevels$Slips" "size" "I", Cond.methodLink RX2 116 yX0_tombsOf, Cond.instanceMethod yX0_tombsOf, Cond.selects RX0 yX0_tombsOf yX0_tombsOf, Cond.code yX0_tombsOf cX0_tombsOf 5 (some .int), Cond.methodLink RX0 45 yX1_tombs, Cond.instanceMethod yX1_tombs, Cond.selects RX1 yX1_tombs yX1_tombs, Cond.code yX1_tombs cX1_tombs 1 (some .int), Cond.fieldLink RX1 28 "SlipLevels$Slips" "tombs" "I"]
def wsX2_level : List Cond := .code yX2_level cX2_level 3 (some .int) :: ((wsX2_level_r1 ++ wsX2_level_r2) ++ wsX20 ++ wsX00 ++ wsX10 ++ (vx_atS RX2 98 "java/lang/IndexOutOfBoundsException" ["java/lang/RuntimeException", "java/lang/Exception"]).filter goodWord)
def wsX2_wordsStanding_r1 : List Cond := [Cond.methodLink RX2 79 yX2_wordOf, Cond.instanceMethod yX2_wordOf, Cond.selects RX2 yX2_wordOf yX2_wordOf, Cond.initialized RX2, Cond.code yX2_wordOf cX2_wordOf 3 (some .int), Cond.fieldLink RX2 10 "SlipLevels" "deskSlips" "LSlipLevels$Slips;", Cond.fieldLink RX2 19 "SlipLevels" "binder" "LSlipLevels$Binder;", Cond.methodLink RX2 170 yX1_wordAt, Cond.instanceMethod yX1_wordAt, Cond.selects RX1 yX1_wordAt yX1_wordAt, Cond.initialized RX1, Cond.code yX1_wordAt cX1_wordAt 2 (some .int), Cond.fieldLink RX1 9 "SlipLevels$Slips" "words" "[I", Cond.methodLink RX2 173 yX0_firstWord, Cond.instanceMethod yX0_firstWord, Cond.selects RX0 yX0_firstWord yX0_firstWord, Cond.initialized RX0, Cond.code yX0_firstWord cX0_firstWord 4 (some .int), Cond.methodLink RX0 54 yX0_firstWordIn, Cond.instanceMethod yX0_firstWordIn, Cond.selects RX0 yX0_firstWordIn yX0_firstWordIn, Cond.code yX0_firstWordIn cX0_firstWordIn 5 (some .int), Cond.methodLink RX0 37 yX0_runAt, Cond.instanceMethod yX0_runAt]
def wsX2_wordsStanding_r2 : List Cond := [Cond.selects RX0 yX0_runAt yX0_runAt, Cond.code yX0_runAt cX0_runAt 4 (some (.object "SlipLevels$Slips")), Cond.fieldLink RX0 17 "SlipLevels$Binder" "runs" "[I", Cond.fieldLink RX0 11 "SlipLevels$Binder" "rows" "[LSlipLevels$Slips;", Cond.methodLink RX0 51 yX1_wordAt]
def wsX2_wordsStanding : List Cond := .code yX2_wordsStanding cX2_wordsStanding 3 (some .int) :: ((wsX2_wordsStanding_r1 ++ wsX2_wordsStanding_r2) ++ wsX20 ++ wsX10 ++ wsX00)
def wsX2_tally_r1 : List Cond := [Cond.fieldLink RX2 10 "SlipLevels" "deskSlips" "LSlipLevels$Slips;", Cond.fieldLink RX2 26 "SlipLevels" "deskRoom" "I", Cond.fieldLink RX2 19 "SlipLevels" "binder" "LSlipLevels$Binder;", Cond.fieldLink RX2 30 "SlipLevels" "detoursRead" "I", Cond.methodLink RX2 160 yX1_size, Cond.instanceMethod yX1_size, Cond.selects RX1 yX1_size yX1_size, Cond.initialized RX1, Cond.code yX1_size cX1_size 1 (some .int), Cond.fieldLink RX1 24 "SlipLevels$Slips" "size" "I", Cond.methodLink RX2 127 yX0_slips, Cond.instanceMethod yX0_slips, Cond.selects RX0 yX0_slips yX0_slips, Cond.initialized RX0, Cond.code yX0_slips cX0_slips 3 (some .int), Cond.methodLink RX0 48 yX0_slipsOf, Cond.instanceMethod yX0_slipsOf, Cond.selects RX0 yX0_slipsOf yX0_slipsOf, Cond.code yX0_slipsOf cX0_slipsOf 5 (some .int), Cond.methodLink RX0 33 yX0_runsOf, Cond.instanceMethod yX0_runsOf, Cond.selects RX0 yX0_runsOf yX0_runsOf, Cond.code yX0_runsOf cX0_runsOf 2 (some .int), Cond.fieldLink RX0 17 "SlipLevels$Binder" "runs" "[I"]
def wsX2_tally_r2 : List Cond := [Cond.methodLink RX0 37 yX0_runAt, Cond.instanceMethod yX0_runAt, Cond.selects RX0 yX0_runAt yX0_runAt, Cond.code yX0_runAt cX0_runAt 4 (some (.object "SlipLevels$Slips")), Cond.fieldLink RX0 11 "SlipLevels$Binder" "rows" "[LSlipLevels$Slips;", Cond.methodLink RX0 41 yX1_size, Cond.methodLink RX2 187 yX2_wordsStanding, Cond.instanceMethod yX2_wordsStanding, Cond.selects RX2 yX2_wordsStanding yX2_wordsStanding, Cond.initialized RX2, Cond.code yX2_wordsStanding cX2_wordsStanding 3 (some .int), Cond.methodLink RX2 79 yX2_wordOf, Cond.instanceMethod yX2_wordOf, Cond.selects RX2 yX2_wordOf yX2_wordOf, Cond.code yX2_wordOf cX2_wordOf 3 (some .int), Cond.methodLink RX2 170 yX1_wordAt, Cond.instanceMethod yX1_wordAt, Cond.selects RX1 yX1_wordAt yX1_wordAt, Cond.code yX1_wordAt cX1_wordAt 2 (some .int), Cond.fieldLink RX1 9 "SlipLevels$Slips" "words" "[I", Cond.methodLink RX2 173 yX0_firstWord, Cond.instanceMethod yX0_firstWord, Cond.selects RX0 yX0_firstWord yX0_firstWord, Cond.code yX0_firstWord cX0_firstWord 4 (some .int)]
def wsX2_tally_r3 : List Cond := [Cond.methodLink RX0 54 yX0_firstWordIn, Cond.instanceMethod yX0_firstWordIn, Cond.selects RX0 yX0_firstWordIn yX0_firstWordIn, Cond.code yX0_firstWordIn cX0_firstWordIn 5 (some .int), Cond.methodLink RX0 51 yX1_wordAt, Cond.methodLink RX2 63 yX0_moves, Cond.instanceMethod yX0_moves, Cond.selects RX0 yX0_moves yX0_moves, Cond.code yX0_moves cX0_moves 1 (some .int), Cond.fieldLink RX0 26 "SlipLevels$Binder" "moves" "I", Cond.methodLink RX2 190 yX0_mergings, Cond.instanceMethod yX0_mergings, Cond.selects RX0 yX0_mergings yX0_mergings, Cond.code yX0_mergings cX0_mergings 1 (some .int), Cond.fieldLink RX0 30 "SlipLevels$Binder" "mergings" "I"]
def wsX2_tally : List Cond := .code yX2_tally cX2_tally 2 (some .int) :: ((wsX2_tally_r1 ++ (wsX2_tally_r2 ++ wsX2_tally_r3)) ++ wsX20 ++ wsX10 ++ wsX00)
def wsX2_count_r1 : List Cond := [Cond.classLink RX2 94 "java/lang/IndexOutOfBoundsException", Cond.initialized "java/lang/IndexOutOfBoundsException", Cond.methodLink RX2 121 yX2_tally, Cond.instanceMethod yX2_tally, Cond.selects RX2 yX2_tally yX2_tally, Cond.initialized RX2, Cond.code yX2_tally cX2_tally 2 (some .int), Cond.fieldLink RX2 10 "SlipLevels" "deskSlips" "LSlipLevels$Slips;", Cond.fieldLink RX2 26 "SlipLevels" "deskRoom" "I", Cond.fieldLink RX2 19 "SlipLevels" "binder" "LSlipLevels$Binder;", Cond.fieldLink RX2 30 "SlipLevels" "detoursRead" "I", Cond.methodLink RX2 160 yX1_size, Cond.instanceMethod yX1_size, Cond.selects RX1 yX1_size yX1_size, Cond.initialized RX1, Cond.code yX1_size cX1_size 1 (some .int), Cond.fieldLink RX1 24 "SlipLevels$Slips" "size" "I", Cond.methodLink RX2 127 yX0_slips, Cond.instanceMethod yX0_slips, Cond.selects RX0 yX0_slips yX0_slips, Cond.initialized RX0, Cond.code yX0_slips cX0_slips 3 (some .int), Cond.methodLink RX0 48 yX0_slipsOf, Cond.instanceMethod yX0_slipsOf]
def wsX2_count_r2 : List Cond := [Cond.selects RX0 yX0_slipsOf yX0_slipsOf, Cond.code yX0_slipsOf cX0_slipsOf 5 (some .int), Cond.methodLink RX0 33 yX0_runsOf, Cond.instanceMethod yX0_runsOf, Cond.selects RX0 yX0_runsOf yX0_runsOf, Cond.code yX0_runsOf cX0_runsOf 2 (some .int), Cond.fieldLink RX0 17 "SlipLevels$Binder" "runs" "[I", Cond.methodLink RX0 37 yX0_runAt, Cond.instanceMethod yX0_runAt, Cond.selects RX0 yX0_runAt yX0_runAt, Cond.code yX0_runAt cX0_runAt 4 (some (.object "SlipLevels$Slips")), Cond.fieldLink RX0 11 "SlipLevels$Binder" "rows" "[LSlipLevels$Slips;", Cond.methodLink RX0 41 yX1_size, Cond.methodLink RX2 187 yX2_wordsStanding, Cond.instanceMethod yX2_wordsStanding, Cond.selects RX2 yX2_wordsStanding yX2_wordsStanding, Cond.code yX2_wordsStanding cX2_wordsStanding 3 (some .int), Cond.methodLink RX2 79 yX2_wordOf, Cond.instanceMethod yX2_wordOf, Cond.selects RX2 yX2_wordOf yX2_wordOf, Cond.code yX2_wordOf cX2_wordOf 3 (some .int), Cond.methodLink RX2 170 yX1_wordAt, Cond.instanceMethod yX1_wordAt, Cond.selects RX1 yX1_wordAt yX1_wordAt]
def wsX2_count_r3 : List Cond := [Cond.code yX1_wordAt cX1_wordAt 2 (some .int), Cond.fieldLink RX1 9 "SlipLevels$Slips" "words" "[I", Cond.methodLink RX2 173 yX0_firstWord, Cond.instanceMethod yX0_firstWord, Cond.selects RX0 yX0_firstWord yX0_firstWord, Cond.code yX0_firstWord cX0_firstWord 4 (some .int), Cond.methodLink RX0 54 yX0_firstWordIn, Cond.instanceMethod yX0_firstWordIn, Cond.selects RX0 yX0_firstWordIn yX0_firstWordIn, Cond.code yX0_firstWordIn cX0_firstWordIn 5 (some .int), Cond.methodLink RX0 51 yX1_wordAt, Cond.methodLink RX2 63 yX0_moves, Cond.instanceMethod yX0_moves, Cond.selects RX0 yX0_moves yX0_moves, Cond.code yX0_moves cX0_moves 1 (some .int), Cond.fieldLink RX0 26 "SlipLevels$Binder" "moves" "I", Cond.methodLink RX2 190 yX0_mergings, Cond.instanceMethod yX0_mergings, Cond.selects RX0 yX0_mergings yX0_mergings, Cond.code yX0_mergings cX0_mergings 1 (some .int), Cond.fieldLink RX0 30 "SlipLevels$Binder" "mergings" "I"]
def wsX2_count : List Cond := .code yX2_count cX2_count 2 (some .int) :: ((wsX2_count_r1 ++ (wsX2_count_r2 ++ wsX2_count_r3)) ++ wsX20 ++ wsX10 ++ wsX00 ++ (vx_atS RX2 98 "java/lang/IndexOutOfBoundsException" ["java/lang/RuntimeException", "java/lang/Exception"]).filter goodWord)
def wsX2_tryMerging_r1 : List Cond := [Cond.fieldLink RX2 23 "SlipLevels" "trial" "LSlipLevels$Binder;", Cond.fieldLink RX2 19 "SlipLevels" "binder" "LSlipLevels$Binder;", Cond.methodLink RX2 193 yX0_copyRuns, Cond.instanceMethod yX0_copyRuns, Cond.selects RX0 yX0_copyRuns yX0_copyRuns, Cond.initialized RX0, Cond.code yX0_copyRuns cX0_copyRuns 5 none, Cond.fieldLink RX0 17 "SlipLevels$Binder" "runs" "[I", Cond.methodLink RX0 92 yX0_rowAt, Cond.instanceMethod yX0_rowAt, Cond.selects RX0 yX0_rowAt yX0_rowAt, Cond.code yX0_rowAt cX0_rowAt 3 (some (.object "SlipLevels$Slips")), Cond.fieldLink RX0 11 "SlipLevels$Binder" "rows" "[LSlipLevels$Slips;", Cond.methodLink RX0 95 yX1_copy, Cond.instanceMethod yX1_copy, Cond.selects RX1 yX1_copy yX1_copy, Cond.initialized RX1, Cond.code yX1_copy cX1_copy 2 none, Cond.fieldLink RX1 9 "SlipLevels$Slips" "words" "[I", Cond.methodLink RX1 40 arraycopyName, Cond.native arraycopyName, Cond.static arraycopyName, Cond.initialized "java/lang/System", Cond.fieldLink RX1 24 "SlipLevels$Slips" "size" "I"]
def wsX2_tryMerging_r2 : List Cond := [Cond.fieldLink RX1 28 "SlipLevels$Slips" "tombs" "I", Cond.fieldLink RX1 31 "SlipLevels$Slips" "least" "I", Cond.fieldLink RX1 34 "SlipLevels$Slips" "greatest" "I", Cond.fieldLink RX1 37 "SlipLevels$Slips" "sieve" "I", Cond.methodLink RX2 67 yX0_mergeLevel, Cond.instanceMethod yX0_mergeLevel, Cond.selects RX0 yX0_mergeLevel yX0_mergeLevel, Cond.code yX0_mergeLevel cX0_mergeLevel 2 none, Cond.methodLink RX0 76 Lib.Math.min.name, Cond.static Lib.Math.min.name, Cond.initialized "java/lang/Math", Cond.code Lib.Math.min.name Lib.Math.min.code 2 (some .int), Cond.fieldLink RX0 22 "SlipLevels$Binder" "merged" "LSlipLevels$Slips;", Cond.fieldLink RX0 30 "SlipLevels$Binder" "mergings" "I", Cond.methodLink RX0 69 yX0_nothingBehind, Cond.instanceMethod yX0_nothingBehind, Cond.selects RX0 yX0_nothingBehind yX0_nothingBehind, Cond.code yX0_nothingBehind cX0_nothingBehind 3 (some .boolean), Cond.methodLink RX0 33 yX0_runsOf, Cond.instanceMethod yX0_runsOf, Cond.selects RX0 yX0_runsOf yX0_runsOf, Cond.code yX0_runsOf cX0_runsOf 2 (some .int), Cond.methodLink RX0 72 yX0_gather, Cond.instanceMethod yX0_gather]
def wsX2_tryMerging_r3 : List Cond := [Cond.selects RX0 yX0_gather yX0_gather, Cond.code yX0_gather cX0_gather 5 none, Cond.methodLink RX0 85 yX1_clear, Cond.instanceMethod yX1_clear, Cond.selects RX1 yX1_clear yX1_clear, Cond.code yX1_clear cX1_clear 1 none, Cond.methodLink RX1 18 yJ7_fill_53178, Cond.static yJ7_fill_53178, Cond.initialized RJ7, Cond.code yJ7_fill_53178 cJ7_fill_53178 4 none, Cond.methodLink RX0 54 yX0_firstWordIn, Cond.instanceMethod yX0_firstWordIn, Cond.selects RX0 yX0_firstWordIn yX0_firstWordIn, Cond.code yX0_firstWordIn cX0_firstWordIn 5 (some .int), Cond.methodLink RX0 37 yX0_runAt, Cond.instanceMethod yX0_runAt, Cond.selects RX0 yX0_runAt yX0_runAt, Cond.code yX0_runAt cX0_runAt 4 (some (.object "SlipLevels$Slips")), Cond.methodLink RX0 51 yX1_wordAt, Cond.instanceMethod yX1_wordAt, Cond.selects RX1 yX1_wordAt yX1_wordAt, Cond.code yX1_wordAt cX1_wordAt 2 (some .int), Cond.methodLink RX0 88 yX1_put, Cond.instanceMethod yX1_put]
def wsX2_tryMerging_r4 : List Cond := [Cond.selects RX1 yX1_put yX1_put, Cond.code yX1_put cX1_put 4 none, Cond.methodLink RX1 46 Lib.Math.min.name, Cond.methodLink RX1 52 Lib.Math.max.name, Cond.static Lib.Math.max.name, Cond.code Lib.Math.max.name Lib.Math.max.code 2 (some .int), Cond.methodLink RX0 81 yX0_addRun, Cond.instanceMethod yX0_addRun, Cond.selects RX0 yX0_addRun yX0_addRun, Cond.code yX0_addRun cX0_addRun 4 none, Cond.fieldLink RX0 26 "SlipLevels$Binder" "moves" "I", Cond.methodLink RX0 41 yX1_size, Cond.instanceMethod yX1_size, Cond.selects RX1 yX1_size yX1_size, Cond.code yX1_size cX1_size 1 (some .int), Cond.methodLink RX2 70 yX0_settle, Cond.instanceMethod yX0_settle, Cond.selects RX0 yX0_settle yX0_settle, Cond.code yX0_settle cX0_settle 2 none, Cond.methodLink RX0 65 yX0_mergeLevel]
def wsX2_tryMerging : List Cond := .code yX2_tryMerging cX2_tryMerging 2 none :: ((wsX2_tryMerging_r1 ++ (wsX2_tryMerging_r2 ++ (wsX2_tryMerging_r3 ++ wsX2_tryMerging_r4))) ++ wsX20 ++ wsX00 ++ wsX10)
def wsX2_spares_r1 : List Cond := [Cond.fieldLink RX2 19 "SlipLevels" "binder" "LSlipLevels$Binder;", Cond.fieldLink RX2 23 "SlipLevels" "trial" "LSlipLevels$Binder;", Cond.methodLink RX2 52 yX2_needLevel, Cond.static yX2_needLevel, Cond.initialized RX2, Cond.code yX2_needLevel cX2_needLevel 1 none, Cond.classLink RX2 94 "java/lang/IndexOutOfBoundsException", Cond.initialized "java/lang/IndexOutOfBoundsException", Cond.methodLink RX2 55 yX0_runsOf, Cond.instanceMethod yX0_runsOf, Cond.selects RX0 yX0_runsOf yX0_runsOf, Cond.initialized RX0, Cond.code yX0_runsOf cX0_runsOf 2 (some .int), Cond.fieldLink RX0 17 "SlipLevels$Binder" "runs" "[I", Cond.methodLink RX2 124 yX2_tryMerging, Cond.instanceMethod yX2_tryMerging, Cond.selects RX2 yX2_tryMerging yX2_tryMerging, Cond.code yX2_tryMerging cX2_tryMerging 2 none, Cond.methodLink RX2 193 yX0_copyRuns, Cond.instanceMethod yX0_copyRuns, Cond.selects RX0 yX0_copyRuns yX0_copyRuns, Cond.code yX0_copyRuns cX0_copyRuns 5 none, Cond.methodLink RX0 92 yX0_rowAt, Cond.instanceMethod yX0_rowAt]
def wsX2_spares_r2 : List Cond := [Cond.selects RX0 yX0_rowAt yX0_rowAt, Cond.code yX0_rowAt cX0_rowAt 3 (some (.object "SlipLevels$Slips")), Cond.fieldLink RX0 11 "SlipLevels$Binder" "rows" "[LSlipLevels$Slips;", Cond.methodLink RX0 95 yX1_copy, Cond.instanceMethod yX1_copy, Cond.selects RX1 yX1_copy yX1_copy, Cond.initialized RX1, Cond.code yX1_copy cX1_copy 2 none, Cond.fieldLink RX1 9 "SlipLevels$Slips" "words" "[I", Cond.methodLink RX1 40 arraycopyName, Cond.native arraycopyName, Cond.static arraycopyName, Cond.initialized "java/lang/System", Cond.fieldLink RX1 24 "SlipLevels$Slips" "size" "I", Cond.fieldLink RX1 28 "SlipLevels$Slips" "tombs" "I", Cond.fieldLink RX1 31 "SlipLevels$Slips" "least" "I", Cond.fieldLink RX1 34 "SlipLevels$Slips" "greatest" "I", Cond.fieldLink RX1 37 "SlipLevels$Slips" "sieve" "I", Cond.methodLink RX2 67 yX0_mergeLevel, Cond.instanceMethod yX0_mergeLevel, Cond.selects RX0 yX0_mergeLevel yX0_mergeLevel, Cond.code yX0_mergeLevel cX0_mergeLevel 2 none, Cond.methodLink RX0 76 Lib.Math.min.name, Cond.static Lib.Math.min.name]
def wsX2_spares_r3 : List Cond := [Cond.initialized "java/lang/Math", Cond.code Lib.Math.min.name Lib.Math.min.code 2 (some .int), Cond.fieldLink RX0 22 "SlipLevels$Binder" "merged" "LSlipLevels$Slips;", Cond.fieldLink RX0 30 "SlipLevels$Binder" "mergings" "I", Cond.methodLink RX0 69 yX0_nothingBehind, Cond.instanceMethod yX0_nothingBehind, Cond.selects RX0 yX0_nothingBehind yX0_nothingBehind, Cond.code yX0_nothingBehind cX0_nothingBehind 3 (some .boolean), Cond.methodLink RX0 33 yX0_runsOf, Cond.methodLink RX0 72 yX0_gather, Cond.instanceMethod yX0_gather, Cond.selects RX0 yX0_gather yX0_gather, Cond.code yX0_gather cX0_gather 5 none, Cond.methodLink RX0 85 yX1_clear, Cond.instanceMethod yX1_clear, Cond.selects RX1 yX1_clear yX1_clear, Cond.code yX1_clear cX1_clear 1 none, Cond.methodLink RX1 18 yJ7_fill_53178, Cond.static yJ7_fill_53178, Cond.initialized RJ7, Cond.code yJ7_fill_53178 cJ7_fill_53178 4 none, Cond.methodLink RX0 54 yX0_firstWordIn, Cond.instanceMethod yX0_firstWordIn, Cond.selects RX0 yX0_firstWordIn yX0_firstWordIn]
def wsX2_spares_r4 : List Cond := [Cond.code yX0_firstWordIn cX0_firstWordIn 5 (some .int), Cond.methodLink RX0 37 yX0_runAt, Cond.instanceMethod yX0_runAt, Cond.selects RX0 yX0_runAt yX0_runAt, Cond.code yX0_runAt cX0_runAt 4 (some (.object "SlipLevels$Slips")), Cond.methodLink RX0 51 yX1_wordAt, Cond.instanceMethod yX1_wordAt, Cond.selects RX1 yX1_wordAt yX1_wordAt, Cond.code yX1_wordAt cX1_wordAt 2 (some .int), Cond.methodLink RX0 88 yX1_put, Cond.instanceMethod yX1_put, Cond.selects RX1 yX1_put yX1_put, Cond.code yX1_put cX1_put 4 none, Cond.methodLink RX1 46 Lib.Math.min.name, Cond.methodLink RX1 52 Lib.Math.max.name, Cond.static Lib.Math.max.name, Cond.code Lib.Math.max.name Lib.Math.max.code 2 (some .int), Cond.methodLink RX0 81 yX0_addRun, Cond.instanceMethod yX0_addRun, Cond.selects RX0 yX0_addRun yX0_addRun, Cond.code yX0_addRun cX0_addRun 4 none, Cond.fieldLink RX0 26 "SlipLevels$Binder" "moves" "I", Cond.methodLink RX0 41 yX1_size, Cond.instanceMethod yX1_size]
def wsX2_spares_r5 : List Cond := [Cond.selects RX1 yX1_size yX1_size, Cond.code yX1_size cX1_size 1 (some .int), Cond.methodLink RX2 70 yX0_settle, Cond.instanceMethod yX0_settle, Cond.selects RX0 yX0_settle yX0_settle, Cond.code yX0_settle cX0_settle 2 none, Cond.methodLink RX0 65 yX0_mergeLevel, Cond.methodLink RX2 127 yX0_slips, Cond.instanceMethod yX0_slips, Cond.selects RX0 yX0_slips yX0_slips, Cond.code yX0_slips cX0_slips 3 (some .int), Cond.methodLink RX0 48 yX0_slipsOf, Cond.instanceMethod yX0_slipsOf, Cond.selects RX0 yX0_slipsOf yX0_slipsOf, Cond.code yX0_slipsOf cX0_slipsOf 5 (some .int)]
def wsX2_spares : List Cond := .code yX2_spares cX2_spares 2 (some .int) :: ((wsX2_spares_r1 ++ (wsX2_spares_r2 ++ (wsX2_spares_r3 ++ (wsX2_spares_r4 ++ wsX2_spares_r5)))) ++ wsX20 ++ wsX00 ++ wsX10 ++ (vx_atS RX2 98 "java/lang/IndexOutOfBoundsException" ["java/lang/RuntimeException", "java/lang/Exception"]).filter goodWord)
def wsX2_allDetoursIn_r1 : List Cond := [Cond.methodLink RX2 75 yX2_detoursIn, Cond.instanceMethod yX2_detoursIn, Cond.selects RX2 yX2_detoursIn yX2_detoursIn, Cond.initialized RX2, Cond.code yX2_detoursIn cX2_detoursIn 3 (some .int), Cond.fieldLink RX2 10 "SlipLevels" "deskSlips" "LSlipLevels$Slips;", Cond.methodLink RX2 176 yX1_has, Cond.instanceMethod yX1_has, Cond.selects RX1 yX1_has yX1_has, Cond.initialized RX1, Cond.code yX1_has cX1_has 2 (some .boolean), Cond.methodLink RX1 55 yX1_wordAt, Cond.instanceMethod yX1_wordAt, Cond.selects RX1 yX1_wordAt yX1_wordAt, Cond.code yX1_wordAt cX1_wordAt 2 (some .int), Cond.fieldLink RX1 9 "SlipLevels$Slips" "words" "[I", Cond.methodLink RX2 180 yX0_detoursTo, Cond.instanceMethod yX0_detoursTo, Cond.selects RX0 yX0_detoursTo yX0_detoursTo, Cond.initialized RX0, Cond.code yX0_detoursTo cX0_detoursTo 6 (some .int), Cond.methodLink RX0 33 yX0_runsOf, Cond.instanceMethod yX0_runsOf, Cond.selects RX0 yX0_runsOf yX0_runsOf]
def wsX2_allDetoursIn_r2 : List Cond := [Cond.code yX0_runsOf cX0_runsOf 2 (some .int), Cond.fieldLink RX0 17 "SlipLevels$Binder" "runs" "[I", Cond.methodLink RX0 37 yX0_runAt, Cond.instanceMethod yX0_runAt, Cond.selects RX0 yX0_runAt yX0_runAt, Cond.code yX0_runAt cX0_runAt 4 (some (.object "SlipLevels$Slips")), Cond.fieldLink RX0 11 "SlipLevels$Binder" "rows" "[LSlipLevels$Slips;", Cond.methodLink RX0 62 yX1_opensFor, Cond.instanceMethod yX1_opensFor, Cond.selects RX1 yX1_opensFor yX1_opensFor, Cond.code yX1_opensFor cX1_opensFor 2 (some .boolean), Cond.fieldLink RX1 31 "SlipLevels$Slips" "least" "I", Cond.fieldLink RX1 34 "SlipLevels$Slips" "greatest" "I", Cond.fieldLink RX1 37 "SlipLevels$Slips" "sieve" "I", Cond.methodLink RX0 58 yX1_has]
def wsX2_allDetoursIn : List Cond := .code yX2_allDetoursIn cX2_allDetoursIn 4 (some .int) :: ((wsX2_allDetoursIn_r1 ++ wsX2_allDetoursIn_r2) ++ wsX20 ++ wsX10 ++ wsX00)
def wsX2_advise_r1 : List Cond := [Cond.fieldLink RX2 19 "SlipLevels" "binder" "LSlipLevels$Binder;", Cond.fieldLink RX2 23 "SlipLevels" "trial" "LSlipLevels$Binder;", Cond.methodLink RX2 55 yX0_runsOf, Cond.instanceMethod yX0_runsOf, Cond.selects RX0 yX0_runsOf yX0_runsOf, Cond.initialized RX0, Cond.code yX0_runsOf cX0_runsOf 2 (some .int), Cond.fieldLink RX0 17 "SlipLevels$Binder" "runs" "[I", Cond.methodLink RX2 124 yX2_tryMerging, Cond.instanceMethod yX2_tryMerging, Cond.selects RX2 yX2_tryMerging yX2_tryMerging, Cond.initialized RX2, Cond.code yX2_tryMerging cX2_tryMerging 2 none, Cond.methodLink RX2 193 yX0_copyRuns, Cond.instanceMethod yX0_copyRuns, Cond.selects RX0 yX0_copyRuns yX0_copyRuns, Cond.code yX0_copyRuns cX0_copyRuns 5 none, Cond.methodLink RX0 92 yX0_rowAt, Cond.instanceMethod yX0_rowAt, Cond.selects RX0 yX0_rowAt yX0_rowAt, Cond.code yX0_rowAt cX0_rowAt 3 (some (.object "SlipLevels$Slips")), Cond.fieldLink RX0 11 "SlipLevels$Binder" "rows" "[LSlipLevels$Slips;", Cond.methodLink RX0 95 yX1_copy, Cond.instanceMethod yX1_copy]
def wsX2_advise_r2 : List Cond := [Cond.selects RX1 yX1_copy yX1_copy, Cond.initialized RX1, Cond.code yX1_copy cX1_copy 2 none, Cond.fieldLink RX1 9 "SlipLevels$Slips" "words" "[I", Cond.methodLink RX1 40 arraycopyName, Cond.native arraycopyName, Cond.static arraycopyName, Cond.initialized "java/lang/System", Cond.fieldLink RX1 24 "SlipLevels$Slips" "size" "I", Cond.fieldLink RX1 28 "SlipLevels$Slips" "tombs" "I", Cond.fieldLink RX1 31 "SlipLevels$Slips" "least" "I", Cond.fieldLink RX1 34 "SlipLevels$Slips" "greatest" "I", Cond.fieldLink RX1 37 "SlipLevels$Slips" "sieve" "I", Cond.methodLink RX2 67 yX0_mergeLevel, Cond.instanceMethod yX0_mergeLevel, Cond.selects RX0 yX0_mergeLevel yX0_mergeLevel, Cond.code yX0_mergeLevel cX0_mergeLevel 2 none, Cond.methodLink RX0 76 Lib.Math.min.name, Cond.static Lib.Math.min.name, Cond.initialized "java/lang/Math", Cond.code Lib.Math.min.name Lib.Math.min.code 2 (some .int), Cond.fieldLink RX0 22 "SlipLevels$Binder" "merged" "LSlipLevels$Slips;", Cond.fieldLink RX0 30 "SlipLevels$Binder" "mergings" "I", Cond.methodLink RX0 69 yX0_nothingBehind]
def wsX2_advise_r3 : List Cond := [Cond.instanceMethod yX0_nothingBehind, Cond.selects RX0 yX0_nothingBehind yX0_nothingBehind, Cond.code yX0_nothingBehind cX0_nothingBehind 3 (some .boolean), Cond.methodLink RX0 33 yX0_runsOf, Cond.methodLink RX0 72 yX0_gather, Cond.instanceMethod yX0_gather, Cond.selects RX0 yX0_gather yX0_gather, Cond.code yX0_gather cX0_gather 5 none, Cond.methodLink RX0 85 yX1_clear, Cond.instanceMethod yX1_clear, Cond.selects RX1 yX1_clear yX1_clear, Cond.code yX1_clear cX1_clear 1 none, Cond.methodLink RX1 18 yJ7_fill_53178, Cond.static yJ7_fill_53178, Cond.initialized RJ7, Cond.code yJ7_fill_53178 cJ7_fill_53178 4 none, Cond.methodLink RX0 54 yX0_firstWordIn, Cond.instanceMethod yX0_firstWordIn, Cond.selects RX0 yX0_firstWordIn yX0_firstWordIn, Cond.code yX0_firstWordIn cX0_firstWordIn 5 (some .int), Cond.methodLink RX0 37 yX0_runAt, Cond.instanceMethod yX0_runAt, Cond.selects RX0 yX0_runAt yX0_runAt, Cond.code yX0_runAt cX0_runAt 4 (some (.object "SlipLevels$Slips"))]
def wsX2_advise_r4 : List Cond := [Cond.methodLink RX0 51 yX1_wordAt, Cond.instanceMethod yX1_wordAt, Cond.selects RX1 yX1_wordAt yX1_wordAt, Cond.code yX1_wordAt cX1_wordAt 2 (some .int), Cond.methodLink RX0 88 yX1_put, Cond.instanceMethod yX1_put, Cond.selects RX1 yX1_put yX1_put, Cond.code yX1_put cX1_put 4 none, Cond.methodLink RX1 46 Lib.Math.min.name, Cond.methodLink RX1 52 Lib.Math.max.name, Cond.static Lib.Math.max.name, Cond.code Lib.Math.max.name Lib.Math.max.code 2 (some .int), Cond.methodLink RX0 81 yX0_addRun, Cond.instanceMethod yX0_addRun, Cond.selects RX0 yX0_addRun yX0_addRun, Cond.code yX0_addRun cX0_addRun 4 none, Cond.fieldLink RX0 26 "SlipLevels$Binder" "moves" "I", Cond.methodLink RX0 41 yX1_size, Cond.instanceMethod yX1_size, Cond.selects RX1 yX1_size yX1_size, Cond.code yX1_size cX1_size 1 (some .int), Cond.methodLink RX2 70 yX0_settle, Cond.instanceMethod yX0_settle, Cond.selects RX0 yX0_settle yX0_settle]
def wsX2_advise_r5 : List Cond := [Cond.code yX0_settle cX0_settle 2 none, Cond.methodLink RX0 65 yX0_mergeLevel, Cond.methodLink RX2 130 yX2_allDetoursIn, Cond.instanceMethod yX2_allDetoursIn, Cond.selects RX2 yX2_allDetoursIn yX2_allDetoursIn, Cond.code yX2_allDetoursIn cX2_allDetoursIn 4 (some .int), Cond.methodLink RX2 75 yX2_detoursIn, Cond.instanceMethod yX2_detoursIn, Cond.selects RX2 yX2_detoursIn yX2_detoursIn, Cond.code yX2_detoursIn cX2_detoursIn 3 (some .int), Cond.fieldLink RX2 10 "SlipLevels" "deskSlips" "LSlipLevels$Slips;", Cond.methodLink RX2 176 yX1_has, Cond.instanceMethod yX1_has, Cond.selects RX1 yX1_has yX1_has, Cond.code yX1_has cX1_has 2 (some .boolean), Cond.methodLink RX1 55 yX1_wordAt, Cond.methodLink RX2 180 yX0_detoursTo, Cond.instanceMethod yX0_detoursTo, Cond.selects RX0 yX0_detoursTo yX0_detoursTo, Cond.code yX0_detoursTo cX0_detoursTo 6 (some .int), Cond.methodLink RX0 62 yX1_opensFor, Cond.instanceMethod yX1_opensFor, Cond.selects RX1 yX1_opensFor yX1_opensFor, Cond.code yX1_opensFor cX1_opensFor 2 (some .boolean)]
def wsX2_advise_r6 : List Cond := [Cond.methodLink RX0 58 yX1_has]
def wsX2_advise : List Cond := .code yX2_advise cX2_advise 5 (some .int) :: ((wsX2_advise_r1 ++ (wsX2_advise_r2 ++ (wsX2_advise_r3 ++ (wsX2_advise_r4 ++ (wsX2_advise_r5 ++ wsX2_advise_r6))))) ++ wsX20 ++ wsX00 ++ wsX10)
def wsX2_mean_r1 : List Cond := [Cond.fieldLink RX2 19 "SlipLevels" "binder" "LSlipLevels$Binder;", Cond.constantDouble RX2 134 (4634204016564240384), Cond.methodLink RX2 130 yX2_allDetoursIn, Cond.instanceMethod yX2_allDetoursIn, Cond.selects RX2 yX2_allDetoursIn yX2_allDetoursIn, Cond.initialized RX2, Cond.code yX2_allDetoursIn cX2_allDetoursIn 4 (some .int), Cond.methodLink RX2 75 yX2_detoursIn, Cond.instanceMethod yX2_detoursIn, Cond.selects RX2 yX2_detoursIn yX2_detoursIn, Cond.code yX2_detoursIn cX2_detoursIn 3 (some .int), Cond.fieldLink RX2 10 "SlipLevels" "deskSlips" "LSlipLevels$Slips;", Cond.methodLink RX2 176 yX1_has, Cond.instanceMethod yX1_has, Cond.selects RX1 yX1_has yX1_has, Cond.initialized RX1, Cond.code yX1_has cX1_has 2 (some .boolean), Cond.methodLink RX1 55 yX1_wordAt, Cond.instanceMethod yX1_wordAt, Cond.selects RX1 yX1_wordAt yX1_wordAt, Cond.code yX1_wordAt cX1_wordAt 2 (some .int), Cond.fieldLink RX1 9 "SlipLevels$Slips" "words" "[I", Cond.methodLink RX2 180 yX0_detoursTo, Cond.instanceMethod yX0_detoursTo]
def wsX2_mean_r2 : List Cond := [Cond.selects RX0 yX0_detoursTo yX0_detoursTo, Cond.initialized RX0, Cond.code yX0_detoursTo cX0_detoursTo 6 (some .int), Cond.methodLink RX0 33 yX0_runsOf, Cond.instanceMethod yX0_runsOf, Cond.selects RX0 yX0_runsOf yX0_runsOf, Cond.code yX0_runsOf cX0_runsOf 2 (some .int), Cond.fieldLink RX0 17 "SlipLevels$Binder" "runs" "[I", Cond.methodLink RX0 37 yX0_runAt, Cond.instanceMethod yX0_runAt, Cond.selects RX0 yX0_runAt yX0_runAt, Cond.code yX0_runAt cX0_runAt 4 (some (.object "SlipLevels$Slips")), Cond.fieldLink RX0 11 "SlipLevels$Binder" "rows" "[LSlipLevels$Slips;", Cond.methodLink RX0 62 yX1_opensFor, Cond.instanceMethod yX1_opensFor, Cond.selects RX1 yX1_opensFor yX1_opensFor, Cond.code yX1_opensFor cX1_opensFor 2 (some .boolean), Cond.fieldLink RX1 31 "SlipLevels$Slips" "least" "I", Cond.fieldLink RX1 34 "SlipLevels$Slips" "greatest" "I", Cond.fieldLink RX1 37 "SlipLevels$Slips" "sieve" "I", Cond.methodLink RX0 58 yX1_has]
def wsX2_mean : List Cond := .code yX2_mean cX2_mean 1 (some .double) :: ((wsX2_mean_r1 ++ wsX2_mean_r2) ++ wsX20 ++ wsX10 ++ wsX00)
def wsX2_digestSlips : List Cond := .code yX2_digestSlips cX2_digestSlips 6 (some .long) :: ([.constantLong RX2 138 (31), .methodLink RX2 176 yX1_has, .instanceMethod yX1_has, .selects RX1 yX1_has yX1_has, .initialized RX1, .code yX1_has cX1_has 2 (some .boolean), .methodLink RX1 55 yX1_wordAt, .instanceMethod yX1_wordAt, .selects RX1 yX1_wordAt yX1_wordAt, .code yX1_wordAt cX1_wordAt 2 (some .int), .fieldLink RX1 9 "SlipLevels$Slips" "words" "[I", .methodLink RX2 157 yX1_told, .instanceMethod yX1_told, .selects RX1 yX1_told yX1_told, .code yX1_told cX1_told 3 (some .int)] ++ wsX10)
def wsX2_digestLevel_r1 : List Cond := [Cond.fieldLink RX2 19 "SlipLevels" "binder" "LSlipLevels$Binder;", Cond.constantLong RX2 138 (31), Cond.methodLink RX2 55 yX0_runsOf, Cond.instanceMethod yX0_runsOf, Cond.selects RX0 yX0_runsOf yX0_runsOf, Cond.initialized RX0, Cond.code yX0_runsOf cX0_runsOf 2 (some .int), Cond.fieldLink RX0 17 "SlipLevels$Binder" "runs" "[I", Cond.methodLink RX2 90 yX0_runAt, Cond.instanceMethod yX0_runAt, Cond.selects RX0 yX0_runAt yX0_runAt, Cond.code yX0_runAt cX0_runAt 4 (some (.object "SlipLevels$Slips")), Cond.fieldLink RX0 11 "SlipLevels$Binder" "rows" "[LSlipLevels$Slips;", Cond.methodLink RX2 101 yX2_standingIn, Cond.instanceMethod yX2_standingIn, Cond.selects RX2 yX2_standingIn yX2_standingIn, Cond.initialized RX2, Cond.code yX2_standingIn cX2_standingIn 5 (some .int), Cond.fieldLink RX2 10 "SlipLevels" "deskSlips" "LSlipLevels$Slips;", Cond.methodLink RX2 176 yX1_has, Cond.instanceMethod yX1_has, Cond.selects RX1 yX1_has yX1_has, Cond.initialized RX1, Cond.code yX1_has cX1_has 2 (some .boolean)]
def wsX2_digestLevel_r2 : List Cond := [Cond.methodLink RX1 55 yX1_wordAt, Cond.instanceMethod yX1_wordAt, Cond.selects RX1 yX1_wordAt yX1_wordAt, Cond.code yX1_wordAt cX1_wordAt 2 (some .int), Cond.fieldLink RX1 9 "SlipLevels$Slips" "words" "[I", Cond.methodLink RX2 183 yX0_isFirst, Cond.instanceMethod yX0_isFirst, Cond.selects RX0 yX0_isFirst yX0_isFirst, Cond.code yX0_isFirst cX0_isFirst 6 (some .boolean), Cond.methodLink RX0 54 yX0_firstWordIn, Cond.instanceMethod yX0_firstWordIn, Cond.selects RX0 yX0_firstWordIn yX0_firstWordIn, Cond.code yX0_firstWordIn cX0_firstWordIn 5 (some .int), Cond.methodLink RX0 37 yX0_runAt, Cond.methodLink RX0 51 yX1_wordAt, Cond.methodLink RX0 58 yX1_has, Cond.methodLink RX2 104 yX1_fact, Cond.instanceMethod yX1_fact, Cond.selects RX1 yX1_fact yX1_fact, Cond.code yX1_fact cX1_fact 2 (some .int), Cond.fieldLink RX1 24 "SlipLevels$Slips" "size" "I", Cond.fieldLink RX1 31 "SlipLevels$Slips" "least" "I", Cond.fieldLink RX1 34 "SlipLevels$Slips" "greatest" "I", Cond.fieldLink RX1 37 "SlipLevels$Slips" "sieve" "I"]
def wsX2_digestLevel_r3 : List Cond := [Cond.fieldLink RX1 28 "SlipLevels$Slips" "tombs" "I", Cond.methodLink RX2 140 yX2_digestSlips, Cond.static yX2_digestSlips, Cond.code yX2_digestSlips cX2_digestSlips 6 (some .long), Cond.methodLink RX2 157 yX1_told, Cond.instanceMethod yX1_told, Cond.selects RX1 yX1_told yX1_told, Cond.code yX1_told cX1_told 3 (some .int)]
def wsX2_digestLevel : List Cond := .code yX2_digestLevel cX2_digestLevel 11 (some .long) :: ((wsX2_digestLevel_r1 ++ (wsX2_digestLevel_r2 ++ wsX2_digestLevel_r3)) ++ wsX20 ++ wsX00 ++ wsX10)
def wsX2_digest_r1 : List Cond := [Cond.constantLong RX2 136 (1493), Cond.constantLong RX2 138 (31), Cond.fieldLink RX2 10 "SlipLevels" "deskSlips" "LSlipLevels$Slips;", Cond.methodLink RX2 121 yX2_tally, Cond.instanceMethod yX2_tally, Cond.selects RX2 yX2_tally yX2_tally, Cond.initialized RX2, Cond.code yX2_tally cX2_tally 2 (some .int), Cond.fieldLink RX2 26 "SlipLevels" "deskRoom" "I", Cond.fieldLink RX2 19 "SlipLevels" "binder" "LSlipLevels$Binder;", Cond.fieldLink RX2 30 "SlipLevels" "detoursRead" "I", Cond.methodLink RX2 160 yX1_size, Cond.instanceMethod yX1_size, Cond.selects RX1 yX1_size yX1_size, Cond.initialized RX1, Cond.code yX1_size cX1_size 1 (some .int), Cond.fieldLink RX1 24 "SlipLevels$Slips" "size" "I", Cond.methodLink RX2 127 yX0_slips, Cond.instanceMethod yX0_slips, Cond.selects RX0 yX0_slips yX0_slips, Cond.initialized RX0, Cond.code yX0_slips cX0_slips 3 (some .int), Cond.methodLink RX0 48 yX0_slipsOf, Cond.instanceMethod yX0_slipsOf]
def wsX2_digest_r2 : List Cond := [Cond.selects RX0 yX0_slipsOf yX0_slipsOf, Cond.code yX0_slipsOf cX0_slipsOf 5 (some .int), Cond.methodLink RX0 33 yX0_runsOf, Cond.instanceMethod yX0_runsOf, Cond.selects RX0 yX0_runsOf yX0_runsOf, Cond.code yX0_runsOf cX0_runsOf 2 (some .int), Cond.fieldLink RX0 17 "SlipLevels$Binder" "runs" "[I", Cond.methodLink RX0 37 yX0_runAt, Cond.instanceMethod yX0_runAt, Cond.selects RX0 yX0_runAt yX0_runAt, Cond.code yX0_runAt cX0_runAt 4 (some (.object "SlipLevels$Slips")), Cond.fieldLink RX0 11 "SlipLevels$Binder" "rows" "[LSlipLevels$Slips;", Cond.methodLink RX0 41 yX1_size, Cond.methodLink RX2 187 yX2_wordsStanding, Cond.instanceMethod yX2_wordsStanding, Cond.selects RX2 yX2_wordsStanding yX2_wordsStanding, Cond.code yX2_wordsStanding cX2_wordsStanding 3 (some .int), Cond.methodLink RX2 79 yX2_wordOf, Cond.instanceMethod yX2_wordOf, Cond.selects RX2 yX2_wordOf yX2_wordOf, Cond.code yX2_wordOf cX2_wordOf 3 (some .int), Cond.methodLink RX2 170 yX1_wordAt, Cond.instanceMethod yX1_wordAt, Cond.selects RX1 yX1_wordAt yX1_wordAt]
def wsX2_digest_r3 : List Cond := [Cond.code yX1_wordAt cX1_wordAt 2 (some .int), Cond.fieldLink RX1 9 "SlipLevels$Slips" "words" "[I", Cond.methodLink RX2 173 yX0_firstWord, Cond.instanceMethod yX0_firstWord, Cond.selects RX0 yX0_firstWord yX0_firstWord, Cond.code yX0_firstWord cX0_firstWord 4 (some .int), Cond.methodLink RX0 54 yX0_firstWordIn, Cond.instanceMethod yX0_firstWordIn, Cond.selects RX0 yX0_firstWordIn yX0_firstWordIn, Cond.code yX0_firstWordIn cX0_firstWordIn 5 (some .int), Cond.methodLink RX0 51 yX1_wordAt, Cond.methodLink RX2 63 yX0_moves, Cond.instanceMethod yX0_moves, Cond.selects RX0 yX0_moves yX0_moves, Cond.code yX0_moves cX0_moves 1 (some .int), Cond.fieldLink RX0 26 "SlipLevels$Binder" "moves" "I", Cond.methodLink RX2 190 yX0_mergings, Cond.instanceMethod yX0_mergings, Cond.selects RX0 yX0_mergings yX0_mergings, Cond.code yX0_mergings cX0_mergings 1 (some .int), Cond.fieldLink RX0 30 "SlipLevels$Binder" "mergings" "I", Cond.methodLink RX2 140 yX2_digestSlips, Cond.static yX2_digestSlips, Cond.code yX2_digestSlips cX2_digestSlips 6 (some .long)]
def wsX2_digest_r4 : List Cond := [Cond.methodLink RX2 176 yX1_has, Cond.instanceMethod yX1_has, Cond.selects RX1 yX1_has yX1_has, Cond.code yX1_has cX1_has 2 (some .boolean), Cond.methodLink RX1 55 yX1_wordAt, Cond.methodLink RX2 157 yX1_told, Cond.instanceMethod yX1_told, Cond.selects RX1 yX1_told yX1_told, Cond.code yX1_told cX1_told 3 (some .int), Cond.methodLink RX2 144 yX2_digestLevel, Cond.instanceMethod yX2_digestLevel, Cond.selects RX2 yX2_digestLevel yX2_digestLevel, Cond.code yX2_digestLevel cX2_digestLevel 11 (some .long), Cond.methodLink RX2 55 yX0_runsOf, Cond.methodLink RX2 90 yX0_runAt, Cond.methodLink RX2 101 yX2_standingIn, Cond.instanceMethod yX2_standingIn, Cond.selects RX2 yX2_standingIn yX2_standingIn, Cond.code yX2_standingIn cX2_standingIn 5 (some .int), Cond.methodLink RX2 183 yX0_isFirst, Cond.instanceMethod yX0_isFirst, Cond.selects RX0 yX0_isFirst yX0_isFirst, Cond.code yX0_isFirst cX0_isFirst 6 (some .boolean), Cond.methodLink RX0 58 yX1_has]
def wsX2_digest_r5 : List Cond := [Cond.methodLink RX2 104 yX1_fact, Cond.instanceMethod yX1_fact, Cond.selects RX1 yX1_fact yX1_fact, Cond.code yX1_fact cX1_fact 2 (some .int), Cond.fieldLink RX1 31 "SlipLevels$Slips" "least" "I", Cond.fieldLink RX1 34 "SlipLevels$Slips" "greatest" "I", Cond.fieldLink RX1 37 "SlipLevels$Slips" "sieve" "I", Cond.fieldLink RX1 28 "SlipLevels$Slips" "tombs" "I"]
def wsX2_digest : List Cond := .code yX2_digest cX2_digest 4 (some .long) :: ((wsX2_digest_r1 ++ (wsX2_digest_r2 ++ (wsX2_digest_r3 ++ (wsX2_digest_r4 ++ wsX2_digest_r5)))) ++ wsX20 ++ wsX10 ++ wsX00)
def wsX3_empty : List Cond := .code yX3_empty cX3_empty 2 (some (.array .int)) :: ([.arrayClass .int])
def wsX3_init : List Cond := .code yX3_init cX3_init 1 none :: ([.methodLink RX3 1 objectInit, .instanceMethod objectInit, .code objectInit ⟨#[0xb1]⟩ 1 none, .fieldLink RX3 13 "SlipLevelsModel" "desk" "[I", .classLink RX3 19 "[I", .fieldLink RX3 20 "SlipLevelsModel" "levels" "[[[I", .arrayClass .int, .fieldLink RX3 24 "SlipLevelsModel" "numbers" "[I", .methodLink RX3 7 yX3_empty, .static yX3_empty, .initialized RX3, .code yX3_empty cX3_empty 2 (some (.array .int))] ++ wsX30)
def wsX3_thrown : List Cond := .code yX3_thrown cX3_thrown 1 (some .int) :: ([.fieldLink RX3 27 "SlipLevelsModel" "thrown" "I"] ++ wsX30)
def wsX3_fail : List Cond := .code yX3_fail cX3_fail 2 (some .int) :: ([.fieldLink RX3 27 "SlipLevelsModel" "thrown" "I"] ++ wsX30)
def wsX3_isIn : List Cond := .code yX3_isIn cX3_isIn 3 (some .boolean) :: ([])
def wsX3_isNumber : List Cond := .code yX3_isNumber cX3_isNumber 1 (some .boolean) :: ([.methodLink RX3 31 yX3_isIn, .static yX3_isIn, .initialized RX3, .code yX3_isIn cX3_isIn 3 (some .boolean)])
def wsX3_isLevel : List Cond := .code yX3_isLevel cX3_isLevel 1 (some .boolean) :: ([.methodLink RX3 31 yX3_isIn, .static yX3_isIn, .initialized RX3, .code yX3_isIn cX3_isIn 3 (some .boolean)])
def wsX3_isRun : List Cond := .code yX3_isRun cX3_isRun 3 (some .boolean) :: ([.fieldLink RX3 20 "SlipLevelsModel" "levels" "[[[I", .methodLink RX3 35 yX3_isLevel, .static yX3_isLevel, .initialized RX3, .code yX3_isLevel cX3_isLevel 1 (some .boolean), .methodLink RX3 31 yX3_isIn, .static yX3_isIn, .code yX3_isIn cX3_isIn 3 (some .boolean)] ++ wsX30)
def wsX3_size : List Cond := .code yX3_size cX3_size 6 (some .int) :: ([])
def wsX3_tombs : List Cond := .code yX3_tombs cX3_tombs 6 (some .int) :: ([])
def wsX3_end : List Cond := .code yX3_end cX3_end 4 (some .int) :: ([])
def wsX3_isOpen : List Cond := .code yX3_isOpen cX3_isOpen 3 (some .boolean) :: ([])
def wsX3_come : List Cond := .code yX3_come cX3_come 5 none :: ([.fieldLink RX3 24 "SlipLevelsModel" "numbers" "[I", .fieldLink RX3 20 "SlipLevelsModel" "levels" "[[[I", .classLink RX3 19 "[I", .methodLink RX3 43 arraycopyName, .native arraycopyName, .static arraycopyName, .initialized "java/lang/System", .methodLink RX3 39 yX3_size, .static yX3_size, .initialized RX3, .code yX3_size cX3_size 6 (some .int)] ++ wsX30)
def wsX3_mergeOne : List Cond := .code yX3_mergeOne cX3_mergeOne 5 none :: ([.fieldLink RX3 20 "SlipLevelsModel" "levels" "[[[I", .classLink RX3 19 "[I", .fieldLink RX3 24 "SlipLevelsModel" "numbers" "[I", .methodLink RX3 49 Lib.Math.min.name, .static Lib.Math.min.name, .initialized "java/lang/Math", .code Lib.Math.min.name Lib.Math.min.code 2 (some .int), .methodLink RX3 7 yX3_empty, .static yX3_empty, .initialized RX3, .code yX3_empty cX3_empty 2 (some (.array .int)), .arrayClass .int, .methodLink RX3 39 yX3_size, .static yX3_size, .code yX3_size cX3_size 6 (some .int), .methodLink RX3 55 yX3_come, .instanceMethod yX3_come, .selects RX3 yX3_come yX3_come, .code yX3_come cX3_come 5 none, .methodLink RX3 43 arraycopyName, .native arraycopyName, .static arraycopyName, .initialized "java/lang/System"] ++ wsX30)
def wsX3_settle_r1 : List Cond := [Cond.fieldLink RX3 20 "SlipLevelsModel" "levels" "[[[I", Cond.methodLink RX3 59 yX3_mergeOne, Cond.instanceMethod yX3_mergeOne, Cond.selects RX3 yX3_mergeOne yX3_mergeOne, Cond.initialized RX3, Cond.code yX3_mergeOne cX3_mergeOne 5 none, Cond.classLink RX3 19 "[I", Cond.fieldLink RX3 24 "SlipLevelsModel" "numbers" "[I", Cond.methodLink RX3 49 Lib.Math.min.name, Cond.static Lib.Math.min.name, Cond.initialized "java/lang/Math", Cond.code Lib.Math.min.name Lib.Math.min.code 2 (some .int), Cond.methodLink RX3 7 yX3_empty, Cond.static yX3_empty, Cond.code yX3_empty cX3_empty 2 (some (.array .int)), Cond.arrayClass .int, Cond.methodLink RX3 39 yX3_size, Cond.static yX3_size, Cond.code yX3_size cX3_size 6 (some .int), Cond.methodLink RX3 55 yX3_come, Cond.instanceMethod yX3_come, Cond.selects RX3 yX3_come yX3_come, Cond.code yX3_come cX3_come 5 none, Cond.methodLink RX3 43 arraycopyName]
def wsX3_settle_r2 : List Cond := [Cond.native arraycopyName, Cond.static arraycopyName, Cond.initialized "java/lang/System"]
def wsX3_settle : List Cond := .code yX3_settle cX3_settle 2 none :: ((wsX3_settle_r1 ++ wsX3_settle_r2) ++ wsX30)
def wsX3_bound_r1 : List Cond := [Cond.fieldLink RX3 24 "SlipLevelsModel" "numbers" "[I", Cond.fieldLink RX3 13 "SlipLevelsModel" "desk" "[I", Cond.methodLink RX3 39 yX3_size, Cond.static yX3_size, Cond.initialized RX3, Cond.code yX3_size cX3_size 6 (some .int), Cond.methodLink RX3 55 yX3_come, Cond.instanceMethod yX3_come, Cond.selects RX3 yX3_come yX3_come, Cond.code yX3_come cX3_come 5 none, Cond.fieldLink RX3 20 "SlipLevelsModel" "levels" "[[[I", Cond.classLink RX3 19 "[I", Cond.methodLink RX3 43 arraycopyName, Cond.native arraycopyName, Cond.static arraycopyName, Cond.initialized "java/lang/System", Cond.methodLink RX3 7 yX3_empty, Cond.static yX3_empty, Cond.code yX3_empty cX3_empty 2 (some (.array .int)), Cond.arrayClass .int, Cond.methodLink RX3 63 yX3_settle, Cond.instanceMethod yX3_settle, Cond.selects RX3 yX3_settle yX3_settle, Cond.code yX3_settle cX3_settle 2 none]
def wsX3_bound_r2 : List Cond := [Cond.methodLink RX3 59 yX3_mergeOne, Cond.instanceMethod yX3_mergeOne, Cond.selects RX3 yX3_mergeOne yX3_mergeOne, Cond.code yX3_mergeOne cX3_mergeOne 5 none, Cond.methodLink RX3 49 Lib.Math.min.name, Cond.static Lib.Math.min.name, Cond.initialized "java/lang/Math", Cond.code Lib.Math.min.name Lib.Math.min.code 2 (some .int)]
def wsX3_bound : List Cond := .code yX3_bound cX3_bound 2 (some .int) :: ((wsX3_bound_r1 ++ wsX3_bound_r2) ++ wsX30)
def wsX3_put_r1 : List Cond := [Cond.fieldLink RX3 13 "SlipLevelsModel" "desk" "[I", Cond.fieldLink RX3 24 "SlipLevelsModel" "numbers" "[I", Cond.methodLink RX3 39 yX3_size, Cond.static yX3_size, Cond.initialized RX3, Cond.code yX3_size cX3_size 6 (some .int), Cond.methodLink RX3 66 yX3_bound, Cond.instanceMethod yX3_bound, Cond.selects RX3 yX3_bound yX3_bound, Cond.code yX3_bound cX3_bound 2 (some .int), Cond.methodLink RX3 55 yX3_come, Cond.instanceMethod yX3_come, Cond.selects RX3 yX3_come yX3_come, Cond.code yX3_come cX3_come 5 none, Cond.fieldLink RX3 20 "SlipLevelsModel" "levels" "[[[I", Cond.classLink RX3 19 "[I", Cond.methodLink RX3 43 arraycopyName, Cond.native arraycopyName, Cond.static arraycopyName, Cond.initialized "java/lang/System", Cond.methodLink RX3 7 yX3_empty, Cond.static yX3_empty, Cond.code yX3_empty cX3_empty 2 (some (.array .int)), Cond.arrayClass .int]
def wsX3_put_r2 : List Cond := [Cond.methodLink RX3 63 yX3_settle, Cond.instanceMethod yX3_settle, Cond.selects RX3 yX3_settle yX3_settle, Cond.code yX3_settle cX3_settle 2 none, Cond.methodLink RX3 59 yX3_mergeOne, Cond.instanceMethod yX3_mergeOne, Cond.selects RX3 yX3_mergeOne yX3_mergeOne, Cond.code yX3_mergeOne cX3_mergeOne 5 none, Cond.methodLink RX3 49 Lib.Math.min.name, Cond.static Lib.Math.min.name, Cond.initialized "java/lang/Math", Cond.code Lib.Math.min.name Lib.Math.min.code 2 (some .int)]
def wsX3_put : List Cond := .code yX3_put cX3_put 3 (some .boolean) :: ((wsX3_put_r1 ++ wsX3_put_r2) ++ wsX30)
def wsX3_write_r1 : List Cond := [Cond.fieldLink RX3 27 "SlipLevelsModel" "thrown" "I", Cond.methodLink RX3 70 yX3_isNumber, Cond.static yX3_isNumber, Cond.initialized RX3, Cond.code yX3_isNumber cX3_isNumber 1 (some .boolean), Cond.methodLink RX3 31 yX3_isIn, Cond.static yX3_isIn, Cond.code yX3_isIn cX3_isIn 3 (some .boolean), Cond.methodLink RX3 73 yX3_put, Cond.instanceMethod yX3_put, Cond.selects RX3 yX3_put yX3_put, Cond.code yX3_put cX3_put 3 (some .boolean), Cond.fieldLink RX3 13 "SlipLevelsModel" "desk" "[I", Cond.fieldLink RX3 24 "SlipLevelsModel" "numbers" "[I", Cond.methodLink RX3 39 yX3_size, Cond.static yX3_size, Cond.code yX3_size cX3_size 6 (some .int), Cond.methodLink RX3 66 yX3_bound, Cond.instanceMethod yX3_bound, Cond.selects RX3 yX3_bound yX3_bound, Cond.code yX3_bound cX3_bound 2 (some .int), Cond.methodLink RX3 55 yX3_come, Cond.instanceMethod yX3_come, Cond.selects RX3 yX3_come yX3_come]
def wsX3_write_r2 : List Cond := [Cond.code yX3_come cX3_come 5 none, Cond.fieldLink RX3 20 "SlipLevelsModel" "levels" "[[[I", Cond.classLink RX3 19 "[I", Cond.methodLink RX3 43 arraycopyName, Cond.native arraycopyName, Cond.static arraycopyName, Cond.initialized "java/lang/System", Cond.methodLink RX3 7 yX3_empty, Cond.static yX3_empty, Cond.code yX3_empty cX3_empty 2 (some (.array .int)), Cond.arrayClass .int, Cond.methodLink RX3 63 yX3_settle, Cond.instanceMethod yX3_settle, Cond.selects RX3 yX3_settle yX3_settle, Cond.code yX3_settle cX3_settle 2 none, Cond.methodLink RX3 59 yX3_mergeOne, Cond.instanceMethod yX3_mergeOne, Cond.selects RX3 yX3_mergeOne yX3_mergeOne, Cond.code yX3_mergeOne cX3_mergeOne 5 none, Cond.methodLink RX3 49 Lib.Math.min.name, Cond.static Lib.Math.min.name, Cond.initialized "java/lang/Math", Cond.code Lib.Math.min.name Lib.Math.min.code 2 (some .int)]
def wsX3_write : List Cond := .code yX3_write cX3_write 3 (some .boolean) :: ((wsX3_write_r1 ++ wsX3_write_r2) ++ wsX30)
def wsX3_strike_r1 : List Cond := [Cond.fieldLink RX3 27 "SlipLevelsModel" "thrown" "I", Cond.methodLink RX3 70 yX3_isNumber, Cond.static yX3_isNumber, Cond.initialized RX3, Cond.code yX3_isNumber cX3_isNumber 1 (some .boolean), Cond.methodLink RX3 31 yX3_isIn, Cond.static yX3_isIn, Cond.code yX3_isIn cX3_isIn 3 (some .boolean), Cond.methodLink RX3 73 yX3_put, Cond.instanceMethod yX3_put, Cond.selects RX3 yX3_put yX3_put, Cond.code yX3_put cX3_put 3 (some .boolean), Cond.fieldLink RX3 13 "SlipLevelsModel" "desk" "[I", Cond.fieldLink RX3 24 "SlipLevelsModel" "numbers" "[I", Cond.methodLink RX3 39 yX3_size, Cond.static yX3_size, Cond.code yX3_size cX3_size 6 (some .int), Cond.methodLink RX3 66 yX3_bound, Cond.instanceMethod yX3_bound, Cond.selects RX3 yX3_bound yX3_bound, Cond.code yX3_bound cX3_bound 2 (some .int), Cond.methodLink RX3 55 yX3_come, Cond.instanceMethod yX3_come, Cond.selects RX3 yX3_come yX3_come]
def wsX3_strike_r2 : List Cond := [Cond.code yX3_come cX3_come 5 none, Cond.fieldLink RX3 20 "SlipLevelsModel" "levels" "[[[I", Cond.classLink RX3 19 "[I", Cond.methodLink RX3 43 arraycopyName, Cond.native arraycopyName, Cond.static arraycopyName, Cond.initialized "java/lang/System", Cond.methodLink RX3 7 yX3_empty, Cond.static yX3_empty, Cond.code yX3_empty cX3_empty 2 (some (.array .int)), Cond.arrayClass .int, Cond.methodLink RX3 63 yX3_settle, Cond.instanceMethod yX3_settle, Cond.selects RX3 yX3_settle yX3_settle, Cond.code yX3_settle cX3_settle 2 none, Cond.methodLink RX3 59 yX3_mergeOne, Cond.instanceMethod yX3_mergeOne, Cond.selects RX3 yX3_mergeOne yX3_mergeOne, Cond.code yX3_mergeOne cX3_mergeOne 5 none, Cond.methodLink RX3 49 Lib.Math.min.name, Cond.static Lib.Math.min.name, Cond.initialized "java/lang/Math", Cond.code Lib.Math.min.name Lib.Math.min.code 2 (some .int)]
def wsX3_strike : List Cond := .code yX3_strike cX3_strike 2 (some .boolean) :: ((wsX3_strike_r1 ++ wsX3_strike_r2) ++ wsX30)
def wsX3_bind_r1 : List Cond := [Cond.fieldLink RX3 27 "SlipLevelsModel" "thrown" "I", Cond.methodLink RX3 66 yX3_bound, Cond.instanceMethod yX3_bound, Cond.selects RX3 yX3_bound yX3_bound, Cond.initialized RX3, Cond.code yX3_bound cX3_bound 2 (some .int), Cond.fieldLink RX3 24 "SlipLevelsModel" "numbers" "[I", Cond.fieldLink RX3 13 "SlipLevelsModel" "desk" "[I", Cond.methodLink RX3 39 yX3_size, Cond.static yX3_size, Cond.code yX3_size cX3_size 6 (some .int), Cond.methodLink RX3 55 yX3_come, Cond.instanceMethod yX3_come, Cond.selects RX3 yX3_come yX3_come, Cond.code yX3_come cX3_come 5 none, Cond.fieldLink RX3 20 "SlipLevelsModel" "levels" "[[[I", Cond.classLink RX3 19 "[I", Cond.methodLink RX3 43 arraycopyName, Cond.native arraycopyName, Cond.static arraycopyName, Cond.initialized "java/lang/System", Cond.methodLink RX3 7 yX3_empty, Cond.static yX3_empty, Cond.code yX3_empty cX3_empty 2 (some (.array .int))]
def wsX3_bind_r2 : List Cond := [Cond.arrayClass .int, Cond.methodLink RX3 63 yX3_settle, Cond.instanceMethod yX3_settle, Cond.selects RX3 yX3_settle yX3_settle, Cond.code yX3_settle cX3_settle 2 none, Cond.methodLink RX3 59 yX3_mergeOne, Cond.instanceMethod yX3_mergeOne, Cond.selects RX3 yX3_mergeOne yX3_mergeOne, Cond.code yX3_mergeOne cX3_mergeOne 5 none, Cond.methodLink RX3 49 Lib.Math.min.name, Cond.static Lib.Math.min.name, Cond.initialized "java/lang/Math", Cond.code Lib.Math.min.name Lib.Math.min.code 2 (some .int)]
def wsX3_bind : List Cond := .code yX3_bind cX3_bind 1 (some .int) :: ((wsX3_bind_r1 ++ wsX3_bind_r2) ++ wsX30)
def wsX3_merge_r1 : List Cond := [Cond.fieldLink RX3 27 "SlipLevelsModel" "thrown" "I", Cond.fieldLink RX3 20 "SlipLevelsModel" "levels" "[[[I", Cond.fieldLink RX3 24 "SlipLevelsModel" "numbers" "[I", Cond.methodLink RX3 35 yX3_isLevel, Cond.static yX3_isLevel, Cond.initialized RX3, Cond.code yX3_isLevel cX3_isLevel 1 (some .boolean), Cond.methodLink RX3 31 yX3_isIn, Cond.static yX3_isIn, Cond.code yX3_isIn cX3_isIn 3 (some .boolean), Cond.methodLink RX3 77 yX3_fail, Cond.instanceMethod yX3_fail, Cond.selects RX3 yX3_fail yX3_fail, Cond.code yX3_fail cX3_fail 2 (some .int), Cond.methodLink RX3 59 yX3_mergeOne, Cond.instanceMethod yX3_mergeOne, Cond.selects RX3 yX3_mergeOne yX3_mergeOne, Cond.code yX3_mergeOne cX3_mergeOne 5 none, Cond.classLink RX3 19 "[I", Cond.methodLink RX3 49 Lib.Math.min.name, Cond.static Lib.Math.min.name, Cond.initialized "java/lang/Math", Cond.code Lib.Math.min.name Lib.Math.min.code 2 (some .int), Cond.methodLink RX3 7 yX3_empty]
def wsX3_merge_r2 : List Cond := [Cond.static yX3_empty, Cond.code yX3_empty cX3_empty 2 (some (.array .int)), Cond.arrayClass .int, Cond.methodLink RX3 39 yX3_size, Cond.static yX3_size, Cond.code yX3_size cX3_size 6 (some .int), Cond.methodLink RX3 55 yX3_come, Cond.instanceMethod yX3_come, Cond.selects RX3 yX3_come yX3_come, Cond.code yX3_come cX3_come 5 none, Cond.methodLink RX3 43 arraycopyName, Cond.native arraycopyName, Cond.static arraycopyName, Cond.initialized "java/lang/System", Cond.methodLink RX3 63 yX3_settle, Cond.instanceMethod yX3_settle, Cond.selects RX3 yX3_settle yX3_settle, Cond.code yX3_settle cX3_settle 2 none]
def wsX3_merge : List Cond := .code yX3_merge cX3_merge 3 (some .int) :: ((wsX3_merge_r1 ++ wsX3_merge_r2) ++ wsX30)
def wsX3_setRoom_r1 : List Cond := [Cond.fieldLink RX3 27 "SlipLevelsModel" "thrown" "I", Cond.fieldLink RX3 24 "SlipLevelsModel" "numbers" "[I", Cond.fieldLink RX3 13 "SlipLevelsModel" "desk" "[I", Cond.methodLink RX3 31 yX3_isIn, Cond.static yX3_isIn, Cond.initialized RX3, Cond.code yX3_isIn cX3_isIn 3 (some .boolean), Cond.methodLink RX3 77 yX3_fail, Cond.instanceMethod yX3_fail, Cond.selects RX3 yX3_fail yX3_fail, Cond.code yX3_fail cX3_fail 2 (some .int), Cond.methodLink RX3 39 yX3_size, Cond.static yX3_size, Cond.code yX3_size cX3_size 6 (some .int), Cond.methodLink RX3 66 yX3_bound, Cond.instanceMethod yX3_bound, Cond.selects RX3 yX3_bound yX3_bound, Cond.code yX3_bound cX3_bound 2 (some .int), Cond.methodLink RX3 55 yX3_come, Cond.instanceMethod yX3_come, Cond.selects RX3 yX3_come yX3_come, Cond.code yX3_come cX3_come 5 none, Cond.fieldLink RX3 20 "SlipLevelsModel" "levels" "[[[I", Cond.classLink RX3 19 "[I"]
def wsX3_setRoom_r2 : List Cond := [Cond.methodLink RX3 43 arraycopyName, Cond.native arraycopyName, Cond.static arraycopyName, Cond.initialized "java/lang/System", Cond.methodLink RX3 7 yX3_empty, Cond.static yX3_empty, Cond.code yX3_empty cX3_empty 2 (some (.array .int)), Cond.arrayClass .int, Cond.methodLink RX3 63 yX3_settle, Cond.instanceMethod yX3_settle, Cond.selects RX3 yX3_settle yX3_settle, Cond.code yX3_settle cX3_settle 2 none, Cond.methodLink RX3 59 yX3_mergeOne, Cond.instanceMethod yX3_mergeOne, Cond.selects RX3 yX3_mergeOne yX3_mergeOne, Cond.code yX3_mergeOne cX3_mergeOne 5 none, Cond.methodLink RX3 49 Lib.Math.min.name, Cond.static Lib.Math.min.name, Cond.initialized "java/lang/Math", Cond.code Lib.Math.min.name Lib.Math.min.code 2 (some .int)]
def wsX3_setRoom : List Cond := .code yX3_setRoom cX3_setRoom 3 (some .int) :: ((wsX3_setRoom_r1 ++ wsX3_setRoom_r2) ++ wsX30)
def wsX3_said : List Cond := .code yX3_said cX3_said 10 (some .int) :: ([.fieldLink RX3 13 "SlipLevelsModel" "desk" "[I", .fieldLink RX3 20 "SlipLevelsModel" "levels" "[[[I"] ++ wsX30)
def wsX3_word : List Cond := .code yX3_word cX3_word 2 (some .int) :: ([.methodLink RX3 84 Lib.Math.max.name, .static Lib.Math.max.name, .initialized "java/lang/Math", .code Lib.Math.max.name Lib.Math.max.code 2 (some .int), .methodLink RX3 81 yX3_said, .instanceMethod yX3_said, .selects RX3 yX3_said yX3_said, .initialized RX3, .code yX3_said cX3_said 10 (some .int), .fieldLink RX3 13 "SlipLevelsModel" "desk" "[I", .fieldLink RX3 20 "SlipLevelsModel" "levels" "[[[I"] ++ wsX30)
def wsX3_opened : List Cond := .code yX3_opened cX3_opened 11 (some .int) :: ([.fieldLink RX3 13 "SlipLevelsModel" "desk" "[I", .fieldLink RX3 20 "SlipLevelsModel" "levels" "[[[I", .methodLink RX3 87 yX3_end, .static yX3_end, .initialized RX3, .code yX3_end cX3_end 4 (some .int), .methodLink RX3 91 yX3_isOpen, .static yX3_isOpen, .code yX3_isOpen cX3_isOpen 3 (some .boolean)] ++ wsX30)
def wsX3_read_r1 : List Cond := [Cond.fieldLink RX3 27 "SlipLevelsModel" "thrown" "I", Cond.fieldLink RX3 24 "SlipLevelsModel" "numbers" "[I", Cond.methodLink RX3 70 yX3_isNumber, Cond.static yX3_isNumber, Cond.initialized RX3, Cond.code yX3_isNumber cX3_isNumber 1 (some .boolean), Cond.methodLink RX3 31 yX3_isIn, Cond.static yX3_isIn, Cond.code yX3_isIn cX3_isIn 3 (some .boolean), Cond.methodLink RX3 77 yX3_fail, Cond.instanceMethod yX3_fail, Cond.selects RX3 yX3_fail yX3_fail, Cond.code yX3_fail cX3_fail 2 (some .int), Cond.methodLink RX3 95 yX3_opened, Cond.instanceMethod yX3_opened, Cond.selects RX3 yX3_opened yX3_opened, Cond.code yX3_opened cX3_opened 11 (some .int), Cond.fieldLink RX3 13 "SlipLevelsModel" "desk" "[I", Cond.fieldLink RX3 20 "SlipLevelsModel" "levels" "[[[I", Cond.methodLink RX3 87 yX3_end, Cond.static yX3_end, Cond.code yX3_end cX3_end 4 (some .int), Cond.methodLink RX3 91 yX3_isOpen, Cond.static yX3_isOpen]
def wsX3_read_r2 : List Cond := [Cond.code yX3_isOpen cX3_isOpen 3 (some .boolean), Cond.methodLink RX3 98 yX3_word, Cond.instanceMethod yX3_word, Cond.selects RX3 yX3_word yX3_word, Cond.code yX3_word cX3_word 2 (some .int), Cond.methodLink RX3 84 Lib.Math.max.name, Cond.static Lib.Math.max.name, Cond.initialized "java/lang/Math", Cond.code Lib.Math.max.name Lib.Math.max.code 2 (some .int), Cond.methodLink RX3 81 yX3_said, Cond.instanceMethod yX3_said, Cond.selects RX3 yX3_said yX3_said, Cond.code yX3_said cX3_said 10 (some .int)]
def wsX3_read : List Cond := .code yX3_read cX3_read 2 (some .int) :: ((wsX3_read_r1 ++ wsX3_read_r2) ++ wsX30)
def wsX3_detours : List Cond := .code yX3_detours cX3_detours 2 (some .int) :: ([.fieldLink RX3 27 "SlipLevelsModel" "thrown" "I", .methodLink RX3 70 yX3_isNumber, .static yX3_isNumber, .initialized RX3, .code yX3_isNumber cX3_isNumber 1 (some .boolean), .methodLink RX3 31 yX3_isIn, .static yX3_isIn, .code yX3_isIn cX3_isIn 3 (some .boolean), .methodLink RX3 95 yX3_opened, .instanceMethod yX3_opened, .selects RX3 yX3_opened yX3_opened, .code yX3_opened cX3_opened 11 (some .int), .fieldLink RX3 13 "SlipLevelsModel" "desk" "[I", .fieldLink RX3 20 "SlipLevelsModel" "levels" "[[[I", .methodLink RX3 87 yX3_end, .static yX3_end, .code yX3_end cX3_end 4 (some .int), .methodLink RX3 91 yX3_isOpen, .static yX3_isOpen, .code yX3_isOpen cX3_isOpen 3 (some .boolean), .methodLink RX3 77 yX3_fail, .instanceMethod yX3_fail, .selects RX3 yX3_fail yX3_fail, .code yX3_fail cX3_fail 2 (some .int)] ++ wsX30)
def wsX3_next_r1 : List Cond := [Cond.fieldLink RX3 27 "SlipLevelsModel" "thrown" "I", Cond.methodLink RX3 70 yX3_isNumber, Cond.static yX3_isNumber, Cond.initialized RX3, Cond.code yX3_isNumber cX3_isNumber 1 (some .boolean), Cond.methodLink RX3 31 yX3_isIn, Cond.static yX3_isIn, Cond.code yX3_isIn cX3_isIn 3 (some .boolean), Cond.methodLink RX3 77 yX3_fail, Cond.instanceMethod yX3_fail, Cond.selects RX3 yX3_fail yX3_fail, Cond.code yX3_fail cX3_fail 2 (some .int), Cond.methodLink RX3 98 yX3_word, Cond.instanceMethod yX3_word, Cond.selects RX3 yX3_word yX3_word, Cond.code yX3_word cX3_word 2 (some .int), Cond.methodLink RX3 84 Lib.Math.max.name, Cond.static Lib.Math.max.name, Cond.initialized "java/lang/Math", Cond.code Lib.Math.max.name Lib.Math.max.code 2 (some .int), Cond.methodLink RX3 81 yX3_said, Cond.instanceMethod yX3_said, Cond.selects RX3 yX3_said yX3_said, Cond.code yX3_said cX3_said 10 (some .int)]
def wsX3_next_r2 : List Cond := [Cond.fieldLink RX3 13 "SlipLevelsModel" "desk" "[I", Cond.fieldLink RX3 20 "SlipLevelsModel" "levels" "[[[I"]
def wsX3_next : List Cond := .code yX3_next cX3_next 3 (some .int) :: ((wsX3_next_r1 ++ wsX3_next_r2) ++ wsX30)
def wsX3_sum_r1 : List Cond := [Cond.fieldLink RX3 27 "SlipLevelsModel" "thrown" "I", Cond.methodLink RX3 84 Lib.Math.max.name, Cond.static Lib.Math.max.name, Cond.initialized "java/lang/Math", Cond.code Lib.Math.max.name Lib.Math.max.code 2 (some .int), Cond.methodLink RX3 70 yX3_isNumber, Cond.static yX3_isNumber, Cond.initialized RX3, Cond.code yX3_isNumber cX3_isNumber 1 (some .boolean), Cond.methodLink RX3 31 yX3_isIn, Cond.static yX3_isIn, Cond.code yX3_isIn cX3_isIn 3 (some .boolean), Cond.methodLink RX3 77 yX3_fail, Cond.instanceMethod yX3_fail, Cond.selects RX3 yX3_fail yX3_fail, Cond.code yX3_fail cX3_fail 2 (some .int), Cond.methodLink RX3 98 yX3_word, Cond.instanceMethod yX3_word, Cond.selects RX3 yX3_word yX3_word, Cond.code yX3_word cX3_word 2 (some .int), Cond.methodLink RX3 81 yX3_said, Cond.instanceMethod yX3_said, Cond.selects RX3 yX3_said yX3_said, Cond.code yX3_said cX3_said 10 (some .int)]
def wsX3_sum_r2 : List Cond := [Cond.fieldLink RX3 13 "SlipLevelsModel" "desk" "[I", Cond.fieldLink RX3 20 "SlipLevelsModel" "levels" "[[[I"]
def wsX3_sum : List Cond := .code yX3_sum cX3_sum 5 (some .int) :: ((wsX3_sum_r1 ++ wsX3_sum_r2) ++ wsX30)
def wsX3_standing : List Cond := .code yX3_standing cX3_standing 9 (some .int) :: ([.fieldLink RX3 20 "SlipLevelsModel" "levels" "[[[I", .fieldLink RX3 13 "SlipLevelsModel" "desk" "[I"] ++ wsX30)
def wsX3_runTold : List Cond := .code yX3_runTold cX3_runTold 7 (some .int) :: ([.fieldLink RX3 20 "SlipLevelsModel" "levels" "[[[I", .methodLink RX3 39 yX3_size, .static yX3_size, .initialized RX3, .code yX3_size cX3_size 6 (some .int), .methodLink RX3 87 yX3_end, .static yX3_end, .code yX3_end cX3_end 4 (some .int), .methodLink RX3 91 yX3_isOpen, .static yX3_isOpen, .code yX3_isOpen cX3_isOpen 3 (some .boolean), .methodLink RX3 101 yX3_tombs, .static yX3_tombs, .code yX3_tombs cX3_tombs 6 (some .int), .methodLink RX3 104 yX3_standing, .instanceMethod yX3_standing, .selects RX3 yX3_standing yX3_standing, .code yX3_standing cX3_standing 9 (some .int), .fieldLink RX3 13 "SlipLevelsModel" "desk" "[I"] ++ wsX30)
def wsX3_run_r1 : List Cond := [Cond.fieldLink RX3 27 "SlipLevelsModel" "thrown" "I", Cond.methodLink RX3 107 yX3_isRun, Cond.instanceMethod yX3_isRun, Cond.selects RX3 yX3_isRun yX3_isRun, Cond.initialized RX3, Cond.code yX3_isRun cX3_isRun 3 (some .boolean), Cond.fieldLink RX3 20 "SlipLevelsModel" "levels" "[[[I", Cond.methodLink RX3 35 yX3_isLevel, Cond.static yX3_isLevel, Cond.code yX3_isLevel cX3_isLevel 1 (some .boolean), Cond.methodLink RX3 31 yX3_isIn, Cond.static yX3_isIn, Cond.code yX3_isIn cX3_isIn 3 (some .boolean), Cond.methodLink RX3 110 yX3_runTold, Cond.instanceMethod yX3_runTold, Cond.selects RX3 yX3_runTold yX3_runTold, Cond.code yX3_runTold cX3_runTold 7 (some .int), Cond.methodLink RX3 39 yX3_size, Cond.static yX3_size, Cond.code yX3_size cX3_size 6 (some .int), Cond.methodLink RX3 87 yX3_end, Cond.static yX3_end, Cond.code yX3_end cX3_end 4 (some .int), Cond.methodLink RX3 91 yX3_isOpen]
def wsX3_run_r2 : List Cond := [Cond.static yX3_isOpen, Cond.code yX3_isOpen cX3_isOpen 3 (some .boolean), Cond.methodLink RX3 101 yX3_tombs, Cond.static yX3_tombs, Cond.code yX3_tombs cX3_tombs 6 (some .int), Cond.methodLink RX3 104 yX3_standing, Cond.instanceMethod yX3_standing, Cond.selects RX3 yX3_standing yX3_standing, Cond.code yX3_standing cX3_standing 9 (some .int), Cond.fieldLink RX3 13 "SlipLevelsModel" "desk" "[I", Cond.methodLink RX3 77 yX3_fail, Cond.instanceMethod yX3_fail, Cond.selects RX3 yX3_fail yX3_fail, Cond.code yX3_fail cX3_fail 2 (some .int)]
def wsX3_run : List Cond := .code yX3_run cX3_run 4 (some .int) :: ((wsX3_run_r1 ++ wsX3_run_r2) ++ wsX30)
def wsX3_slipTold : List Cond := .code yX3_slipTold cX3_slipTold 4 (some .int) :: ([.methodLink RX3 87 yX3_end, .static yX3_end, .initialized RX3, .code yX3_end cX3_end 4 (some .int)])
def wsX3_slip_r1 : List Cond := [Cond.fieldLink RX3 27 "SlipLevelsModel" "thrown" "I", Cond.fieldLink RX3 20 "SlipLevelsModel" "levels" "[[[I", Cond.methodLink RX3 107 yX3_isRun, Cond.instanceMethod yX3_isRun, Cond.selects RX3 yX3_isRun yX3_isRun, Cond.initialized RX3, Cond.code yX3_isRun cX3_isRun 3 (some .boolean), Cond.methodLink RX3 35 yX3_isLevel, Cond.static yX3_isLevel, Cond.code yX3_isLevel cX3_isLevel 1 (some .boolean), Cond.methodLink RX3 31 yX3_isIn, Cond.static yX3_isIn, Cond.code yX3_isIn cX3_isIn 3 (some .boolean), Cond.methodLink RX3 39 yX3_size, Cond.static yX3_size, Cond.code yX3_size cX3_size 6 (some .int), Cond.methodLink RX3 114 yX3_slipTold, Cond.static yX3_slipTold, Cond.code yX3_slipTold cX3_slipTold 4 (some .int), Cond.methodLink RX3 87 yX3_end, Cond.static yX3_end, Cond.code yX3_end cX3_end 4 (some .int), Cond.methodLink RX3 77 yX3_fail, Cond.instanceMethod yX3_fail]
def wsX3_slip_r2 : List Cond := [Cond.selects RX3 yX3_fail yX3_fail, Cond.code yX3_fail cX3_fail 2 (some .int)]
def wsX3_slip : List Cond := .code yX3_slip cX3_slip 4 (some .int) :: ((wsX3_slip_r1 ++ wsX3_slip_r2) ++ wsX30)
def wsX3_desk : List Cond := .code yX3_desk cX3_desk 2 (some .int) :: ([.fieldLink RX3 27 "SlipLevelsModel" "thrown" "I", .fieldLink RX3 13 "SlipLevelsModel" "desk" "[I", .methodLink RX3 39 yX3_size, .static yX3_size, .initialized RX3, .code yX3_size cX3_size 6 (some .int), .methodLink RX3 31 yX3_isIn, .static yX3_isIn, .code yX3_isIn cX3_isIn 3 (some .boolean), .methodLink RX3 114 yX3_slipTold, .static yX3_slipTold, .code yX3_slipTold cX3_slipTold 4 (some .int), .methodLink RX3 87 yX3_end, .static yX3_end, .code yX3_end cX3_end 4 (some .int), .methodLink RX3 77 yX3_fail, .instanceMethod yX3_fail, .selects RX3 yX3_fail yX3_fail, .code yX3_fail cX3_fail 2 (some .int)] ++ wsX30)
def wsX3_levelTold : List Cond := .code yX3_levelTold cX3_levelTold 8 (some .int) :: ([.fieldLink RX3 20 "SlipLevelsModel" "levels" "[[[I", .methodLink RX3 39 yX3_size, .static yX3_size, .initialized RX3, .code yX3_size cX3_size 6 (some .int), .methodLink RX3 101 yX3_tombs, .static yX3_tombs, .code yX3_tombs cX3_tombs 6 (some .int)] ++ wsX30)
def wsX3_level : List Cond := .code yX3_level cX3_level 3 (some .int) :: ([.fieldLink RX3 27 "SlipLevelsModel" "thrown" "I", .methodLink RX3 35 yX3_isLevel, .static yX3_isLevel, .initialized RX3, .code yX3_isLevel cX3_isLevel 1 (some .boolean), .methodLink RX3 31 yX3_isIn, .static yX3_isIn, .code yX3_isIn cX3_isIn 3 (some .boolean), .methodLink RX3 118 yX3_levelTold, .instanceMethod yX3_levelTold, .selects RX3 yX3_levelTold yX3_levelTold, .code yX3_levelTold cX3_levelTold 8 (some .int), .fieldLink RX3 20 "SlipLevelsModel" "levels" "[[[I", .methodLink RX3 39 yX3_size, .static yX3_size, .code yX3_size cX3_size 6 (some .int), .methodLink RX3 101 yX3_tombs, .static yX3_tombs, .code yX3_tombs cX3_tombs 6 (some .int), .methodLink RX3 77 yX3_fail, .instanceMethod yX3_fail, .selects RX3 yX3_fail yX3_fail, .code yX3_fail cX3_fail 2 (some .int)] ++ wsX30)
def wsX3_slips : List Cond := .code yX3_slips cX3_slips 3 (some .int) :: ([.methodLink RX3 118 yX3_levelTold, .instanceMethod yX3_levelTold, .selects RX3 yX3_levelTold yX3_levelTold, .initialized RX3, .code yX3_levelTold cX3_levelTold 8 (some .int), .fieldLink RX3 20 "SlipLevelsModel" "levels" "[[[I", .methodLink RX3 39 yX3_size, .static yX3_size, .code yX3_size cX3_size 6 (some .int), .methodLink RX3 101 yX3_tombs, .static yX3_tombs, .code yX3_tombs cX3_tombs 6 (some .int)] ++ wsX30)
def wsX3_counted_r1 : List Cond := [Cond.fieldLink RX3 13 "SlipLevelsModel" "desk" "[I", Cond.fieldLink RX3 24 "SlipLevelsModel" "numbers" "[I", Cond.methodLink RX3 39 yX3_size, Cond.static yX3_size, Cond.initialized RX3, Cond.code yX3_size cX3_size 6 (some .int), Cond.methodLink RX3 121 yX3_slips, Cond.instanceMethod yX3_slips, Cond.selects RX3 yX3_slips yX3_slips, Cond.code yX3_slips cX3_slips 3 (some .int), Cond.methodLink RX3 118 yX3_levelTold, Cond.instanceMethod yX3_levelTold, Cond.selects RX3 yX3_levelTold yX3_levelTold, Cond.code yX3_levelTold cX3_levelTold 8 (some .int), Cond.fieldLink RX3 20 "SlipLevelsModel" "levels" "[[[I", Cond.methodLink RX3 101 yX3_tombs, Cond.static yX3_tombs, Cond.code yX3_tombs cX3_tombs 6 (some .int), Cond.methodLink RX3 98 yX3_word, Cond.instanceMethod yX3_word, Cond.selects RX3 yX3_word yX3_word, Cond.code yX3_word cX3_word 2 (some .int), Cond.methodLink RX3 84 Lib.Math.max.name, Cond.static Lib.Math.max.name]
def wsX3_counted_r2 : List Cond := [Cond.initialized "java/lang/Math", Cond.code Lib.Math.max.name Lib.Math.max.code 2 (some .int), Cond.methodLink RX3 81 yX3_said, Cond.instanceMethod yX3_said, Cond.selects RX3 yX3_said yX3_said, Cond.code yX3_said cX3_said 10 (some .int)]
def wsX3_counted : List Cond := .code yX3_counted cX3_counted 4 (some .int) :: ((wsX3_counted_r1 ++ wsX3_counted_r2) ++ wsX30)
def wsX3_count_r1 : List Cond := [Cond.fieldLink RX3 27 "SlipLevelsModel" "thrown" "I", Cond.methodLink RX3 31 yX3_isIn, Cond.static yX3_isIn, Cond.initialized RX3, Cond.code yX3_isIn cX3_isIn 3 (some .boolean), Cond.methodLink RX3 124 yX3_counted, Cond.instanceMethod yX3_counted, Cond.selects RX3 yX3_counted yX3_counted, Cond.code yX3_counted cX3_counted 4 (some .int), Cond.fieldLink RX3 13 "SlipLevelsModel" "desk" "[I", Cond.fieldLink RX3 24 "SlipLevelsModel" "numbers" "[I", Cond.methodLink RX3 39 yX3_size, Cond.static yX3_size, Cond.code yX3_size cX3_size 6 (some .int), Cond.methodLink RX3 121 yX3_slips, Cond.instanceMethod yX3_slips, Cond.selects RX3 yX3_slips yX3_slips, Cond.code yX3_slips cX3_slips 3 (some .int), Cond.methodLink RX3 118 yX3_levelTold, Cond.instanceMethod yX3_levelTold, Cond.selects RX3 yX3_levelTold yX3_levelTold, Cond.code yX3_levelTold cX3_levelTold 8 (some .int), Cond.fieldLink RX3 20 "SlipLevelsModel" "levels" "[[[I", Cond.methodLink RX3 101 yX3_tombs]
def wsX3_count_r2 : List Cond := [Cond.static yX3_tombs, Cond.code yX3_tombs cX3_tombs 6 (some .int), Cond.methodLink RX3 98 yX3_word, Cond.instanceMethod yX3_word, Cond.selects RX3 yX3_word yX3_word, Cond.code yX3_word cX3_word 2 (some .int), Cond.methodLink RX3 84 Lib.Math.max.name, Cond.static Lib.Math.max.name, Cond.initialized "java/lang/Math", Cond.code Lib.Math.max.name Lib.Math.max.code 2 (some .int), Cond.methodLink RX3 81 yX3_said, Cond.instanceMethod yX3_said, Cond.selects RX3 yX3_said yX3_said, Cond.code yX3_said cX3_said 10 (some .int), Cond.methodLink RX3 77 yX3_fail, Cond.instanceMethod yX3_fail, Cond.selects RX3 yX3_fail yX3_fail, Cond.code yX3_fail cX3_fail 2 (some .int)]
def wsX3_count : List Cond := .code yX3_count cX3_count 2 (some .int) :: ((wsX3_count_r1 ++ wsX3_count_r2) ++ wsX30)
def wsX3_allOpened : List Cond := .code yX3_allOpened cX3_allOpened 3 (some .int) :: ([.methodLink RX3 95 yX3_opened, .instanceMethod yX3_opened, .selects RX3 yX3_opened yX3_opened, .initialized RX3, .code yX3_opened cX3_opened 11 (some .int), .fieldLink RX3 13 "SlipLevelsModel" "desk" "[I", .fieldLink RX3 20 "SlipLevelsModel" "levels" "[[[I", .methodLink RX3 87 yX3_end, .static yX3_end, .code yX3_end cX3_end 4 (some .int), .methodLink RX3 91 yX3_isOpen, .static yX3_isOpen, .code yX3_isOpen cX3_isOpen 3 (some .boolean)] ++ wsX30)
def wsX3_tried_r1 : List Cond := [Cond.fieldLink RX3 20 "SlipLevelsModel" "levels" "[[[I", Cond.classLink RX3 128 "[[[I", Cond.fieldLink RX3 24 "SlipLevelsModel" "numbers" "[I", Cond.methodLink RX3 132 ⟨"[I", "clone", "()Ljava/lang/Object;"⟩, Cond.sameMethod "[I" "java/lang/Object" "clone" "()Ljava/lang/Object;", Cond.native ⟨"java/lang/Object", "clone", "()Ljava/lang/Object;"⟩, Cond.instanceMethod ⟨"java/lang/Object", "clone", "()Ljava/lang/Object;"⟩, Cond.selects "[I" ⟨"[I", "clone", "()Ljava/lang/Object;"⟩ ⟨"java/lang/Object", "clone", "()Ljava/lang/Object;"⟩, Cond.classLink RX3 19 "[I", Cond.methodLink RX3 59 yX3_mergeOne, Cond.instanceMethod yX3_mergeOne, Cond.selects RX3 yX3_mergeOne yX3_mergeOne, Cond.initialized RX3, Cond.code yX3_mergeOne cX3_mergeOne 5 none, Cond.methodLink RX3 49 Lib.Math.min.name, Cond.static Lib.Math.min.name, Cond.initialized "java/lang/Math", Cond.code Lib.Math.min.name Lib.Math.min.code 2 (some .int), Cond.methodLink RX3 7 yX3_empty, Cond.static yX3_empty, Cond.code yX3_empty cX3_empty 2 (some (.array .int)), Cond.arrayClass .int, Cond.methodLink RX3 39 yX3_size, Cond.static yX3_size]
def wsX3_tried_r2 : List Cond := [Cond.code yX3_size cX3_size 6 (some .int), Cond.methodLink RX3 55 yX3_come, Cond.instanceMethod yX3_come, Cond.selects RX3 yX3_come yX3_come, Cond.code yX3_come cX3_come 5 none, Cond.methodLink RX3 43 arraycopyName, Cond.native arraycopyName, Cond.static arraycopyName, Cond.initialized "java/lang/System", Cond.methodLink RX3 63 yX3_settle, Cond.instanceMethod yX3_settle, Cond.selects RX3 yX3_settle yX3_settle, Cond.code yX3_settle cX3_settle 2 none, Cond.methodLink RX3 121 yX3_slips, Cond.instanceMethod yX3_slips, Cond.selects RX3 yX3_slips yX3_slips, Cond.code yX3_slips cX3_slips 3 (some .int), Cond.methodLink RX3 118 yX3_levelTold, Cond.instanceMethod yX3_levelTold, Cond.selects RX3 yX3_levelTold yX3_levelTold, Cond.code yX3_levelTold cX3_levelTold 8 (some .int), Cond.methodLink RX3 101 yX3_tombs, Cond.static yX3_tombs, Cond.code yX3_tombs cX3_tombs 6 (some .int)]
def wsX3_tried_r3 : List Cond := [Cond.methodLink RX3 133 yX3_allOpened, Cond.instanceMethod yX3_allOpened, Cond.selects RX3 yX3_allOpened yX3_allOpened, Cond.code yX3_allOpened cX3_allOpened 3 (some .int), Cond.methodLink RX3 95 yX3_opened, Cond.instanceMethod yX3_opened, Cond.selects RX3 yX3_opened yX3_opened, Cond.code yX3_opened cX3_opened 11 (some .int), Cond.fieldLink RX3 13 "SlipLevelsModel" "desk" "[I", Cond.methodLink RX3 87 yX3_end, Cond.static yX3_end, Cond.code yX3_end cX3_end 4 (some .int), Cond.methodLink RX3 91 yX3_isOpen, Cond.static yX3_isOpen, Cond.code yX3_isOpen cX3_isOpen 3 (some .boolean)]
def wsX3_tried : List Cond := .code yX3_tried cX3_tried 6 (some .int) :: ((wsX3_tried_r1 ++ (wsX3_tried_r2 ++ wsX3_tried_r3)) ++ wsX30)
def wsX3_spares_r1 : List Cond := [Cond.fieldLink RX3 27 "SlipLevelsModel" "thrown" "I", Cond.fieldLink RX3 20 "SlipLevelsModel" "levels" "[[[I", Cond.methodLink RX3 35 yX3_isLevel, Cond.static yX3_isLevel, Cond.initialized RX3, Cond.code yX3_isLevel cX3_isLevel 1 (some .boolean), Cond.methodLink RX3 31 yX3_isIn, Cond.static yX3_isIn, Cond.code yX3_isIn cX3_isIn 3 (some .boolean), Cond.methodLink RX3 77 yX3_fail, Cond.instanceMethod yX3_fail, Cond.selects RX3 yX3_fail yX3_fail, Cond.code yX3_fail cX3_fail 2 (some .int), Cond.methodLink RX3 121 yX3_slips, Cond.instanceMethod yX3_slips, Cond.selects RX3 yX3_slips yX3_slips, Cond.code yX3_slips cX3_slips 3 (some .int), Cond.methodLink RX3 118 yX3_levelTold, Cond.instanceMethod yX3_levelTold, Cond.selects RX3 yX3_levelTold yX3_levelTold, Cond.code yX3_levelTold cX3_levelTold 8 (some .int), Cond.methodLink RX3 39 yX3_size, Cond.static yX3_size, Cond.code yX3_size cX3_size 6 (some .int)]
def wsX3_spares_r2 : List Cond := [Cond.methodLink RX3 101 yX3_tombs, Cond.static yX3_tombs, Cond.code yX3_tombs cX3_tombs 6 (some .int), Cond.methodLink RX3 136 yX3_tried, Cond.instanceMethod yX3_tried, Cond.selects RX3 yX3_tried yX3_tried, Cond.code yX3_tried cX3_tried 6 (some .int), Cond.classLink RX3 128 "[[[I", Cond.fieldLink RX3 24 "SlipLevelsModel" "numbers" "[I", Cond.methodLink RX3 132 ⟨"[I", "clone", "()Ljava/lang/Object;"⟩, Cond.sameMethod "[I" "java/lang/Object" "clone" "()Ljava/lang/Object;", Cond.native ⟨"java/lang/Object", "clone", "()Ljava/lang/Object;"⟩, Cond.instanceMethod ⟨"java/lang/Object", "clone", "()Ljava/lang/Object;"⟩, Cond.selects "[I" ⟨"[I", "clone", "()Ljava/lang/Object;"⟩ ⟨"java/lang/Object", "clone", "()Ljava/lang/Object;"⟩, Cond.classLink RX3 19 "[I", Cond.methodLink RX3 59 yX3_mergeOne, Cond.instanceMethod yX3_mergeOne, Cond.selects RX3 yX3_mergeOne yX3_mergeOne, Cond.code yX3_mergeOne cX3_mergeOne 5 none, Cond.methodLink RX3 49 Lib.Math.min.name, Cond.static Lib.Math.min.name, Cond.initialized "java/lang/Math", Cond.code Lib.Math.min.name Lib.Math.min.code 2 (some .int), Cond.methodLink RX3 7 yX3_empty]
def wsX3_spares_r3 : List Cond := [Cond.static yX3_empty, Cond.code yX3_empty cX3_empty 2 (some (.array .int)), Cond.arrayClass .int, Cond.methodLink RX3 55 yX3_come, Cond.instanceMethod yX3_come, Cond.selects RX3 yX3_come yX3_come, Cond.code yX3_come cX3_come 5 none, Cond.methodLink RX3 43 arraycopyName, Cond.native arraycopyName, Cond.static arraycopyName, Cond.initialized "java/lang/System", Cond.methodLink RX3 63 yX3_settle, Cond.instanceMethod yX3_settle, Cond.selects RX3 yX3_settle yX3_settle, Cond.code yX3_settle cX3_settle 2 none, Cond.methodLink RX3 133 yX3_allOpened, Cond.instanceMethod yX3_allOpened, Cond.selects RX3 yX3_allOpened yX3_allOpened, Cond.code yX3_allOpened cX3_allOpened 3 (some .int), Cond.methodLink RX3 95 yX3_opened, Cond.instanceMethod yX3_opened, Cond.selects RX3 yX3_opened yX3_opened, Cond.code yX3_opened cX3_opened 11 (some .int), Cond.fieldLink RX3 13 "SlipLevelsModel" "desk" "[I"]
def wsX3_spares_r4 : List Cond := [Cond.methodLink RX3 87 yX3_end, Cond.static yX3_end, Cond.code yX3_end cX3_end 4 (some .int), Cond.methodLink RX3 91 yX3_isOpen, Cond.static yX3_isOpen, Cond.code yX3_isOpen cX3_isOpen 3 (some .boolean)]
def wsX3_spares : List Cond := .code yX3_spares cX3_spares 2 (some .int) :: ((wsX3_spares_r1 ++ (wsX3_spares_r2 ++ (wsX3_spares_r3 ++ wsX3_spares_r4))) ++ wsX30)
def wsX3_advise_r1 : List Cond := [Cond.fieldLink RX3 27 "SlipLevelsModel" "thrown" "I", Cond.fieldLink RX3 20 "SlipLevelsModel" "levels" "[[[I", Cond.methodLink RX3 136 yX3_tried, Cond.instanceMethod yX3_tried, Cond.selects RX3 yX3_tried yX3_tried, Cond.initialized RX3, Cond.code yX3_tried cX3_tried 6 (some .int), Cond.classLink RX3 128 "[[[I", Cond.fieldLink RX3 24 "SlipLevelsModel" "numbers" "[I", Cond.methodLink RX3 132 ⟨"[I", "clone", "()Ljava/lang/Object;"⟩, Cond.sameMethod "[I" "java/lang/Object" "clone" "()Ljava/lang/Object;", Cond.native ⟨"java/lang/Object", "clone", "()Ljava/lang/Object;"⟩, Cond.instanceMethod ⟨"java/lang/Object", "clone", "()Ljava/lang/Object;"⟩, Cond.selects "[I" ⟨"[I", "clone", "()Ljava/lang/Object;"⟩ ⟨"java/lang/Object", "clone", "()Ljava/lang/Object;"⟩, Cond.classLink RX3 19 "[I", Cond.methodLink RX3 59 yX3_mergeOne, Cond.instanceMethod yX3_mergeOne, Cond.selects RX3 yX3_mergeOne yX3_mergeOne, Cond.code yX3_mergeOne cX3_mergeOne 5 none, Cond.methodLink RX3 49 Lib.Math.min.name, Cond.static Lib.Math.min.name, Cond.initialized "java/lang/Math", Cond.code Lib.Math.min.name Lib.Math.min.code 2 (some .int), Cond.methodLink RX3 7 yX3_empty]
def wsX3_advise_r2 : List Cond := [Cond.static yX3_empty, Cond.code yX3_empty cX3_empty 2 (some (.array .int)), Cond.arrayClass .int, Cond.methodLink RX3 39 yX3_size, Cond.static yX3_size, Cond.code yX3_size cX3_size 6 (some .int), Cond.methodLink RX3 55 yX3_come, Cond.instanceMethod yX3_come, Cond.selects RX3 yX3_come yX3_come, Cond.code yX3_come cX3_come 5 none, Cond.methodLink RX3 43 arraycopyName, Cond.native arraycopyName, Cond.static arraycopyName, Cond.initialized "java/lang/System", Cond.methodLink RX3 63 yX3_settle, Cond.instanceMethod yX3_settle, Cond.selects RX3 yX3_settle yX3_settle, Cond.code yX3_settle cX3_settle 2 none, Cond.methodLink RX3 121 yX3_slips, Cond.instanceMethod yX3_slips, Cond.selects RX3 yX3_slips yX3_slips, Cond.code yX3_slips cX3_slips 3 (some .int), Cond.methodLink RX3 118 yX3_levelTold, Cond.instanceMethod yX3_levelTold]
def wsX3_advise_r3 : List Cond := [Cond.selects RX3 yX3_levelTold yX3_levelTold, Cond.code yX3_levelTold cX3_levelTold 8 (some .int), Cond.methodLink RX3 101 yX3_tombs, Cond.static yX3_tombs, Cond.code yX3_tombs cX3_tombs 6 (some .int), Cond.methodLink RX3 133 yX3_allOpened, Cond.instanceMethod yX3_allOpened, Cond.selects RX3 yX3_allOpened yX3_allOpened, Cond.code yX3_allOpened cX3_allOpened 3 (some .int), Cond.methodLink RX3 95 yX3_opened, Cond.instanceMethod yX3_opened, Cond.selects RX3 yX3_opened yX3_opened, Cond.code yX3_opened cX3_opened 11 (some .int), Cond.fieldLink RX3 13 "SlipLevelsModel" "desk" "[I", Cond.methodLink RX3 87 yX3_end, Cond.static yX3_end, Cond.code yX3_end cX3_end 4 (some .int), Cond.methodLink RX3 91 yX3_isOpen, Cond.static yX3_isOpen, Cond.code yX3_isOpen cX3_isOpen 3 (some .boolean)]
def wsX3_advise : List Cond := .code yX3_advise cX3_advise 5 (some .int) :: ((wsX3_advise_r1 ++ (wsX3_advise_r2 ++ wsX3_advise_r3)) ++ wsX30)
def wsX3_mean : List Cond := .code yX3_mean cX3_mean 1 (some .double) :: ([.fieldLink RX3 27 "SlipLevelsModel" "thrown" "I", .constantDouble RX3 140 (4634204016564240384), .methodLink RX3 133 yX3_allOpened, .instanceMethod yX3_allOpened, .selects RX3 yX3_allOpened yX3_allOpened, .initialized RX3, .code yX3_allOpened cX3_allOpened 3 (some .int), .methodLink RX3 95 yX3_opened, .instanceMethod yX3_opened, .selects RX3 yX3_opened yX3_opened, .code yX3_opened cX3_opened 11 (some .int), .fieldLink RX3 13 "SlipLevelsModel" "desk" "[I", .fieldLink RX3 20 "SlipLevelsModel" "levels" "[[[I", .methodLink RX3 87 yX3_end, .static yX3_end, .code yX3_end cX3_end 4 (some .int), .methodLink RX3 91 yX3_isOpen, .static yX3_isOpen, .code yX3_isOpen cX3_isOpen 3 (some .boolean)] ++ wsX30)
def wsX3_digest_r1 : List Cond := [Cond.fieldLink RX3 27 "SlipLevelsModel" "thrown" "I", Cond.constantLong RX3 142 (1493), Cond.constantLong RX3 144 (31), Cond.fieldLink RX3 13 "SlipLevelsModel" "desk" "[I", Cond.fieldLink RX3 20 "SlipLevelsModel" "levels" "[[[I", Cond.methodLink RX3 124 yX3_counted, Cond.instanceMethod yX3_counted, Cond.selects RX3 yX3_counted yX3_counted, Cond.initialized RX3, Cond.code yX3_counted cX3_counted 4 (some .int), Cond.fieldLink RX3 24 "SlipLevelsModel" "numbers" "[I", Cond.methodLink RX3 39 yX3_size, Cond.static yX3_size, Cond.code yX3_size cX3_size 6 (some .int), Cond.methodLink RX3 121 yX3_slips, Cond.instanceMethod yX3_slips, Cond.selects RX3 yX3_slips yX3_slips, Cond.code yX3_slips cX3_slips 3 (some .int), Cond.methodLink RX3 118 yX3_levelTold, Cond.instanceMethod yX3_levelTold, Cond.selects RX3 yX3_levelTold yX3_levelTold, Cond.code yX3_levelTold cX3_levelTold 8 (some .int), Cond.methodLink RX3 101 yX3_tombs, Cond.static yX3_tombs]
def wsX3_digest_r2 : List Cond := [Cond.code yX3_tombs cX3_tombs 6 (some .int), Cond.methodLink RX3 98 yX3_word, Cond.instanceMethod yX3_word, Cond.selects RX3 yX3_word yX3_word, Cond.code yX3_word cX3_word 2 (some .int), Cond.methodLink RX3 84 Lib.Math.max.name, Cond.static Lib.Math.max.name, Cond.initialized "java/lang/Math", Cond.code Lib.Math.max.name Lib.Math.max.code 2 (some .int), Cond.methodLink RX3 81 yX3_said, Cond.instanceMethod yX3_said, Cond.selects RX3 yX3_said yX3_said, Cond.code yX3_said cX3_said 10 (some .int), Cond.methodLink RX3 114 yX3_slipTold, Cond.static yX3_slipTold, Cond.code yX3_slipTold cX3_slipTold 4 (some .int), Cond.methodLink RX3 87 yX3_end, Cond.static yX3_end, Cond.code yX3_end cX3_end 4 (some .int), Cond.methodLink RX3 110 yX3_runTold, Cond.instanceMethod yX3_runTold, Cond.selects RX3 yX3_runTold yX3_runTold, Cond.code yX3_runTold cX3_runTold 7 (some .int), Cond.methodLink RX3 91 yX3_isOpen]
def wsX3_digest_r3 : List Cond := [Cond.static yX3_isOpen, Cond.code yX3_isOpen cX3_isOpen 3 (some .boolean), Cond.methodLink RX3 104 yX3_standing, Cond.instanceMethod yX3_standing, Cond.selects RX3 yX3_standing yX3_standing, Cond.code yX3_standing cX3_standing 9 (some .int)]
def wsX3_digest : List Cond := .code yX3_digest cX3_digest 6 (some .long) :: ((wsX3_digest_r1 ++ (wsX3_digest_r2 ++ wsX3_digest_r3)) ++ wsX30)
def wsJ9_max_7cf53 : List Cond := .code yJ9_max_7cf53 cJ9_max_7cf53 2 (some .int) :: ([])
def wsJ9_min_7cf53 : List Cond := .code yJ9_min_7cf53 cJ9_min_7cf53 2 (some .int) :: ([])
def wsL_write_r1 : List Cond := [Cond.classLink RL 13 "java/lang/IndexOutOfBoundsException", Cond.classLink RL 15 "java/lang/IllegalArgumentException", Cond.methodLink RL 7 yX2_write, Cond.instanceMethod yX2_write, Cond.selects RX2 yX2_write yX2_write, Cond.initialized RX2, Cond.code yX2_write cX2_write 3 (some .boolean), Cond.classLink RX2 37 "java/lang/IllegalArgumentException", Cond.initialized "java/lang/IllegalArgumentException", Cond.fieldLink RX2 10 "SlipLevels" "deskSlips" "LSlipLevels$Slips;", Cond.fieldLink RX2 26 "SlipLevels" "deskRoom" "I", Cond.methodLink RX2 33 yX2_needNumber, Cond.static yX2_needNumber, Cond.code yX2_needNumber cX2_needNumber 1 none, Cond.classLink RX2 94 "java/lang/IndexOutOfBoundsException", Cond.initialized "java/lang/IndexOutOfBoundsException", Cond.methodLink RX2 44 yX1_put, Cond.instanceMethod yX1_put, Cond.selects RX1 yX1_put yX1_put, Cond.initialized RX1, Cond.code yX1_put cX1_put 4 none, Cond.fieldLink RX1 9 "SlipLevels$Slips" "words" "[I", Cond.fieldLink RX1 24 "SlipLevels$Slips" "size" "I", Cond.fieldLink RX1 28 "SlipLevels$Slips" "tombs" "I"]
def wsL_write_r2 : List Cond := [Cond.fieldLink RX1 31 "SlipLevels$Slips" "least" "I", Cond.methodLink RX1 46 Lib.Math.min.name, Cond.static Lib.Math.min.name, Cond.initialized "java/lang/Math", Cond.code Lib.Math.min.name Lib.Math.min.code 2 (some .int), Cond.fieldLink RX1 34 "SlipLevels$Slips" "greatest" "I", Cond.methodLink RX1 52 Lib.Math.max.name, Cond.static Lib.Math.max.name, Cond.code Lib.Math.max.name Lib.Math.max.code 2 (some .int), Cond.fieldLink RX1 37 "SlipLevels$Slips" "sieve" "I", Cond.methodLink RX2 48 yX2_bindFrom, Cond.instanceMethod yX2_bindFrom, Cond.selects RX2 yX2_bindFrom yX2_bindFrom, Cond.code yX2_bindFrom cX2_bindFrom 3 (some .int), Cond.fieldLink RX2 19 "SlipLevels" "binder" "LSlipLevels$Binder;", Cond.methodLink RX2 160 yX1_size, Cond.instanceMethod yX1_size, Cond.selects RX1 yX1_size yX1_size, Cond.code yX1_size cX1_size 1 (some .int), Cond.methodLink RX2 63 yX0_moves, Cond.instanceMethod yX0_moves, Cond.selects RX0 yX0_moves yX0_moves, Cond.initialized RX0, Cond.code yX0_moves cX0_moves 1 (some .int)]
def wsL_write_r3 : List Cond := [Cond.fieldLink RX0 26 "SlipLevels$Binder" "moves" "I", Cond.methodLink RX2 163 yX0_addRun, Cond.instanceMethod yX0_addRun, Cond.selects RX0 yX0_addRun yX0_addRun, Cond.code yX0_addRun cX0_addRun 4 none, Cond.fieldLink RX0 17 "SlipLevels$Binder" "runs" "[I", Cond.methodLink RX0 33 yX0_runsOf, Cond.instanceMethod yX0_runsOf, Cond.selects RX0 yX0_runsOf yX0_runsOf, Cond.code yX0_runsOf cX0_runsOf 2 (some .int), Cond.methodLink RX0 92 yX0_rowAt, Cond.instanceMethod yX0_rowAt, Cond.selects RX0 yX0_rowAt yX0_rowAt, Cond.code yX0_rowAt cX0_rowAt 3 (some (.object "SlipLevels$Slips")), Cond.fieldLink RX0 11 "SlipLevels$Binder" "rows" "[LSlipLevels$Slips;", Cond.methodLink RX0 41 yX1_size, Cond.methodLink RX0 95 yX1_copy, Cond.instanceMethod yX1_copy, Cond.selects RX1 yX1_copy yX1_copy, Cond.code yX1_copy cX1_copy 2 none, Cond.methodLink RX1 40 arraycopyName, Cond.native arraycopyName, Cond.static arraycopyName, Cond.initialized "java/lang/System"]
def wsL_write_r4 : List Cond := [Cond.methodLink RX2 167 yX1_clear, Cond.instanceMethod yX1_clear, Cond.selects RX1 yX1_clear yX1_clear, Cond.code yX1_clear cX1_clear 1 none, Cond.methodLink RX1 18 yJ7_fill_53178, Cond.static yJ7_fill_53178, Cond.initialized RJ7, Cond.code yJ7_fill_53178 cJ7_fill_53178 4 none, Cond.methodLink RX2 70 yX0_settle, Cond.instanceMethod yX0_settle, Cond.selects RX0 yX0_settle yX0_settle, Cond.code yX0_settle cX0_settle 2 none, Cond.methodLink RX0 65 yX0_mergeLevel, Cond.instanceMethod yX0_mergeLevel, Cond.selects RX0 yX0_mergeLevel yX0_mergeLevel, Cond.code yX0_mergeLevel cX0_mergeLevel 2 none, Cond.methodLink RX0 76 Lib.Math.min.name, Cond.fieldLink RX0 22 "SlipLevels$Binder" "merged" "LSlipLevels$Slips;", Cond.fieldLink RX0 30 "SlipLevels$Binder" "mergings" "I", Cond.methodLink RX0 69 yX0_nothingBehind, Cond.instanceMethod yX0_nothingBehind, Cond.selects RX0 yX0_nothingBehind yX0_nothingBehind, Cond.code yX0_nothingBehind cX0_nothingBehind 3 (some .boolean), Cond.methodLink RX0 72 yX0_gather]
def wsL_write_r5 : List Cond := [Cond.instanceMethod yX0_gather, Cond.selects RX0 yX0_gather yX0_gather, Cond.code yX0_gather cX0_gather 5 none, Cond.methodLink RX0 85 yX1_clear, Cond.methodLink RX0 54 yX0_firstWordIn, Cond.instanceMethod yX0_firstWordIn, Cond.selects RX0 yX0_firstWordIn yX0_firstWordIn, Cond.code yX0_firstWordIn cX0_firstWordIn 5 (some .int), Cond.methodLink RX0 37 yX0_runAt, Cond.instanceMethod yX0_runAt, Cond.selects RX0 yX0_runAt yX0_runAt, Cond.code yX0_runAt cX0_runAt 4 (some (.object "SlipLevels$Slips")), Cond.methodLink RX0 51 yX1_wordAt, Cond.instanceMethod yX1_wordAt, Cond.selects RX1 yX1_wordAt yX1_wordAt, Cond.code yX1_wordAt cX1_wordAt 2 (some .int), Cond.methodLink RX0 88 yX1_put, Cond.methodLink RX0 81 yX0_addRun]
def wsL_write : List Cond := .codeWith yL_write cL_write 5 (some .int) [(0, 17, 20, 13), (0, 17, 24, 15)] :: ((wsL_write_r1 ++ (wsL_write_r2 ++ (wsL_write_r3 ++ (wsL_write_r4 ++ wsL_write_r5)))) ++ wsX20 ++ wsX10 ++ wsX00 ++ (vx_atS RX2 41 "java/lang/IllegalArgumentException" ["java/lang/RuntimeException", "java/lang/Exception"]).filter goodWord ++ (vx_atS RX2 98 "java/lang/IndexOutOfBoundsException" ["java/lang/RuntimeException", "java/lang/Exception"]).filter goodWord)
def wsL_strike_r1 : List Cond := [Cond.classLink RL 13 "java/lang/IndexOutOfBoundsException", Cond.methodLink RL 17 yX2_strike, Cond.instanceMethod yX2_strike, Cond.selects RX2 yX2_strike yX2_strike, Cond.initialized RX2, Cond.code yX2_strike cX2_strike 2 (some .boolean), Cond.fieldLink RX2 10 "SlipLevels" "deskSlips" "LSlipLevels$Slips;", Cond.fieldLink RX2 26 "SlipLevels" "deskRoom" "I", Cond.methodLink RX2 33 yX2_needNumber, Cond.static yX2_needNumber, Cond.code yX2_needNumber cX2_needNumber 1 none, Cond.classLink RX2 94 "java/lang/IndexOutOfBoundsException", Cond.initialized "java/lang/IndexOutOfBoundsException", Cond.methodLink RX2 44 yX1_put, Cond.instanceMethod yX1_put, Cond.selects RX1 yX1_put yX1_put, Cond.initialized RX1, Cond.code yX1_put cX1_put 4 none, Cond.fieldLink RX1 9 "SlipLevels$Slips" "words" "[I", Cond.fieldLink RX1 24 "SlipLevels$Slips" "size" "I", Cond.fieldLink RX1 28 "SlipLevels$Slips" "tombs" "I", Cond.fieldLink RX1 31 "SlipLevels$Slips" "least" "I", Cond.methodLink RX1 46 Lib.Math.min.name, Cond.static Lib.Math.min.name]
def wsL_strike_r2 : List Cond := [Cond.initialized "java/lang/Math", Cond.code Lib.Math.min.name Lib.Math.min.code 2 (some .int), Cond.fieldLink RX1 34 "SlipLevels$Slips" "greatest" "I", Cond.methodLink RX1 52 Lib.Math.max.name, Cond.static Lib.Math.max.name, Cond.code Lib.Math.max.name Lib.Math.max.code 2 (some .int), Cond.fieldLink RX1 37 "SlipLevels$Slips" "sieve" "I", Cond.methodLink RX2 48 yX2_bindFrom, Cond.instanceMethod yX2_bindFrom, Cond.selects RX2 yX2_bindFrom yX2_bindFrom, Cond.code yX2_bindFrom cX2_bindFrom 3 (some .int), Cond.fieldLink RX2 19 "SlipLevels" "binder" "LSlipLevels$Binder;", Cond.methodLink RX2 160 yX1_size, Cond.instanceMethod yX1_size, Cond.selects RX1 yX1_size yX1_size, Cond.code yX1_size cX1_size 1 (some .int), Cond.methodLink RX2 63 yX0_moves, Cond.instanceMethod yX0_moves, Cond.selects RX0 yX0_moves yX0_moves, Cond.initialized RX0, Cond.code yX0_moves cX0_moves 1 (some .int), Cond.fieldLink RX0 26 "SlipLevels$Binder" "moves" "I", Cond.methodLink RX2 163 yX0_addRun, Cond.instanceMethod yX0_addRun]
def wsL_strike_r3 : List Cond := [Cond.selects RX0 yX0_addRun yX0_addRun, Cond.code yX0_addRun cX0_addRun 4 none, Cond.fieldLink RX0 17 "SlipLevels$Binder" "runs" "[I", Cond.methodLink RX0 33 yX0_runsOf, Cond.instanceMethod yX0_runsOf, Cond.selects RX0 yX0_runsOf yX0_runsOf, Cond.code yX0_runsOf cX0_runsOf 2 (some .int), Cond.methodLink RX0 92 yX0_rowAt, Cond.instanceMethod yX0_rowAt, Cond.selects RX0 yX0_rowAt yX0_rowAt, Cond.code yX0_rowAt cX0_rowAt 3 (some (.object "SlipLevels$Slips")), Cond.fieldLink RX0 11 "SlipLevels$Binder" "rows" "[LSlipLevels$Slips;", Cond.methodLink RX0 41 yX1_size, Cond.methodLink RX0 95 yX1_copy, Cond.instanceMethod yX1_copy, Cond.selects RX1 yX1_copy yX1_copy, Cond.code yX1_copy cX1_copy 2 none, Cond.methodLink RX1 40 arraycopyName, Cond.native arraycopyName, Cond.static arraycopyName, Cond.initialized "java/lang/System", Cond.methodLink RX2 167 yX1_clear, Cond.instanceMethod yX1_clear, Cond.selects RX1 yX1_clear yX1_clear]
def wsL_strike_r4 : List Cond := [Cond.code yX1_clear cX1_clear 1 none, Cond.methodLink RX1 18 yJ7_fill_53178, Cond.static yJ7_fill_53178, Cond.initialized RJ7, Cond.code yJ7_fill_53178 cJ7_fill_53178 4 none, Cond.methodLink RX2 70 yX0_settle, Cond.instanceMethod yX0_settle, Cond.selects RX0 yX0_settle yX0_settle, Cond.code yX0_settle cX0_settle 2 none, Cond.methodLink RX0 65 yX0_mergeLevel, Cond.instanceMethod yX0_mergeLevel, Cond.selects RX0 yX0_mergeLevel yX0_mergeLevel, Cond.code yX0_mergeLevel cX0_mergeLevel 2 none, Cond.methodLink RX0 76 Lib.Math.min.name, Cond.fieldLink RX0 22 "SlipLevels$Binder" "merged" "LSlipLevels$Slips;", Cond.fieldLink RX0 30 "SlipLevels$Binder" "mergings" "I", Cond.methodLink RX0 69 yX0_nothingBehind, Cond.instanceMethod yX0_nothingBehind, Cond.selects RX0 yX0_nothingBehind yX0_nothingBehind, Cond.code yX0_nothingBehind cX0_nothingBehind 3 (some .boolean), Cond.methodLink RX0 72 yX0_gather, Cond.instanceMethod yX0_gather, Cond.selects RX0 yX0_gather yX0_gather, Cond.code yX0_gather cX0_gather 5 none]
def wsL_strike_r5 : List Cond := [Cond.methodLink RX0 85 yX1_clear, Cond.methodLink RX0 54 yX0_firstWordIn, Cond.instanceMethod yX0_firstWordIn, Cond.selects RX0 yX0_firstWordIn yX0_firstWordIn, Cond.code yX0_firstWordIn cX0_firstWordIn 5 (some .int), Cond.methodLink RX0 37 yX0_runAt, Cond.instanceMethod yX0_runAt, Cond.selects RX0 yX0_runAt yX0_runAt, Cond.code yX0_runAt cX0_runAt 4 (some (.object "SlipLevels$Slips")), Cond.methodLink RX0 51 yX1_wordAt, Cond.instanceMethod yX1_wordAt, Cond.selects RX1 yX1_wordAt yX1_wordAt, Cond.code yX1_wordAt cX1_wordAt 2 (some .int), Cond.methodLink RX0 88 yX1_put, Cond.methodLink RX0 81 yX0_addRun]
def wsL_strike : List Cond := .codeWith yL_strike cL_strike 4 (some .int) [(0, 16, 19, 13)] :: ((wsL_strike_r1 ++ (wsL_strike_r2 ++ (wsL_strike_r3 ++ (wsL_strike_r4 ++ wsL_strike_r5)))) ++ wsX20 ++ wsX10 ++ wsX00 ++ (vx_atS RX2 98 "java/lang/IndexOutOfBoundsException" ["java/lang/RuntimeException", "java/lang/Exception"]).filter goodWord)
def wsL_merge_r1 : List Cond := [Cond.classLink RL 13 "java/lang/IndexOutOfBoundsException", Cond.classLink RL 25 "java/lang/IllegalStateException", Cond.methodLink RL 21 yX2_merge, Cond.instanceMethod yX2_merge, Cond.selects RX2 yX2_merge yX2_merge, Cond.initialized RX2, Cond.code yX2_merge cX2_merge 3 (some .int), Cond.classLink RX2 58 "java/lang/IllegalStateException", Cond.initialized "java/lang/IllegalStateException", Cond.fieldLink RX2 19 "SlipLevels" "binder" "LSlipLevels$Binder;", Cond.methodLink RX2 52 yX2_needLevel, Cond.static yX2_needLevel, Cond.code yX2_needLevel cX2_needLevel 1 none, Cond.classLink RX2 94 "java/lang/IndexOutOfBoundsException", Cond.initialized "java/lang/IndexOutOfBoundsException", Cond.methodLink RX2 55 yX0_runsOf, Cond.instanceMethod yX0_runsOf, Cond.selects RX0 yX0_runsOf yX0_runsOf, Cond.initialized RX0, Cond.code yX0_runsOf cX0_runsOf 2 (some .int), Cond.fieldLink RX0 17 "SlipLevels$Binder" "runs" "[I", Cond.methodLink RX2 63 yX0_moves, Cond.instanceMethod yX0_moves, Cond.selects RX0 yX0_moves yX0_moves]
def wsL_merge_r2 : List Cond := [Cond.code yX0_moves cX0_moves 1 (some .int), Cond.fieldLink RX0 26 "SlipLevels$Binder" "moves" "I", Cond.methodLink RX2 67 yX0_mergeLevel, Cond.instanceMethod yX0_mergeLevel, Cond.selects RX0 yX0_mergeLevel yX0_mergeLevel, Cond.code yX0_mergeLevel cX0_mergeLevel 2 none, Cond.methodLink RX0 76 Lib.Math.min.name, Cond.static Lib.Math.min.name, Cond.initialized "java/lang/Math", Cond.code Lib.Math.min.name Lib.Math.min.code 2 (some .int), Cond.fieldLink RX0 22 "SlipLevels$Binder" "merged" "LSlipLevels$Slips;", Cond.fieldLink RX0 30 "SlipLevels$Binder" "mergings" "I", Cond.methodLink RX0 69 yX0_nothingBehind, Cond.instanceMethod yX0_nothingBehind, Cond.selects RX0 yX0_nothingBehind yX0_nothingBehind, Cond.code yX0_nothingBehind cX0_nothingBehind 3 (some .boolean), Cond.methodLink RX0 33 yX0_runsOf, Cond.methodLink RX0 72 yX0_gather, Cond.instanceMethod yX0_gather, Cond.selects RX0 yX0_gather yX0_gather, Cond.code yX0_gather cX0_gather 5 none, Cond.methodLink RX0 85 yX1_clear, Cond.instanceMethod yX1_clear, Cond.selects RX1 yX1_clear yX1_clear]
def wsL_merge_r3 : List Cond := [Cond.initialized RX1, Cond.code yX1_clear cX1_clear 1 none, Cond.fieldLink RX1 9 "SlipLevels$Slips" "words" "[I", Cond.fieldLink RX1 24 "SlipLevels$Slips" "size" "I", Cond.fieldLink RX1 28 "SlipLevels$Slips" "tombs" "I", Cond.fieldLink RX1 31 "SlipLevels$Slips" "least" "I", Cond.fieldLink RX1 34 "SlipLevels$Slips" "greatest" "I", Cond.fieldLink RX1 37 "SlipLevels$Slips" "sieve" "I", Cond.methodLink RX1 18 yJ7_fill_53178, Cond.static yJ7_fill_53178, Cond.initialized RJ7, Cond.code yJ7_fill_53178 cJ7_fill_53178 4 none, Cond.methodLink RX0 54 yX0_firstWordIn, Cond.instanceMethod yX0_firstWordIn, Cond.selects RX0 yX0_firstWordIn yX0_firstWordIn, Cond.code yX0_firstWordIn cX0_firstWordIn 5 (some .int), Cond.methodLink RX0 37 yX0_runAt, Cond.instanceMethod yX0_runAt, Cond.selects RX0 yX0_runAt yX0_runAt, Cond.code yX0_runAt cX0_runAt 4 (some (.object "SlipLevels$Slips")), Cond.fieldLink RX0 11 "SlipLevels$Binder" "rows" "[LSlipLevels$Slips;", Cond.methodLink RX0 51 yX1_wordAt, Cond.instanceMethod yX1_wordAt, Cond.selects RX1 yX1_wordAt yX1_wordAt]
def wsL_merge_r4 : List Cond := [Cond.code yX1_wordAt cX1_wordAt 2 (some .int), Cond.methodLink RX0 88 yX1_put, Cond.instanceMethod yX1_put, Cond.selects RX1 yX1_put yX1_put, Cond.code yX1_put cX1_put 4 none, Cond.methodLink RX1 46 Lib.Math.min.name, Cond.methodLink RX1 52 Lib.Math.max.name, Cond.static Lib.Math.max.name, Cond.code Lib.Math.max.name Lib.Math.max.code 2 (some .int), Cond.methodLink RX0 81 yX0_addRun, Cond.instanceMethod yX0_addRun, Cond.selects RX0 yX0_addRun yX0_addRun, Cond.code yX0_addRun cX0_addRun 4 none, Cond.methodLink RX0 92 yX0_rowAt, Cond.instanceMethod yX0_rowAt, Cond.selects RX0 yX0_rowAt yX0_rowAt, Cond.code yX0_rowAt cX0_rowAt 3 (some (.object "SlipLevels$Slips")), Cond.methodLink RX0 41 yX1_size, Cond.instanceMethod yX1_size, Cond.selects RX1 yX1_size yX1_size, Cond.code yX1_size cX1_size 1 (some .int), Cond.methodLink RX0 95 yX1_copy, Cond.instanceMethod yX1_copy, Cond.selects RX1 yX1_copy yX1_copy]
def wsL_merge_r5 : List Cond := [Cond.code yX1_copy cX1_copy 2 none, Cond.methodLink RX1 40 arraycopyName, Cond.native arraycopyName, Cond.static arraycopyName, Cond.initialized "java/lang/System", Cond.methodLink RX2 70 yX0_settle, Cond.instanceMethod yX0_settle, Cond.selects RX0 yX0_settle yX0_settle, Cond.code yX0_settle cX0_settle 2 none, Cond.methodLink RX0 65 yX0_mergeLevel]
def wsL_merge : List Cond := .codeWith yL_merge cL_merge 4 (some .int) [(0, 9, 12, 13), (0, 9, 15, 25)] :: ((wsL_merge_r1 ++ (wsL_merge_r2 ++ (wsL_merge_r3 ++ (wsL_merge_r4 ++ wsL_merge_r5)))) ++ wsX20 ++ wsX00 ++ wsX10 ++ (vx_atS RX2 62 "java/lang/IllegalStateException" ["java/lang/RuntimeException", "java/lang/Exception"]).filter goodWord ++ (vx_atS RX2 98 "java/lang/IndexOutOfBoundsException" ["java/lang/RuntimeException", "java/lang/Exception"]).filter goodWord)
def wsL_setRoom_r1 : List Cond := [Cond.classLink RL 15 "java/lang/IllegalArgumentException", Cond.methodLink RL 27 yX2_setRoom, Cond.instanceMethod yX2_setRoom, Cond.selects RX2 yX2_setRoom yX2_setRoom, Cond.initialized RX2, Cond.code yX2_setRoom cX2_setRoom 3 (some .int), Cond.classLink RX2 37 "java/lang/IllegalArgumentException", Cond.initialized "java/lang/IllegalArgumentException", Cond.fieldLink RX2 26 "SlipLevels" "deskRoom" "I", Cond.methodLink RX2 48 yX2_bindFrom, Cond.instanceMethod yX2_bindFrom, Cond.selects RX2 yX2_bindFrom yX2_bindFrom, Cond.code yX2_bindFrom cX2_bindFrom 3 (some .int), Cond.fieldLink RX2 10 "SlipLevels" "deskSlips" "LSlipLevels$Slips;", Cond.fieldLink RX2 19 "SlipLevels" "binder" "LSlipLevels$Binder;", Cond.methodLink RX2 160 yX1_size, Cond.instanceMethod yX1_size, Cond.selects RX1 yX1_size yX1_size, Cond.initialized RX1, Cond.code yX1_size cX1_size 1 (some .int), Cond.fieldLink RX1 24 "SlipLevels$Slips" "size" "I", Cond.methodLink RX2 63 yX0_moves, Cond.instanceMethod yX0_moves, Cond.selects RX0 yX0_moves yX0_moves]
def wsL_setRoom_r2 : List Cond := [Cond.initialized RX0, Cond.code yX0_moves cX0_moves 1 (some .int), Cond.fieldLink RX0 26 "SlipLevels$Binder" "moves" "I", Cond.methodLink RX2 163 yX0_addRun, Cond.instanceMethod yX0_addRun, Cond.selects RX0 yX0_addRun yX0_addRun, Cond.code yX0_addRun cX0_addRun 4 none, Cond.fieldLink RX0 17 "SlipLevels$Binder" "runs" "[I", Cond.methodLink RX0 33 yX0_runsOf, Cond.instanceMethod yX0_runsOf, Cond.selects RX0 yX0_runsOf yX0_runsOf, Cond.code yX0_runsOf cX0_runsOf 2 (some .int), Cond.methodLink RX0 92 yX0_rowAt, Cond.instanceMethod yX0_rowAt, Cond.selects RX0 yX0_rowAt yX0_rowAt, Cond.code yX0_rowAt cX0_rowAt 3 (some (.object "SlipLevels$Slips")), Cond.fieldLink RX0 11 "SlipLevels$Binder" "rows" "[LSlipLevels$Slips;", Cond.methodLink RX0 41 yX1_size, Cond.methodLink RX0 95 yX1_copy, Cond.instanceMethod yX1_copy, Cond.selects RX1 yX1_copy yX1_copy, Cond.code yX1_copy cX1_copy 2 none, Cond.fieldLink RX1 9 "SlipLevels$Slips" "words" "[I", Cond.methodLink RX1 40 arraycopyName]
def wsL_setRoom_r3 : List Cond := [Cond.native arraycopyName, Cond.static arraycopyName, Cond.initialized "java/lang/System", Cond.fieldLink RX1 28 "SlipLevels$Slips" "tombs" "I", Cond.fieldLink RX1 31 "SlipLevels$Slips" "least" "I", Cond.fieldLink RX1 34 "SlipLevels$Slips" "greatest" "I", Cond.fieldLink RX1 37 "SlipLevels$Slips" "sieve" "I", Cond.methodLink RX2 167 yX1_clear, Cond.instanceMethod yX1_clear, Cond.selects RX1 yX1_clear yX1_clear, Cond.code yX1_clear cX1_clear 1 none, Cond.methodLink RX1 18 yJ7_fill_53178, Cond.static yJ7_fill_53178, Cond.initialized RJ7, Cond.code yJ7_fill_53178 cJ7_fill_53178 4 none, Cond.methodLink RX2 70 yX0_settle, Cond.instanceMethod yX0_settle, Cond.selects RX0 yX0_settle yX0_settle, Cond.code yX0_settle cX0_settle 2 none, Cond.methodLink RX0 65 yX0_mergeLevel, Cond.instanceMethod yX0_mergeLevel, Cond.selects RX0 yX0_mergeLevel yX0_mergeLevel, Cond.code yX0_mergeLevel cX0_mergeLevel 2 none, Cond.methodLink RX0 76 Lib.Math.min.name]
def wsL_setRoom_r4 : List Cond := [Cond.static Lib.Math.min.name, Cond.initialized "java/lang/Math", Cond.code Lib.Math.min.name Lib.Math.min.code 2 (some .int), Cond.fieldLink RX0 22 "SlipLevels$Binder" "merged" "LSlipLevels$Slips;", Cond.fieldLink RX0 30 "SlipLevels$Binder" "mergings" "I", Cond.methodLink RX0 69 yX0_nothingBehind, Cond.instanceMethod yX0_nothingBehind, Cond.selects RX0 yX0_nothingBehind yX0_nothingBehind, Cond.code yX0_nothingBehind cX0_nothingBehind 3 (some .boolean), Cond.methodLink RX0 72 yX0_gather, Cond.instanceMethod yX0_gather, Cond.selects RX0 yX0_gather yX0_gather, Cond.code yX0_gather cX0_gather 5 none, Cond.methodLink RX0 85 yX1_clear, Cond.methodLink RX0 54 yX0_firstWordIn, Cond.instanceMethod yX0_firstWordIn, Cond.selects RX0 yX0_firstWordIn yX0_firstWordIn, Cond.code yX0_firstWordIn cX0_firstWordIn 5 (some .int), Cond.methodLink RX0 37 yX0_runAt, Cond.instanceMethod yX0_runAt, Cond.selects RX0 yX0_runAt yX0_runAt, Cond.code yX0_runAt cX0_runAt 4 (some (.object "SlipLevels$Slips")), Cond.methodLink RX0 51 yX1_wordAt, Cond.instanceMethod yX1_wordAt]
def wsL_setRoom_r5 : List Cond := [Cond.selects RX1 yX1_wordAt yX1_wordAt, Cond.code yX1_wordAt cX1_wordAt 2 (some .int), Cond.methodLink RX0 88 yX1_put, Cond.instanceMethod yX1_put, Cond.selects RX1 yX1_put yX1_put, Cond.code yX1_put cX1_put 4 none, Cond.methodLink RX1 46 Lib.Math.min.name, Cond.methodLink RX1 52 Lib.Math.max.name, Cond.static Lib.Math.max.name, Cond.code Lib.Math.max.name Lib.Math.max.code 2 (some .int), Cond.methodLink RX0 81 yX0_addRun]
def wsL_setRoom : List Cond := .codeWith yL_setRoom cL_setRoom 4 (some .int) [(0, 9, 12, 15)] :: ((wsL_setRoom_r1 ++ (wsL_setRoom_r2 ++ (wsL_setRoom_r3 ++ (wsL_setRoom_r4 ++ wsL_setRoom_r5)))) ++ wsX20 ++ wsX10 ++ wsX00 ++ (vx_atS RX2 41 "java/lang/IllegalArgumentException" ["java/lang/RuntimeException", "java/lang/Exception"]).filter goodWord)
def wsL_read_r1 : List Cond := [Cond.classLink RL 13 "java/lang/IndexOutOfBoundsException", Cond.methodLink RL 30 yX2_read, Cond.instanceMethod yX2_read, Cond.selects RX2 yX2_read yX2_read, Cond.initialized RX2, Cond.code yX2_read cX2_read 2 (some .int), Cond.fieldLink RX2 30 "SlipLevels" "detoursRead" "I", Cond.fieldLink RX2 19 "SlipLevels" "binder" "LSlipLevels$Binder;", Cond.methodLink RX2 33 yX2_needNumber, Cond.static yX2_needNumber, Cond.code yX2_needNumber cX2_needNumber 1 none, Cond.classLink RX2 94 "java/lang/IndexOutOfBoundsException", Cond.initialized "java/lang/IndexOutOfBoundsException", Cond.methodLink RX2 75 yX2_detoursIn, Cond.instanceMethod yX2_detoursIn, Cond.selects RX2 yX2_detoursIn yX2_detoursIn, Cond.code yX2_detoursIn cX2_detoursIn 3 (some .int), Cond.fieldLink RX2 10 "SlipLevels" "deskSlips" "LSlipLevels$Slips;", Cond.methodLink RX2 176 yX1_has, Cond.instanceMethod yX1_has, Cond.selects RX1 yX1_has yX1_has, Cond.initialized RX1, Cond.code yX1_has cX1_has 2 (some .boolean), Cond.methodLink RX1 55 yX1_wordAt]
def wsL_read_r2 : List Cond := [Cond.instanceMethod yX1_wordAt, Cond.selects RX1 yX1_wordAt yX1_wordAt, Cond.code yX1_wordAt cX1_wordAt 2 (some .int), Cond.fieldLink RX1 9 "SlipLevels$Slips" "words" "[I", Cond.methodLink RX2 180 yX0_detoursTo, Cond.instanceMethod yX0_detoursTo, Cond.selects RX0 yX0_detoursTo yX0_detoursTo, Cond.initialized RX0, Cond.code yX0_detoursTo cX0_detoursTo 6 (some .int), Cond.methodLink RX0 33 yX0_runsOf, Cond.instanceMethod yX0_runsOf, Cond.selects RX0 yX0_runsOf yX0_runsOf, Cond.code yX0_runsOf cX0_runsOf 2 (some .int), Cond.fieldLink RX0 17 "SlipLevels$Binder" "runs" "[I", Cond.methodLink RX0 37 yX0_runAt, Cond.instanceMethod yX0_runAt, Cond.selects RX0 yX0_runAt yX0_runAt, Cond.code yX0_runAt cX0_runAt 4 (some (.object "SlipLevels$Slips")), Cond.fieldLink RX0 11 "SlipLevels$Binder" "rows" "[LSlipLevels$Slips;", Cond.methodLink RX0 62 yX1_opensFor, Cond.instanceMethod yX1_opensFor, Cond.selects RX1 yX1_opensFor yX1_opensFor, Cond.code yX1_opensFor cX1_opensFor 2 (some .boolean), Cond.fieldLink RX1 31 "SlipLevels$Slips" "least" "I"]
def wsL_read_r3 : List Cond := [Cond.fieldLink RX1 34 "SlipLevels$Slips" "greatest" "I", Cond.fieldLink RX1 37 "SlipLevels$Slips" "sieve" "I", Cond.methodLink RX0 58 yX1_has, Cond.methodLink RX2 79 yX2_wordOf, Cond.instanceMethod yX2_wordOf, Cond.selects RX2 yX2_wordOf yX2_wordOf, Cond.code yX2_wordOf cX2_wordOf 3 (some .int), Cond.methodLink RX2 170 yX1_wordAt, Cond.methodLink RX2 173 yX0_firstWord, Cond.instanceMethod yX0_firstWord, Cond.selects RX0 yX0_firstWord yX0_firstWord, Cond.code yX0_firstWord cX0_firstWord 4 (some .int), Cond.methodLink RX0 54 yX0_firstWordIn, Cond.instanceMethod yX0_firstWordIn, Cond.selects RX0 yX0_firstWordIn yX0_firstWordIn, Cond.code yX0_firstWordIn cX0_firstWordIn 5 (some .int), Cond.methodLink RX0 51 yX1_wordAt]
def wsL_read : List Cond := .codeWith yL_read cL_read 4 (some .int) [(0, 9, 12, 13)] :: ((wsL_read_r1 ++ (wsL_read_r2 ++ wsL_read_r3)) ++ wsX20 ++ wsX10 ++ wsX00 ++ (vx_atS RX2 98 "java/lang/IndexOutOfBoundsException" ["java/lang/RuntimeException", "java/lang/Exception"]).filter goodWord)
def wsL_detours_r1 : List Cond := [Cond.classLink RL 13 "java/lang/IndexOutOfBoundsException", Cond.methodLink RL 33 yX2_detours, Cond.instanceMethod yX2_detours, Cond.selects RX2 yX2_detours yX2_detours, Cond.initialized RX2, Cond.code yX2_detours cX2_detours 2 (some .int), Cond.fieldLink RX2 19 "SlipLevels" "binder" "LSlipLevels$Binder;", Cond.methodLink RX2 33 yX2_needNumber, Cond.static yX2_needNumber, Cond.code yX2_needNumber cX2_needNumber 1 none, Cond.classLink RX2 94 "java/lang/IndexOutOfBoundsException", Cond.initialized "java/lang/IndexOutOfBoundsException", Cond.methodLink RX2 75 yX2_detoursIn, Cond.instanceMethod yX2_detoursIn, Cond.selects RX2 yX2_detoursIn yX2_detoursIn, Cond.code yX2_detoursIn cX2_detoursIn 3 (some .int), Cond.fieldLink RX2 10 "SlipLevels" "deskSlips" "LSlipLevels$Slips;", Cond.methodLink RX2 176 yX1_has, Cond.instanceMethod yX1_has, Cond.selects RX1 yX1_has yX1_has, Cond.initialized RX1, Cond.code yX1_has cX1_has 2 (some .boolean), Cond.methodLink RX1 55 yX1_wordAt, Cond.instanceMethod yX1_wordAt]
def wsL_detours_r2 : List Cond := [Cond.selects RX1 yX1_wordAt yX1_wordAt, Cond.code yX1_wordAt cX1_wordAt 2 (some .int), Cond.fieldLink RX1 9 "SlipLevels$Slips" "words" "[I", Cond.methodLink RX2 180 yX0_detoursTo, Cond.instanceMethod yX0_detoursTo, Cond.selects RX0 yX0_detoursTo yX0_detoursTo, Cond.initialized RX0, Cond.code yX0_detoursTo cX0_detoursTo 6 (some .int), Cond.methodLink RX0 33 yX0_runsOf, Cond.instanceMethod yX0_runsOf, Cond.selects RX0 yX0_runsOf yX0_runsOf, Cond.code yX0_runsOf cX0_runsOf 2 (some .int), Cond.fieldLink RX0 17 "SlipLevels$Binder" "runs" "[I", Cond.methodLink RX0 37 yX0_runAt, Cond.instanceMethod yX0_runAt, Cond.selects RX0 yX0_runAt yX0_runAt, Cond.code yX0_runAt cX0_runAt 4 (some (.object "SlipLevels$Slips")), Cond.fieldLink RX0 11 "SlipLevels$Binder" "rows" "[LSlipLevels$Slips;", Cond.methodLink RX0 62 yX1_opensFor, Cond.instanceMethod yX1_opensFor, Cond.selects RX1 yX1_opensFor yX1_opensFor, Cond.code yX1_opensFor cX1_opensFor 2 (some .boolean), Cond.fieldLink RX1 31 "SlipLevels$Slips" "least" "I", Cond.fieldLink RX1 34 "SlipLevels$Slips" "greatest" "I"]
def wsL_detours_r3 : List Cond := [Cond.fieldLink RX1 37 "SlipLevels$Slips" "sieve" "I", Cond.methodLink RX0 58 yX1_has]
def wsL_detours : List Cond := .codeWith yL_detours cL_detours 4 (some .int) [(0, 9, 12, 13)] :: ((wsL_detours_r1 ++ (wsL_detours_r2 ++ wsL_detours_r3)) ++ wsX20 ++ wsX10 ++ wsX00 ++ (vx_atS RX2 98 "java/lang/IndexOutOfBoundsException" ["java/lang/RuntimeException", "java/lang/Exception"]).filter goodWord)
def wsL_next_r1 : List Cond := [Cond.classLink RL 13 "java/lang/IndexOutOfBoundsException", Cond.methodLink RL 36 yX2_next, Cond.instanceMethod yX2_next, Cond.selects RX2 yX2_next yX2_next, Cond.initialized RX2, Cond.code yX2_next cX2_next 3 (some .int), Cond.methodLink RX2 33 yX2_needNumber, Cond.static yX2_needNumber, Cond.code yX2_needNumber cX2_needNumber 1 none, Cond.classLink RX2 94 "java/lang/IndexOutOfBoundsException", Cond.initialized "java/lang/IndexOutOfBoundsException", Cond.methodLink RX2 79 yX2_wordOf, Cond.instanceMethod yX2_wordOf, Cond.selects RX2 yX2_wordOf yX2_wordOf, Cond.code yX2_wordOf cX2_wordOf 3 (some .int), Cond.fieldLink RX2 10 "SlipLevels" "deskSlips" "LSlipLevels$Slips;", Cond.fieldLink RX2 19 "SlipLevels" "binder" "LSlipLevels$Binder;", Cond.methodLink RX2 170 yX1_wordAt, Cond.instanceMethod yX1_wordAt, Cond.selects RX1 yX1_wordAt yX1_wordAt, Cond.initialized RX1, Cond.code yX1_wordAt cX1_wordAt 2 (some .int), Cond.fieldLink RX1 9 "SlipLevels$Slips" "words" "[I", Cond.methodLink RX2 173 yX0_firstWord]
def wsL_next_r2 : List Cond := [Cond.instanceMethod yX0_firstWord, Cond.selects RX0 yX0_firstWord yX0_firstWord, Cond.initialized RX0, Cond.code yX0_firstWord cX0_firstWord 4 (some .int), Cond.methodLink RX0 54 yX0_firstWordIn, Cond.instanceMethod yX0_firstWordIn, Cond.selects RX0 yX0_firstWordIn yX0_firstWordIn, Cond.code yX0_firstWordIn cX0_firstWordIn 5 (some .int), Cond.methodLink RX0 37 yX0_runAt, Cond.instanceMethod yX0_runAt, Cond.selects RX0 yX0_runAt yX0_runAt, Cond.code yX0_runAt cX0_runAt 4 (some (.object "SlipLevels$Slips")), Cond.fieldLink RX0 17 "SlipLevels$Binder" "runs" "[I", Cond.fieldLink RX0 11 "SlipLevels$Binder" "rows" "[LSlipLevels$Slips;", Cond.methodLink RX0 51 yX1_wordAt]
def wsL_next : List Cond := .codeWith yL_next cL_next 4 (some .int) [(0, 9, 12, 13)] :: ((wsL_next_r1 ++ wsL_next_r2) ++ wsX20 ++ wsX10 ++ wsX00 ++ (vx_atS RX2 98 "java/lang/IndexOutOfBoundsException" ["java/lang/RuntimeException", "java/lang/Exception"]).filter goodWord)
def wsL_sum_r1 : List Cond := [Cond.classLink RL 13 "java/lang/IndexOutOfBoundsException", Cond.classLink RL 15 "java/lang/IllegalArgumentException", Cond.methodLink RL 39 yX2_sum, Cond.instanceMethod yX2_sum, Cond.selects RX2 yX2_sum yX2_sum, Cond.initialized RX2, Cond.code yX2_sum cX2_sum 5 (some .int), Cond.classLink RX2 37 "java/lang/IllegalArgumentException", Cond.initialized "java/lang/IllegalArgumentException", Cond.methodLink RX2 84 Lib.Math.max.name, Cond.static Lib.Math.max.name, Cond.initialized "java/lang/Math", Cond.code Lib.Math.max.name Lib.Math.max.code 2 (some .int), Cond.methodLink RX2 33 yX2_needNumber, Cond.static yX2_needNumber, Cond.code yX2_needNumber cX2_needNumber 1 none, Cond.classLink RX2 94 "java/lang/IndexOutOfBoundsException", Cond.initialized "java/lang/IndexOutOfBoundsException", Cond.methodLink RX2 79 yX2_wordOf, Cond.instanceMethod yX2_wordOf, Cond.selects RX2 yX2_wordOf yX2_wordOf, Cond.code yX2_wordOf cX2_wordOf 3 (some .int), Cond.fieldLink RX2 10 "SlipLevels" "deskSlips" "LSlipLevels$Slips;", Cond.fieldLink RX2 19 "SlipLevels" "binder" "LSlipLevels$Binder;"]
def wsL_sum_r2 : List Cond := [Cond.methodLink RX2 170 yX1_wordAt, Cond.instanceMethod yX1_wordAt, Cond.selects RX1 yX1_wordAt yX1_wordAt, Cond.initialized RX1, Cond.code yX1_wordAt cX1_wordAt 2 (some .int), Cond.fieldLink RX1 9 "SlipLevels$Slips" "words" "[I", Cond.methodLink RX2 173 yX0_firstWord, Cond.instanceMethod yX0_firstWord, Cond.selects RX0 yX0_firstWord yX0_firstWord, Cond.initialized RX0, Cond.code yX0_firstWord cX0_firstWord 4 (some .int), Cond.methodLink RX0 54 yX0_firstWordIn, Cond.instanceMethod yX0_firstWordIn, Cond.selects RX0 yX0_firstWordIn yX0_firstWordIn, Cond.code yX0_firstWordIn cX0_firstWordIn 5 (some .int), Cond.methodLink RX0 37 yX0_runAt, Cond.instanceMethod yX0_runAt, Cond.selects RX0 yX0_runAt yX0_runAt, Cond.code yX0_runAt cX0_runAt 4 (some (.object "SlipLevels$Slips")), Cond.fieldLink RX0 17 "SlipLevels$Binder" "runs" "[I", Cond.fieldLink RX0 11 "SlipLevels$Binder" "rows" "[LSlipLevels$Slips;", Cond.methodLink RX0 51 yX1_wordAt]
def wsL_sum : List Cond := .codeWith yL_sum cL_sum 5 (some .int) [(0, 10, 13, 13), (0, 10, 17, 15)] :: ((wsL_sum_r1 ++ wsL_sum_r2) ++ wsX20 ++ wsX10 ++ wsX00 ++ (vx_atS RX2 41 "java/lang/IllegalArgumentException" ["java/lang/RuntimeException", "java/lang/Exception"]).filter goodWord ++ (vx_atS RX2 98 "java/lang/IndexOutOfBoundsException" ["java/lang/RuntimeException", "java/lang/Exception"]).filter goodWord)
def wsL_run_r1 : List Cond := [Cond.classLink RL 13 "java/lang/IndexOutOfBoundsException", Cond.methodLink RL 43 yX2_run, Cond.instanceMethod yX2_run, Cond.selects RX2 yX2_run yX2_run, Cond.initialized RX2, Cond.code yX2_run cX2_run 5 (some .int), Cond.classLink RX2 94 "java/lang/IndexOutOfBoundsException", Cond.initialized "java/lang/IndexOutOfBoundsException", Cond.fieldLink RX2 19 "SlipLevels" "binder" "LSlipLevels$Binder;", Cond.methodLink RX2 52 yX2_needLevel, Cond.static yX2_needLevel, Cond.code yX2_needLevel cX2_needLevel 1 none, Cond.methodLink RX2 90 yX0_runAt, Cond.instanceMethod yX0_runAt, Cond.selects RX0 yX0_runAt yX0_runAt, Cond.initialized RX0, Cond.code yX0_runAt cX0_runAt 4 (some (.object "SlipLevels$Slips")), Cond.fieldLink RX0 17 "SlipLevels$Binder" "runs" "[I", Cond.fieldLink RX0 11 "SlipLevels$Binder" "rows" "[LSlipLevels$Slips;", Cond.methodLink RX2 101 yX2_standingIn, Cond.instanceMethod yX2_standingIn, Cond.selects RX2 yX2_standingIn yX2_standingIn, Cond.code yX2_standingIn cX2_standingIn 5 (some .int), Cond.fieldLink RX2 10 "SlipLevels" "deskSlips" "LSlipLevels$Slips;"]
def wsL_run_r2 : List Cond := [Cond.methodLink RX2 176 yX1_has, Cond.instanceMethod yX1_has, Cond.selects RX1 yX1_has yX1_has, Cond.initialized RX1, Cond.code yX1_has cX1_has 2 (some .boolean), Cond.methodLink RX1 55 yX1_wordAt, Cond.instanceMethod yX1_wordAt, Cond.selects RX1 yX1_wordAt yX1_wordAt, Cond.code yX1_wordAt cX1_wordAt 2 (some .int), Cond.fieldLink RX1 9 "SlipLevels$Slips" "words" "[I", Cond.methodLink RX2 183 yX0_isFirst, Cond.instanceMethod yX0_isFirst, Cond.selects RX0 yX0_isFirst yX0_isFirst, Cond.code yX0_isFirst cX0_isFirst 6 (some .boolean), Cond.methodLink RX0 54 yX0_firstWordIn, Cond.instanceMethod yX0_firstWordIn, Cond.selects RX0 yX0_firstWordIn yX0_firstWordIn, Cond.code yX0_firstWordIn cX0_firstWordIn 5 (some .int), Cond.methodLink RX0 37 yX0_runAt, Cond.methodLink RX0 51 yX1_wordAt, Cond.methodLink RX0 58 yX1_has, Cond.methodLink RX2 104 yX1_fact, Cond.instanceMethod yX1_fact, Cond.selects RX1 yX1_fact yX1_fact]
def wsL_run_r3 : List Cond := [Cond.code yX1_fact cX1_fact 2 (some .int), Cond.fieldLink RX1 24 "SlipLevels$Slips" "size" "I", Cond.fieldLink RX1 31 "SlipLevels$Slips" "least" "I", Cond.fieldLink RX1 34 "SlipLevels$Slips" "greatest" "I", Cond.fieldLink RX1 37 "SlipLevels$Slips" "sieve" "I", Cond.fieldLink RX1 28 "SlipLevels$Slips" "tombs" "I"]
def wsL_run : List Cond := .codeWith yL_run cL_run 6 (some .int) [(0, 12, 15, 13)] :: ((wsL_run_r1 ++ (wsL_run_r2 ++ wsL_run_r3)) ++ wsX20 ++ wsX00 ++ wsX10 ++ (vx_atS RX2 98 "java/lang/IndexOutOfBoundsException" ["java/lang/RuntimeException", "java/lang/Exception"]).filter goodWord)
def wsL_slip_r1 : List Cond := [Cond.classLink RL 13 "java/lang/IndexOutOfBoundsException", Cond.methodLink RL 47 yX2_slip, Cond.instanceMethod yX2_slip, Cond.selects RX2 yX2_slip yX2_slip, Cond.initialized RX2, Cond.code yX2_slip cX2_slip 5 (some .int), Cond.classLink RX2 94 "java/lang/IndexOutOfBoundsException", Cond.initialized "java/lang/IndexOutOfBoundsException", Cond.fieldLink RX2 19 "SlipLevels" "binder" "LSlipLevels$Binder;", Cond.methodLink RX2 52 yX2_needLevel, Cond.static yX2_needLevel, Cond.code yX2_needLevel cX2_needLevel 1 none, Cond.methodLink RX2 90 yX0_runAt, Cond.instanceMethod yX0_runAt, Cond.selects RX0 yX0_runAt yX0_runAt, Cond.initialized RX0, Cond.code yX0_runAt cX0_runAt 4 (some (.object "SlipLevels$Slips")), Cond.fieldLink RX0 17 "SlipLevels$Binder" "runs" "[I", Cond.fieldLink RX0 11 "SlipLevels$Binder" "rows" "[LSlipLevels$Slips;", Cond.methodLink RX2 107 yX2_slipAt, Cond.static yX2_slipAt, Cond.code yX2_slipAt cX2_slipAt 3 (some .int), Cond.methodLink RX2 152 yX1_numberAt, Cond.instanceMethod yX1_numberAt]
def wsL_slip_r2 : List Cond := [Cond.selects RX1 yX1_numberAt yX1_numberAt, Cond.initialized RX1, Cond.code yX1_numberAt cX1_numberAt 4 (some .int), Cond.fieldLink RX1 24 "SlipLevels$Slips" "size" "I", Cond.methodLink RX1 59 yX1_has, Cond.instanceMethod yX1_has, Cond.selects RX1 yX1_has yX1_has, Cond.code yX1_has cX1_has 2 (some .boolean), Cond.methodLink RX1 55 yX1_wordAt, Cond.instanceMethod yX1_wordAt, Cond.selects RX1 yX1_wordAt yX1_wordAt, Cond.code yX1_wordAt cX1_wordAt 2 (some .int), Cond.fieldLink RX1 9 "SlipLevels$Slips" "words" "[I", Cond.methodLink RX2 157 yX1_told, Cond.instanceMethod yX1_told, Cond.selects RX1 yX1_told yX1_told, Cond.code yX1_told cX1_told 3 (some .int)]
def wsL_slip : List Cond := .codeWith yL_slip cL_slip 6 (some .int) [(0, 12, 15, 13)] :: ((wsL_slip_r1 ++ wsL_slip_r2) ++ wsX20 ++ wsX00 ++ wsX10 ++ (vx_atS RX2 98 "java/lang/IndexOutOfBoundsException" ["java/lang/RuntimeException", "java/lang/Exception"]).filter goodWord)
def wsL_desk_r1 : List Cond := [Cond.classLink RL 13 "java/lang/IndexOutOfBoundsException", Cond.methodLink RL 50 yX2_desk, Cond.instanceMethod yX2_desk, Cond.selects RX2 yX2_desk yX2_desk, Cond.initialized RX2, Cond.code yX2_desk cX2_desk 2 (some .int), Cond.fieldLink RX2 10 "SlipLevels" "deskSlips" "LSlipLevels$Slips;", Cond.methodLink RX2 107 yX2_slipAt, Cond.static yX2_slipAt, Cond.code yX2_slipAt cX2_slipAt 3 (some .int), Cond.classLink RX2 94 "java/lang/IndexOutOfBoundsException", Cond.initialized "java/lang/IndexOutOfBoundsException", Cond.methodLink RX2 152 yX1_numberAt, Cond.instanceMethod yX1_numberAt, Cond.selects RX1 yX1_numberAt yX1_numberAt, Cond.initialized RX1, Cond.code yX1_numberAt cX1_numberAt 4 (some .int), Cond.fieldLink RX1 24 "SlipLevels$Slips" "size" "I", Cond.methodLink RX1 59 yX1_has, Cond.instanceMethod yX1_has, Cond.selects RX1 yX1_has yX1_has, Cond.code yX1_has cX1_has 2 (some .boolean), Cond.methodLink RX1 55 yX1_wordAt, Cond.instanceMethod yX1_wordAt]
def wsL_desk_r2 : List Cond := [Cond.selects RX1 yX1_wordAt yX1_wordAt, Cond.code yX1_wordAt cX1_wordAt 2 (some .int), Cond.fieldLink RX1 9 "SlipLevels$Slips" "words" "[I", Cond.methodLink RX2 157 yX1_told, Cond.instanceMethod yX1_told, Cond.selects RX1 yX1_told yX1_told, Cond.code yX1_told cX1_told 3 (some .int)]
def wsL_desk : List Cond := .codeWith yL_desk cL_desk 4 (some .int) [(0, 9, 12, 13)] :: ((wsL_desk_r1 ++ wsL_desk_r2) ++ wsX20 ++ wsX10 ++ (vx_atS RX2 98 "java/lang/IndexOutOfBoundsException" ["java/lang/RuntimeException", "java/lang/Exception"]).filter goodWord)
def wsL_level_r1 : List Cond := [Cond.classLink RL 13 "java/lang/IndexOutOfBoundsException", Cond.methodLink RL 53 yX2_level, Cond.instanceMethod yX2_level, Cond.selects RX2 yX2_level yX2_level, Cond.initialized RX2, Cond.code yX2_level cX2_level 3 (some .int), Cond.classLink RX2 94 "java/lang/IndexOutOfBoundsException", Cond.initialized "java/lang/IndexOutOfBoundsException", Cond.fieldLink RX2 19 "SlipLevels" "binder" "LSlipLevels$Binder;", Cond.methodLink RX2 52 yX2_needLevel, Cond.static yX2_needLevel, Cond.code yX2_needLevel cX2_needLevel 1 none, Cond.methodLink RX2 55 yX0_runsOf, Cond.instanceMethod yX0_runsOf, Cond.selects RX0 yX0_runsOf yX0_runsOf, Cond.initialized RX0, Cond.code yX0_runsOf cX0_runsOf 2 (some .int), Cond.fieldLink RX0 17 "SlipLevels$Binder" "runs" "[I", Cond.methodLink RX2 113 yX0_slipsOf, Cond.instanceMethod yX0_slipsOf, Cond.selects RX0 yX0_slipsOf yX0_slipsOf, Cond.code yX0_slipsOf cX0_slipsOf 5 (some .int), Cond.methodLink RX0 33 yX0_runsOf, Cond.methodLink RX0 37 yX0_runAt]
def wsL_level_r2 : List Cond := [Cond.instanceMethod yX0_runAt, Cond.selects RX0 yX0_runAt yX0_runAt, Cond.code yX0_runAt cX0_runAt 4 (some (.object "SlipLevels$Slips")), Cond.fieldLink RX0 11 "SlipLevels$Binder" "rows" "[LSlipLevels$Slips;", Cond.methodLink RX0 41 yX1_size, Cond.instanceMethod yX1_size, Cond.selects RX1 yX1_size yX1_size, Cond.initialized RX1, Cond.code yX1_size cX1_size 1 (some .int), Cond.fieldLink RX1 24 "SlipLevels$Slips" "size" "I", Cond.methodLink RX2 116 yX0_tombsOf, Cond.instanceMethod yX0_tombsOf, Cond.selects RX0 yX0_tombsOf yX0_tombsOf, Cond.code yX0_tombsOf cX0_tombsOf 5 (some .int), Cond.methodLink RX0 45 yX1_tombs, Cond.instanceMethod yX1_tombs, Cond.selects RX1 yX1_tombs yX1_tombs, Cond.code yX1_tombs cX1_tombs 1 (some .int), Cond.fieldLink RX1 28 "SlipLevels$Slips" "tombs" "I"]
def wsL_level : List Cond := .codeWith yL_level cL_level 5 (some .int) [(0, 10, 13, 13)] :: ((wsL_level_r1 ++ wsL_level_r2) ++ wsX20 ++ wsX00 ++ wsX10 ++ (vx_atS RX2 98 "java/lang/IndexOutOfBoundsException" ["java/lang/RuntimeException", "java/lang/Exception"]).filter goodWord)
def wsL_count_r1 : List Cond := [Cond.classLink RL 13 "java/lang/IndexOutOfBoundsException", Cond.methodLink RL 56 yX2_count, Cond.instanceMethod yX2_count, Cond.selects RX2 yX2_count yX2_count, Cond.initialized RX2, Cond.code yX2_count cX2_count 2 (some .int), Cond.classLink RX2 94 "java/lang/IndexOutOfBoundsException", Cond.initialized "java/lang/IndexOutOfBoundsException", Cond.methodLink RX2 121 yX2_tally, Cond.instanceMethod yX2_tally, Cond.selects RX2 yX2_tally yX2_tally, Cond.code yX2_tally cX2_tally 2 (some .int), Cond.fieldLink RX2 10 "SlipLevels" "deskSlips" "LSlipLevels$Slips;", Cond.fieldLink RX2 26 "SlipLevels" "deskRoom" "I", Cond.fieldLink RX2 19 "SlipLevels" "binder" "LSlipLevels$Binder;", Cond.fieldLink RX2 30 "SlipLevels" "detoursRead" "I", Cond.methodLink RX2 160 yX1_size, Cond.instanceMethod yX1_size, Cond.selects RX1 yX1_size yX1_size, Cond.initialized RX1, Cond.code yX1_size cX1_size 1 (some .int), Cond.fieldLink RX1 24 "SlipLevels$Slips" "size" "I", Cond.methodLink RX2 127 yX0_slips, Cond.instanceMethod yX0_slips]
def wsL_count_r2 : List Cond := [Cond.selects RX0 yX0_slips yX0_slips, Cond.initialized RX0, Cond.code yX0_slips cX0_slips 3 (some .int), Cond.methodLink RX0 48 yX0_slipsOf, Cond.instanceMethod yX0_slipsOf, Cond.selects RX0 yX0_slipsOf yX0_slipsOf, Cond.code yX0_slipsOf cX0_slipsOf 5 (some .int), Cond.methodLink RX0 33 yX0_runsOf, Cond.instanceMethod yX0_runsOf, Cond.selects RX0 yX0_runsOf yX0_runsOf, Cond.code yX0_runsOf cX0_runsOf 2 (some .int), Cond.fieldLink RX0 17 "SlipLevels$Binder" "runs" "[I", Cond.methodLink RX0 37 yX0_runAt, Cond.instanceMethod yX0_runAt, Cond.selects RX0 yX0_runAt yX0_runAt, Cond.code yX0_runAt cX0_runAt 4 (some (.object "SlipLevels$Slips")), Cond.fieldLink RX0 11 "SlipLevels$Binder" "rows" "[LSlipLevels$Slips;", Cond.methodLink RX0 41 yX1_size, Cond.methodLink RX2 187 yX2_wordsStanding, Cond.instanceMethod yX2_wordsStanding, Cond.selects RX2 yX2_wordsStanding yX2_wordsStanding, Cond.code yX2_wordsStanding cX2_wordsStanding 3 (some .int), Cond.methodLink RX2 79 yX2_wordOf, Cond.instanceMethod yX2_wordOf]
def wsL_count_r3 : List Cond := [Cond.selects RX2 yX2_wordOf yX2_wordOf, Cond.code yX2_wordOf cX2_wordOf 3 (some .int), Cond.methodLink RX2 170 yX1_wordAt, Cond.instanceMethod yX1_wordAt, Cond.selects RX1 yX1_wordAt yX1_wordAt, Cond.code yX1_wordAt cX1_wordAt 2 (some .int), Cond.fieldLink RX1 9 "SlipLevels$Slips" "words" "[I", Cond.methodLink RX2 173 yX0_firstWord, Cond.instanceMethod yX0_firstWord, Cond.selects RX0 yX0_firstWord yX0_firstWord, Cond.code yX0_firstWord cX0_firstWord 4 (some .int), Cond.methodLink RX0 54 yX0_firstWordIn, Cond.instanceMethod yX0_firstWordIn, Cond.selects RX0 yX0_firstWordIn yX0_firstWordIn, Cond.code yX0_firstWordIn cX0_firstWordIn 5 (some .int), Cond.methodLink RX0 51 yX1_wordAt, Cond.methodLink RX2 63 yX0_moves, Cond.instanceMethod yX0_moves, Cond.selects RX0 yX0_moves yX0_moves, Cond.code yX0_moves cX0_moves 1 (some .int), Cond.fieldLink RX0 26 "SlipLevels$Binder" "moves" "I", Cond.methodLink RX2 190 yX0_mergings, Cond.instanceMethod yX0_mergings, Cond.selects RX0 yX0_mergings yX0_mergings]
def wsL_count_r4 : List Cond := [Cond.code yX0_mergings cX0_mergings 1 (some .int), Cond.fieldLink RX0 30 "SlipLevels$Binder" "mergings" "I"]
def wsL_count : List Cond := .codeWith yL_count cL_count 4 (some .int) [(0, 9, 12, 13)] :: ((wsL_count_r1 ++ (wsL_count_r2 ++ (wsL_count_r3 ++ wsL_count_r4))) ++ wsX20 ++ wsX10 ++ wsX00 ++ (vx_atS RX2 98 "java/lang/IndexOutOfBoundsException" ["java/lang/RuntimeException", "java/lang/Exception"]).filter goodWord)
def wsL_spares_r1 : List Cond := [Cond.classLink RL 13 "java/lang/IndexOutOfBoundsException", Cond.methodLink RL 59 yX2_spares, Cond.instanceMethod yX2_spares, Cond.selects RX2 yX2_spares yX2_spares, Cond.initialized RX2, Cond.code yX2_spares cX2_spares 2 (some .int), Cond.fieldLink RX2 19 "SlipLevels" "binder" "LSlipLevels$Binder;", Cond.fieldLink RX2 23 "SlipLevels" "trial" "LSlipLevels$Binder;", Cond.methodLink RX2 52 yX2_needLevel, Cond.static yX2_needLevel, Cond.code yX2_needLevel cX2_needLevel 1 none, Cond.classLink RX2 94 "java/lang/IndexOutOfBoundsException", Cond.initialized "java/lang/IndexOutOfBoundsException", Cond.methodLink RX2 55 yX0_runsOf, Cond.instanceMethod yX0_runsOf, Cond.selects RX0 yX0_runsOf yX0_runsOf, Cond.initialized RX0, Cond.code yX0_runsOf cX0_runsOf 2 (some .int), Cond.fieldLink RX0 17 "SlipLevels$Binder" "runs" "[I", Cond.methodLink RX2 124 yX2_tryMerging, Cond.instanceMethod yX2_tryMerging, Cond.selects RX2 yX2_tryMerging yX2_tryMerging, Cond.code yX2_tryMerging cX2_tryMerging 2 none, Cond.methodLink RX2 193 yX0_copyRuns]
def wsL_spares_r2 : List Cond := [Cond.instanceMethod yX0_copyRuns, Cond.selects RX0 yX0_copyRuns yX0_copyRuns, Cond.code yX0_copyRuns cX0_copyRuns 5 none, Cond.methodLink RX0 92 yX0_rowAt, Cond.instanceMethod yX0_rowAt, Cond.selects RX0 yX0_rowAt yX0_rowAt, Cond.code yX0_rowAt cX0_rowAt 3 (some (.object "SlipLevels$Slips")), Cond.fieldLink RX0 11 "SlipLevels$Binder" "rows" "[LSlipLevels$Slips;", Cond.methodLink RX0 95 yX1_copy, Cond.instanceMethod yX1_copy, Cond.selects RX1 yX1_copy yX1_copy, Cond.initialized RX1, Cond.code yX1_copy cX1_copy 2 none, Cond.fieldLink RX1 9 "SlipLevels$Slips" "words" "[I", Cond.methodLink RX1 40 arraycopyName, Cond.native arraycopyName, Cond.static arraycopyName, Cond.initialized "java/lang/System", Cond.fieldLink RX1 24 "SlipLevels$Slips" "size" "I", Cond.fieldLink RX1 28 "SlipLevels$Slips" "tombs" "I", Cond.fieldLink RX1 31 "SlipLevels$Slips" "least" "I", Cond.fieldLink RX1 34 "SlipLevels$Slips" "greatest" "I", Cond.fieldLink RX1 37 "SlipLevels$Slips" "sieve" "I", Cond.methodLink RX2 67 yX0_mergeLevel]
def wsL_spares_r3 : List Cond := [Cond.instanceMethod yX0_mergeLevel, Cond.selects RX0 yX0_mergeLevel yX0_mergeLevel, Cond.code yX0_mergeLevel cX0_mergeLevel 2 none, Cond.methodLink RX0 76 Lib.Math.min.name, Cond.static Lib.Math.min.name, Cond.initialized "java/lang/Math", Cond.code Lib.Math.min.name Lib.Math.min.code 2 (some .int), Cond.fieldLink RX0 22 "SlipLevels$Binder" "merged" "LSlipLevels$Slips;", Cond.fieldLink RX0 30 "SlipLevels$Binder" "mergings" "I", Cond.methodLink RX0 69 yX0_nothingBehind, Cond.instanceMethod yX0_nothingBehind, Cond.selects RX0 yX0_nothingBehind yX0_nothingBehind, Cond.code yX0_nothingBehind cX0_nothingBehind 3 (some .boolean), Cond.methodLink RX0 33 yX0_runsOf, Cond.methodLink RX0 72 yX0_gather, Cond.instanceMethod yX0_gather, Cond.selects RX0 yX0_gather yX0_gather, Cond.code yX0_gather cX0_gather 5 none, Cond.methodLink RX0 85 yX1_clear, Cond.instanceMethod yX1_clear, Cond.selects RX1 yX1_clear yX1_clear, Cond.code yX1_clear cX1_clear 1 none, Cond.methodLink RX1 18 yJ7_fill_53178, Cond.static yJ7_fill_53178]
def wsL_spares_r4 : List Cond := [Cond.initialized RJ7, Cond.code yJ7_fill_53178 cJ7_fill_53178 4 none, Cond.methodLink RX0 54 yX0_firstWordIn, Cond.instanceMethod yX0_firstWordIn, Cond.selects RX0 yX0_firstWordIn yX0_firstWordIn, Cond.code yX0_firstWordIn cX0_firstWordIn 5 (some .int), Cond.methodLink RX0 37 yX0_runAt, Cond.instanceMethod yX0_runAt, Cond.selects RX0 yX0_runAt yX0_runAt, Cond.code yX0_runAt cX0_runAt 4 (some (.object "SlipLevels$Slips")), Cond.methodLink RX0 51 yX1_wordAt, Cond.instanceMethod yX1_wordAt, Cond.selects RX1 yX1_wordAt yX1_wordAt, Cond.code yX1_wordAt cX1_wordAt 2 (some .int), Cond.methodLink RX0 88 yX1_put, Cond.instanceMethod yX1_put, Cond.selects RX1 yX1_put yX1_put, Cond.code yX1_put cX1_put 4 none, Cond.methodLink RX1 46 Lib.Math.min.name, Cond.methodLink RX1 52 Lib.Math.max.name, Cond.static Lib.Math.max.name, Cond.code Lib.Math.max.name Lib.Math.max.code 2 (some .int), Cond.methodLink RX0 81 yX0_addRun, Cond.instanceMethod yX0_addRun]
def wsL_spares_r5 : List Cond := [Cond.selects RX0 yX0_addRun yX0_addRun, Cond.code yX0_addRun cX0_addRun 4 none, Cond.fieldLink RX0 26 "SlipLevels$Binder" "moves" "I", Cond.methodLink RX0 41 yX1_size, Cond.instanceMethod yX1_size, Cond.selects RX1 yX1_size yX1_size, Cond.code yX1_size cX1_size 1 (some .int), Cond.methodLink RX2 70 yX0_settle, Cond.instanceMethod yX0_settle, Cond.selects RX0 yX0_settle yX0_settle, Cond.code yX0_settle cX0_settle 2 none, Cond.methodLink RX0 65 yX0_mergeLevel, Cond.methodLink RX2 127 yX0_slips, Cond.instanceMethod yX0_slips, Cond.selects RX0 yX0_slips yX0_slips, Cond.code yX0_slips cX0_slips 3 (some .int), Cond.methodLink RX0 48 yX0_slipsOf, Cond.instanceMethod yX0_slipsOf, Cond.selects RX0 yX0_slipsOf yX0_slipsOf, Cond.code yX0_slipsOf cX0_slipsOf 5 (some .int)]
def wsL_spares : List Cond := .codeWith yL_spares cL_spares 4 (some .int) [(0, 9, 12, 13)] :: ((wsL_spares_r1 ++ (wsL_spares_r2 ++ (wsL_spares_r3 ++ (wsL_spares_r4 ++ wsL_spares_r5)))) ++ wsX20 ++ wsX00 ++ wsX10 ++ (vx_atS RX2 98 "java/lang/IndexOutOfBoundsException" ["java/lang/RuntimeException", "java/lang/Exception"]).filter goodWord)
def wsL_law0_r1 : List Cond := [Cond.classLink RL 8 RX2, Cond.instantiable RX2 5, Cond.initialized RX2, Cond.classLink RL 63 RX3, Cond.instantiable RX3 4, Cond.initialized RX3, Cond.arrayClass .long, Cond.methodLink RL 62 yX2_init, Cond.instanceMethod yX2_init, Cond.code yX2_init cX2_init 1 none, Cond.methodLink RX2 1 objectInit, Cond.instanceMethod objectInit, Cond.code objectInit ⟨#[0xb1]⟩ 1 none, Cond.classLink RX2 7 RX1, Cond.instantiable RX1 6, Cond.initialized RX1, Cond.fieldLink RX2 10 "SlipLevels" "deskSlips" "LSlipLevels$Slips;", Cond.classLink RX2 16 RX0, Cond.instantiable RX0 5, Cond.initialized RX0, Cond.fieldLink RX2 19 "SlipLevels" "binder" "LSlipLevels$Binder;", Cond.fieldLink RX2 23 "SlipLevels" "trial" "LSlipLevels$Binder;", Cond.fieldLink RX2 26 "SlipLevels" "deskRoom" "I", Cond.fieldLink RX2 30 "SlipLevels" "detoursRead" "I"]
def wsL_law0_r2 : List Cond := [Cond.methodLink RX2 9 yX1_init, Cond.instanceMethod yX1_init, Cond.code yX1_init cX1_init 1 none, Cond.methodLink RX1 3 objectInit, Cond.arrayClass .int, Cond.fieldLink RX1 9 "SlipLevels$Slips" "words" "[I", Cond.methodLink RX1 15 yX1_clear, Cond.instanceMethod yX1_clear, Cond.selects RX1 yX1_clear yX1_clear, Cond.code yX1_clear cX1_clear 1 none, Cond.fieldLink RX1 24 "SlipLevels$Slips" "size" "I", Cond.fieldLink RX1 28 "SlipLevels$Slips" "tombs" "I", Cond.fieldLink RX1 31 "SlipLevels$Slips" "least" "I", Cond.fieldLink RX1 34 "SlipLevels$Slips" "greatest" "I", Cond.fieldLink RX1 37 "SlipLevels$Slips" "sieve" "I", Cond.methodLink RX1 18 yJ7_fill_53178, Cond.static yJ7_fill_53178, Cond.initialized RJ7, Cond.code yJ7_fill_53178 cJ7_fill_53178 4 none, Cond.methodLink RX2 18 yX0_init, Cond.instanceMethod yX0_init, Cond.code yX0_init cX0_init 2 none, Cond.methodLink RX0 3 objectInit, Cond.classLink RX0 9 RX1]
def wsL_law0_r3 : List Cond := [Cond.fieldLink RX0 11 "SlipLevels$Binder" "rows" "[LSlipLevels$Slips;", Cond.fieldLink RX0 17 "SlipLevels$Binder" "runs" "[I", Cond.fieldLink RX0 22 "SlipLevels$Binder" "merged" "LSlipLevels$Slips;", Cond.fieldLink RX0 26 "SlipLevels$Binder" "moves" "I", Cond.fieldLink RX0 30 "SlipLevels$Binder" "mergings" "I", Cond.methodLink RX0 21 yX1_init, Cond.methodLink RL 65 yX3_init, Cond.instanceMethod yX3_init, Cond.code yX3_init cX3_init 1 none, Cond.methodLink RX3 1 objectInit, Cond.fieldLink RX3 13 "SlipLevelsModel" "desk" "[I", Cond.classLink RX3 19 "[I", Cond.fieldLink RX3 20 "SlipLevelsModel" "levels" "[[[I", Cond.fieldLink RX3 24 "SlipLevelsModel" "numbers" "[I", Cond.methodLink RX3 7 yX3_empty, Cond.static yX3_empty, Cond.code yX3_empty cX3_empty 2 (some (.array .int)), Cond.methodLink RL 66 yL_write, Cond.static yL_write, Cond.initialized RL, Cond.codeWith yL_write cL_write 5 (some .int) [(0, 17, 20, 13), (0, 17, 24, 15)], Cond.classLink RL 13 "java/lang/IndexOutOfBoundsException", Cond.classLink RL 15 "java/lang/IllegalArgumentException", Cond.methodLink RL 7 yX2_write]
def wsL_law0_r4 : List Cond := [Cond.instanceMethod yX2_write, Cond.selects RX2 yX2_write yX2_write, Cond.code yX2_write cX2_write 3 (some .boolean), Cond.classLink RX2 37 "java/lang/IllegalArgumentException", Cond.initialized "java/lang/IllegalArgumentException", Cond.methodLink RX2 33 yX2_needNumber, Cond.static yX2_needNumber, Cond.code yX2_needNumber cX2_needNumber 1 none, Cond.classLink RX2 94 "java/lang/IndexOutOfBoundsException", Cond.initialized "java/lang/IndexOutOfBoundsException", Cond.methodLink RX2 44 yX1_put, Cond.instanceMethod yX1_put, Cond.selects RX1 yX1_put yX1_put, Cond.code yX1_put cX1_put 4 none, Cond.methodLink RX1 46 Lib.Math.min.name, Cond.static Lib.Math.min.name, Cond.initialized "java/lang/Math", Cond.code Lib.Math.min.name Lib.Math.min.code 2 (some .int), Cond.methodLink RX1 52 Lib.Math.max.name, Cond.static Lib.Math.max.name, Cond.code Lib.Math.max.name Lib.Math.max.code 2 (some .int), Cond.methodLink RX2 48 yX2_bindFrom, Cond.instanceMethod yX2_bindFrom, Cond.selects RX2 yX2_bindFrom yX2_bindFrom]
def wsL_law0_r5 : List Cond := [Cond.code yX2_bindFrom cX2_bindFrom 3 (some .int), Cond.methodLink RX2 160 yX1_size, Cond.instanceMethod yX1_size, Cond.selects RX1 yX1_size yX1_size, Cond.code yX1_size cX1_size 1 (some .int), Cond.methodLink RX2 63 yX0_moves, Cond.instanceMethod yX0_moves, Cond.selects RX0 yX0_moves yX0_moves, Cond.code yX0_moves cX0_moves 1 (some .int), Cond.methodLink RX2 163 yX0_addRun, Cond.instanceMethod yX0_addRun, Cond.selects RX0 yX0_addRun yX0_addRun, Cond.code yX0_addRun cX0_addRun 4 none, Cond.methodLink RX0 33 yX0_runsOf, Cond.instanceMethod yX0_runsOf, Cond.selects RX0 yX0_runsOf yX0_runsOf, Cond.code yX0_runsOf cX0_runsOf 2 (some .int), Cond.methodLink RX0 92 yX0_rowAt, Cond.instanceMethod yX0_rowAt, Cond.selects RX0 yX0_rowAt yX0_rowAt, Cond.code yX0_rowAt cX0_rowAt 3 (some (.object "SlipLevels$Slips")), Cond.methodLink RX0 41 yX1_size, Cond.methodLink RX0 95 yX1_copy, Cond.instanceMethod yX1_copy]
def wsL_law0_r6 : List Cond := [Cond.selects RX1 yX1_copy yX1_copy, Cond.code yX1_copy cX1_copy 2 none, Cond.methodLink RX1 40 arraycopyName, Cond.native arraycopyName, Cond.static arraycopyName, Cond.initialized "java/lang/System", Cond.methodLink RX2 167 yX1_clear, Cond.methodLink RX2 70 yX0_settle, Cond.instanceMethod yX0_settle, Cond.selects RX0 yX0_settle yX0_settle, Cond.code yX0_settle cX0_settle 2 none, Cond.methodLink RX0 65 yX0_mergeLevel, Cond.instanceMethod yX0_mergeLevel, Cond.selects RX0 yX0_mergeLevel yX0_mergeLevel, Cond.code yX0_mergeLevel cX0_mergeLevel 2 none, Cond.methodLink RX0 76 Lib.Math.min.name, Cond.methodLink RX0 69 yX0_nothingBehind, Cond.instanceMethod yX0_nothingBehind, Cond.selects RX0 yX0_nothingBehind yX0_nothingBehind, Cond.code yX0_nothingBehind cX0_nothingBehind 3 (some .boolean), Cond.methodLink RX0 72 yX0_gather, Cond.instanceMethod yX0_gather, Cond.selects RX0 yX0_gather yX0_gather, Cond.code yX0_gather cX0_gather 5 none]
def wsL_law0_r7 : List Cond := [Cond.methodLink RX0 85 yX1_clear, Cond.methodLink RX0 54 yX0_firstWordIn, Cond.instanceMethod yX0_firstWordIn, Cond.selects RX0 yX0_firstWordIn yX0_firstWordIn, Cond.code yX0_firstWordIn cX0_firstWordIn 5 (some .int), Cond.methodLink RX0 37 yX0_runAt, Cond.instanceMethod yX0_runAt, Cond.selects RX0 yX0_runAt yX0_runAt, Cond.code yX0_runAt cX0_runAt 4 (some (.object "SlipLevels$Slips")), Cond.methodLink RX0 51 yX1_wordAt, Cond.instanceMethod yX1_wordAt, Cond.selects RX1 yX1_wordAt yX1_wordAt, Cond.code yX1_wordAt cX1_wordAt 2 (some .int), Cond.methodLink RX0 88 yX1_put, Cond.methodLink RX0 81 yX0_addRun, Cond.methodLink RL 71 yX3_write, Cond.instanceMethod yX3_write, Cond.selects RX3 yX3_write yX3_write, Cond.code yX3_write cX3_write 3 (some .boolean), Cond.fieldLink RX3 27 "SlipLevelsModel" "thrown" "I", Cond.methodLink RX3 70 yX3_isNumber, Cond.static yX3_isNumber, Cond.code yX3_isNumber cX3_isNumber 1 (some .boolean), Cond.methodLink RX3 31 yX3_isIn]
def wsL_law0_r8 : List Cond := [Cond.static yX3_isIn, Cond.code yX3_isIn cX3_isIn 3 (some .boolean), Cond.methodLink RX3 73 yX3_put, Cond.instanceMethod yX3_put, Cond.selects RX3 yX3_put yX3_put, Cond.code yX3_put cX3_put 3 (some .boolean), Cond.methodLink RX3 39 yX3_size, Cond.static yX3_size, Cond.code yX3_size cX3_size 6 (some .int), Cond.methodLink RX3 66 yX3_bound, Cond.instanceMethod yX3_bound, Cond.selects RX3 yX3_bound yX3_bound, Cond.code yX3_bound cX3_bound 2 (some .int), Cond.methodLink RX3 55 yX3_come, Cond.instanceMethod yX3_come, Cond.selects RX3 yX3_come yX3_come, Cond.code yX3_come cX3_come 5 none, Cond.methodLink RX3 43 arraycopyName, Cond.methodLink RX3 63 yX3_settle, Cond.instanceMethod yX3_settle, Cond.selects RX3 yX3_settle yX3_settle, Cond.code yX3_settle cX3_settle 2 none, Cond.methodLink RX3 59 yX3_mergeOne, Cond.instanceMethod yX3_mergeOne]
def wsL_law0_r9 : List Cond := [Cond.selects RX3 yX3_mergeOne yX3_mergeOne, Cond.code yX3_mergeOne cX3_mergeOne 5 none, Cond.methodLink RX3 49 Lib.Math.min.name, Cond.methodLink RL 72 yX3_thrown, Cond.instanceMethod yX3_thrown, Cond.selects RX3 yX3_thrown yX3_thrown, Cond.code yX3_thrown cX3_thrown 1 (some .int), Cond.methodLink RL 76 yL_strike, Cond.static yL_strike, Cond.codeWith yL_strike cL_strike 4 (some .int) [(0, 16, 19, 13)], Cond.methodLink RL 17 yX2_strike, Cond.instanceMethod yX2_strike, Cond.selects RX2 yX2_strike yX2_strike, Cond.code yX2_strike cX2_strike 2 (some .boolean), Cond.methodLink RL 79 yX3_strike, Cond.instanceMethod yX3_strike, Cond.selects RX3 yX3_strike yX3_strike, Cond.code yX3_strike cX3_strike 2 (some .boolean), Cond.methodLink RL 80 yX2_bind, Cond.instanceMethod yX2_bind, Cond.selects RX2 yX2_bind yX2_bind, Cond.code yX2_bind cX2_bind 1 (some .int), Cond.methodLink RL 83 yX3_bind, Cond.instanceMethod yX3_bind]
def wsL_law0_r10 : List Cond := [Cond.selects RX3 yX3_bind yX3_bind, Cond.code yX3_bind cX3_bind 1 (some .int), Cond.methodLink RL 84 yL_merge, Cond.static yL_merge, Cond.codeWith yL_merge cL_merge 4 (some .int) [(0, 9, 12, 13), (0, 9, 15, 25)], Cond.classLink RL 25 "java/lang/IllegalStateException", Cond.methodLink RL 21 yX2_merge, Cond.instanceMethod yX2_merge, Cond.selects RX2 yX2_merge yX2_merge, Cond.code yX2_merge cX2_merge 3 (some .int), Cond.classLink RX2 58 "java/lang/IllegalStateException", Cond.initialized "java/lang/IllegalStateException", Cond.methodLink RX2 52 yX2_needLevel, Cond.static yX2_needLevel, Cond.code yX2_needLevel cX2_needLevel 1 none, Cond.methodLink RX2 55 yX0_runsOf, Cond.methodLink RX2 67 yX0_mergeLevel, Cond.methodLink RL 86 yX3_merge, Cond.instanceMethod yX3_merge, Cond.selects RX3 yX3_merge yX3_merge, Cond.code yX3_merge cX3_merge 3 (some .int), Cond.methodLink RX3 35 yX3_isLevel, Cond.static yX3_isLevel, Cond.code yX3_isLevel cX3_isLevel 1 (some .boolean)]
def wsL_law0_r11 : List Cond := [Cond.methodLink RX3 77 yX3_fail, Cond.instanceMethod yX3_fail, Cond.selects RX3 yX3_fail yX3_fail, Cond.code yX3_fail cX3_fail 2 (some .int), Cond.methodLink RL 87 yL_setRoom, Cond.static yL_setRoom, Cond.codeWith yL_setRoom cL_setRoom 4 (some .int) [(0, 9, 12, 15)], Cond.methodLink RL 27 yX2_setRoom, Cond.instanceMethod yX2_setRoom, Cond.selects RX2 yX2_setRoom yX2_setRoom, Cond.code yX2_setRoom cX2_setRoom 3 (some .int), Cond.methodLink RL 89 yX3_setRoom, Cond.instanceMethod yX3_setRoom, Cond.selects RX3 yX3_setRoom yX3_setRoom, Cond.code yX3_setRoom cX3_setRoom 3 (some .int), Cond.methodLink RL 90 yL_read, Cond.static yL_read, Cond.codeWith yL_read cL_read 4 (some .int) [(0, 9, 12, 13)], Cond.methodLink RL 30 yX2_read, Cond.instanceMethod yX2_read, Cond.selects RX2 yX2_read yX2_read, Cond.code yX2_read cX2_read 2 (some .int), Cond.methodLink RX2 75 yX2_detoursIn, Cond.instanceMethod yX2_detoursIn]
def wsL_law0_r12 : List Cond := [Cond.selects RX2 yX2_detoursIn yX2_detoursIn, Cond.code yX2_detoursIn cX2_detoursIn 3 (some .int), Cond.methodLink RX2 176 yX1_has, Cond.instanceMethod yX1_has, Cond.selects RX1 yX1_has yX1_has, Cond.code yX1_has cX1_has 2 (some .boolean), Cond.methodLink RX1 55 yX1_wordAt, Cond.methodLink RX2 180 yX0_detoursTo, Cond.instanceMethod yX0_detoursTo, Cond.selects RX0 yX0_detoursTo yX0_detoursTo, Cond.code yX0_detoursTo cX0_detoursTo 6 (some .int), Cond.methodLink RX0 62 yX1_opensFor, Cond.instanceMethod yX1_opensFor, Cond.selects RX1 yX1_opensFor yX1_opensFor, Cond.code yX1_opensFor cX1_opensFor 2 (some .boolean), Cond.methodLink RX0 58 yX1_has, Cond.methodLink RX2 79 yX2_wordOf, Cond.instanceMethod yX2_wordOf, Cond.selects RX2 yX2_wordOf yX2_wordOf, Cond.code yX2_wordOf cX2_wordOf 3 (some .int), Cond.methodLink RX2 170 yX1_wordAt, Cond.methodLink RX2 173 yX0_firstWord, Cond.instanceMethod yX0_firstWord, Cond.selects RX0 yX0_firstWord yX0_firstWord]
def wsL_law0_r13 : List Cond := [Cond.code yX0_firstWord cX0_firstWord 4 (some .int), Cond.methodLink RL 92 yX3_read, Cond.instanceMethod yX3_read, Cond.selects RX3 yX3_read yX3_read, Cond.code yX3_read cX3_read 2 (some .int), Cond.methodLink RX3 95 yX3_opened, Cond.instanceMethod yX3_opened, Cond.selects RX3 yX3_opened yX3_opened, Cond.code yX3_opened cX3_opened 11 (some .int), Cond.methodLink RX3 87 yX3_end, Cond.static yX3_end, Cond.code yX3_end cX3_end 4 (some .int), Cond.methodLink RX3 91 yX3_isOpen, Cond.static yX3_isOpen, Cond.code yX3_isOpen cX3_isOpen 3 (some .boolean), Cond.methodLink RX3 98 yX3_word, Cond.instanceMethod yX3_word, Cond.selects RX3 yX3_word yX3_word, Cond.code yX3_word cX3_word 2 (some .int), Cond.methodLink RX3 84 Lib.Math.max.name, Cond.methodLink RX3 81 yX3_said, Cond.instanceMethod yX3_said, Cond.selects RX3 yX3_said yX3_said, Cond.code yX3_said cX3_said 10 (some .int)]
def wsL_law0_r14 : List Cond := [Cond.methodLink RL 93 yL_detours, Cond.static yL_detours, Cond.codeWith yL_detours cL_detours 4 (some .int) [(0, 9, 12, 13)], Cond.methodLink RL 33 yX2_detours, Cond.instanceMethod yX2_detours, Cond.selects RX2 yX2_detours yX2_detours, Cond.code yX2_detours cX2_detours 2 (some .int), Cond.methodLink RL 95 yX3_detours, Cond.instanceMethod yX3_detours, Cond.selects RX3 yX3_detours yX3_detours, Cond.code yX3_detours cX3_detours 2 (some .int), Cond.methodLink RL 96 yL_next, Cond.static yL_next, Cond.codeWith yL_next cL_next 4 (some .int) [(0, 9, 12, 13)], Cond.methodLink RL 36 yX2_next, Cond.instanceMethod yX2_next, Cond.selects RX2 yX2_next yX2_next, Cond.code yX2_next cX2_next 3 (some .int), Cond.methodLink RL 98 yX3_next, Cond.instanceMethod yX3_next, Cond.selects RX3 yX3_next yX3_next, Cond.code yX3_next cX3_next 3 (some .int), Cond.methodLink RL 99 yL_sum, Cond.static yL_sum]
def wsL_law0_r15 : List Cond := [Cond.codeWith yL_sum cL_sum 5 (some .int) [(0, 10, 13, 13), (0, 10, 17, 15)], Cond.methodLink RL 39 yX2_sum, Cond.instanceMethod yX2_sum, Cond.selects RX2 yX2_sum yX2_sum, Cond.code yX2_sum cX2_sum 5 (some .int), Cond.methodLink RX2 84 Lib.Math.max.name, Cond.methodLink RL 101 yX3_sum, Cond.instanceMethod yX3_sum, Cond.selects RX3 yX3_sum yX3_sum, Cond.code yX3_sum cX3_sum 5 (some .int), Cond.methodLink RL 102 yL_run, Cond.static yL_run, Cond.codeWith yL_run cL_run 6 (some .int) [(0, 12, 15, 13)], Cond.methodLink RL 43 yX2_run, Cond.instanceMethod yX2_run, Cond.selects RX2 yX2_run yX2_run, Cond.code yX2_run cX2_run 5 (some .int), Cond.methodLink RX2 90 yX0_runAt, Cond.methodLink RX2 101 yX2_standingIn, Cond.instanceMethod yX2_standingIn, Cond.selects RX2 yX2_standingIn yX2_standingIn, Cond.code yX2_standingIn cX2_standingIn 5 (some .int), Cond.methodLink RX2 183 yX0_isFirst, Cond.instanceMethod yX0_isFirst]
def wsL_law0_r16 : List Cond := [Cond.selects RX0 yX0_isFirst yX0_isFirst, Cond.code yX0_isFirst cX0_isFirst 6 (some .boolean), Cond.methodLink RX2 104 yX1_fact, Cond.instanceMethod yX1_fact, Cond.selects RX1 yX1_fact yX1_fact, Cond.code yX1_fact cX1_fact 2 (some .int), Cond.methodLink RL 105 yX3_run, Cond.instanceMethod yX3_run, Cond.selects RX3 yX3_run yX3_run, Cond.code yX3_run cX3_run 4 (some .int), Cond.methodLink RX3 107 yX3_isRun, Cond.instanceMethod yX3_isRun, Cond.selects RX3 yX3_isRun yX3_isRun, Cond.code yX3_isRun cX3_isRun 3 (some .boolean), Cond.methodLink RX3 110 yX3_runTold, Cond.instanceMethod yX3_runTold, Cond.selects RX3 yX3_runTold yX3_runTold, Cond.code yX3_runTold cX3_runTold 7 (some .int), Cond.methodLink RX3 101 yX3_tombs, Cond.static yX3_tombs, Cond.code yX3_tombs cX3_tombs 6 (some .int), Cond.methodLink RX3 104 yX3_standing, Cond.instanceMethod yX3_standing, Cond.selects RX3 yX3_standing yX3_standing]
def wsL_law0_r17 : List Cond := [Cond.code yX3_standing cX3_standing 9 (some .int), Cond.methodLink RL 106 yL_slip, Cond.static yL_slip, Cond.codeWith yL_slip cL_slip 6 (some .int) [(0, 12, 15, 13)], Cond.methodLink RL 47 yX2_slip, Cond.instanceMethod yX2_slip, Cond.selects RX2 yX2_slip yX2_slip, Cond.code yX2_slip cX2_slip 5 (some .int), Cond.methodLink RX2 107 yX2_slipAt, Cond.static yX2_slipAt, Cond.code yX2_slipAt cX2_slipAt 3 (some .int), Cond.methodLink RX2 152 yX1_numberAt, Cond.instanceMethod yX1_numberAt, Cond.selects RX1 yX1_numberAt yX1_numberAt, Cond.code yX1_numberAt cX1_numberAt 4 (some .int), Cond.methodLink RX1 59 yX1_has, Cond.methodLink RX2 157 yX1_told, Cond.instanceMethod yX1_told, Cond.selects RX1 yX1_told yX1_told, Cond.code yX1_told cX1_told 3 (some .int), Cond.methodLink RL 108 yX3_slip, Cond.instanceMethod yX3_slip, Cond.selects RX3 yX3_slip yX3_slip, Cond.code yX3_slip cX3_slip 4 (some .int)]
def wsL_law0_r18 : List Cond := [Cond.methodLink RX3 114 yX3_slipTold, Cond.static yX3_slipTold, Cond.code yX3_slipTold cX3_slipTold 4 (some .int), Cond.methodLink RL 109 yL_desk, Cond.static yL_desk, Cond.codeWith yL_desk cL_desk 4 (some .int) [(0, 9, 12, 13)], Cond.methodLink RL 50 yX2_desk, Cond.instanceMethod yX2_desk, Cond.selects RX2 yX2_desk yX2_desk, Cond.code yX2_desk cX2_desk 2 (some .int), Cond.methodLink RL 111 yX3_desk, Cond.instanceMethod yX3_desk, Cond.selects RX3 yX3_desk yX3_desk, Cond.code yX3_desk cX3_desk 2 (some .int), Cond.methodLink RL 112 yL_level, Cond.static yL_level, Cond.codeWith yL_level cL_level 5 (some .int) [(0, 10, 13, 13)], Cond.methodLink RL 53 yX2_level, Cond.instanceMethod yX2_level, Cond.selects RX2 yX2_level yX2_level, Cond.code yX2_level cX2_level 3 (some .int), Cond.methodLink RX2 113 yX0_slipsOf, Cond.instanceMethod yX0_slipsOf, Cond.selects RX0 yX0_slipsOf yX0_slipsOf]
def wsL_law0_r19 : List Cond := [Cond.code yX0_slipsOf cX0_slipsOf 5 (some .int), Cond.methodLink RX2 116 yX0_tombsOf, Cond.instanceMethod yX0_tombsOf, Cond.selects RX0 yX0_tombsOf yX0_tombsOf, Cond.code yX0_tombsOf cX0_tombsOf 5 (some .int), Cond.methodLink RX0 45 yX1_tombs, Cond.instanceMethod yX1_tombs, Cond.selects RX1 yX1_tombs yX1_tombs, Cond.code yX1_tombs cX1_tombs 1 (some .int), Cond.methodLink RL 114 yX3_level, Cond.instanceMethod yX3_level, Cond.selects RX3 yX3_level yX3_level, Cond.code yX3_level cX3_level 3 (some .int), Cond.methodLink RX3 118 yX3_levelTold, Cond.instanceMethod yX3_levelTold, Cond.selects RX3 yX3_levelTold yX3_levelTold, Cond.code yX3_levelTold cX3_levelTold 8 (some .int), Cond.methodLink RL 115 yL_count, Cond.static yL_count, Cond.codeWith yL_count cL_count 4 (some .int) [(0, 9, 12, 13)], Cond.methodLink RL 56 yX2_count, Cond.instanceMethod yX2_count, Cond.selects RX2 yX2_count yX2_count, Cond.code yX2_count cX2_count 2 (some .int)]
def wsL_law0_r20 : List Cond := [Cond.methodLink RX2 121 yX2_tally, Cond.instanceMethod yX2_tally, Cond.selects RX2 yX2_tally yX2_tally, Cond.code yX2_tally cX2_tally 2 (some .int), Cond.methodLink RX2 127 yX0_slips, Cond.instanceMethod yX0_slips, Cond.selects RX0 yX0_slips yX0_slips, Cond.code yX0_slips cX0_slips 3 (some .int), Cond.methodLink RX0 48 yX0_slipsOf, Cond.methodLink RX2 187 yX2_wordsStanding, Cond.instanceMethod yX2_wordsStanding, Cond.selects RX2 yX2_wordsStanding yX2_wordsStanding, Cond.code yX2_wordsStanding cX2_wordsStanding 3 (some .int), Cond.methodLink RX2 190 yX0_mergings, Cond.instanceMethod yX0_mergings, Cond.selects RX0 yX0_mergings yX0_mergings, Cond.code yX0_mergings cX0_mergings 1 (some .int), Cond.methodLink RL 117 yX3_count, Cond.instanceMethod yX3_count, Cond.selects RX3 yX3_count yX3_count, Cond.code yX3_count cX3_count 2 (some .int), Cond.methodLink RX3 124 yX3_counted, Cond.instanceMethod yX3_counted, Cond.selects RX3 yX3_counted yX3_counted]
def wsL_law0_r21 : List Cond := [Cond.code yX3_counted cX3_counted 4 (some .int), Cond.methodLink RX3 121 yX3_slips, Cond.instanceMethod yX3_slips, Cond.selects RX3 yX3_slips yX3_slips, Cond.code yX3_slips cX3_slips 3 (some .int), Cond.methodLink RL 118 yL_spares, Cond.static yL_spares, Cond.codeWith yL_spares cL_spares 4 (some .int) [(0, 9, 12, 13)], Cond.methodLink RL 59 yX2_spares, Cond.instanceMethod yX2_spares, Cond.selects RX2 yX2_spares yX2_spares, Cond.code yX2_spares cX2_spares 2 (some .int), Cond.methodLink RX2 124 yX2_tryMerging, Cond.instanceMethod yX2_tryMerging, Cond.selects RX2 yX2_tryMerging yX2_tryMerging, Cond.code yX2_tryMerging cX2_tryMerging 2 none, Cond.methodLink RX2 193 yX0_copyRuns, Cond.instanceMethod yX0_copyRuns, Cond.selects RX0 yX0_copyRuns yX0_copyRuns, Cond.code yX0_copyRuns cX0_copyRuns 5 none, Cond.methodLink RL 120 yX3_spares, Cond.instanceMethod yX3_spares, Cond.selects RX3 yX3_spares yX3_spares, Cond.code yX3_spares cX3_spares 2 (some .int)]
def wsL_law0_r22 : List Cond := [Cond.methodLink RX3 136 yX3_tried, Cond.instanceMethod yX3_tried, Cond.selects RX3 yX3_tried yX3_tried, Cond.code yX3_tried cX3_tried 6 (some .int), Cond.classLink RX3 128 "[[[I", Cond.methodLink RX3 132 ⟨"[I", "clone", "()Ljava/lang/Object;"⟩, Cond.sameMethod "[I" "java/lang/Object" "clone" "()Ljava/lang/Object;", Cond.native ⟨"java/lang/Object", "clone", "()Ljava/lang/Object;"⟩, Cond.instanceMethod ⟨"java/lang/Object", "clone", "()Ljava/lang/Object;"⟩, Cond.selects "[I" ⟨"[I", "clone", "()Ljava/lang/Object;"⟩ ⟨"java/lang/Object", "clone", "()Ljava/lang/Object;"⟩, Cond.methodLink RX3 133 yX3_allOpened, Cond.instanceMethod yX3_allOpened, Cond.selects RX3 yX3_allOpened yX3_allOpened, Cond.code yX3_allOpened cX3_allOpened 3 (some .int), Cond.methodLink RL 121 yX2_advise, Cond.instanceMethod yX2_advise, Cond.selects RX2 yX2_advise yX2_advise, Cond.code yX2_advise cX2_advise 5 (some .int), Cond.methodLink RX2 130 yX2_allDetoursIn, Cond.instanceMethod yX2_allDetoursIn, Cond.selects RX2 yX2_allDetoursIn yX2_allDetoursIn, Cond.code yX2_allDetoursIn cX2_allDetoursIn 4 (some .int), Cond.methodLink RL 124 yX3_advise, Cond.instanceMethod yX3_advise]
def wsL_law0_r23 : List Cond := [Cond.selects RX3 yX3_advise yX3_advise, Cond.code yX3_advise cX3_advise 5 (some .int), Cond.methodLink RL 125 yX2_mean, Cond.instanceMethod yX2_mean, Cond.selects RX2 yX2_mean yX2_mean, Cond.code yX2_mean cX2_mean 1 (some .double), Cond.constantDouble RX2 134 (4634204016564240384), Cond.methodLink RL 129 yX3_mean, Cond.instanceMethod yX3_mean, Cond.selects RX3 yX3_mean yX3_mean, Cond.code yX3_mean cX3_mean 1 (some .double), Cond.constantDouble RX3 140 (4634204016564240384), Cond.methodLink RL 130 yX2_digest, Cond.instanceMethod yX2_digest, Cond.selects RX2 yX2_digest yX2_digest, Cond.code yX2_digest cX2_digest 4 (some .long), Cond.constantLong RX2 136 (1493), Cond.constantLong RX2 138 (31), Cond.methodLink RX2 140 yX2_digestSlips, Cond.static yX2_digestSlips, Cond.code yX2_digestSlips cX2_digestSlips 6 (some .long), Cond.methodLink RX2 144 yX2_digestLevel, Cond.instanceMethod yX2_digestLevel, Cond.selects RX2 yX2_digestLevel yX2_digestLevel]
def wsL_law0_r24 : List Cond := [Cond.code yX2_digestLevel cX2_digestLevel 11 (some .long), Cond.methodLink RL 134 yX3_digest, Cond.instanceMethod yX3_digest, Cond.selects RX3 yX3_digest yX3_digest, Cond.code yX3_digest cX3_digest 6 (some .long), Cond.constantLong RX3 142 (1493), Cond.constantLong RX3 144 (31)]
def wsL_law0 : List Cond := (wsL_law0_r1 ++ (wsL_law0_r2 ++ (wsL_law0_r3 ++ (wsL_law0_r4 ++ (wsL_law0_r5 ++ (wsL_law0_r6 ++ (wsL_law0_r7 ++ (wsL_law0_r8 ++ (wsL_law0_r9 ++ (wsL_law0_r10 ++ (wsL_law0_r11 ++ (wsL_law0_r12 ++ (wsL_law0_r13 ++ (wsL_law0_r14 ++ (wsL_law0_r15 ++ (wsL_law0_r16 ++ (wsL_law0_r17 ++ (wsL_law0_r18 ++ (wsL_law0_r19 ++ (wsL_law0_r20 ++ (wsL_law0_r21 ++ (wsL_law0_r22 ++ (wsL_law0_r23 ++ wsL_law0_r24))))))))))))))))))))))) ++ wsX20 ++ wsX30 ++ wsX10 ++ wsX00 ++ ([] : List Cond)
def wsL_law : List Cond := wsL_law0 ++ (vx_atS RX2 41 "java/lang/IllegalArgumentException" ["java/lang/RuntimeException", "java/lang/Exception"]).filter goodWord ++ (vx_atS RX2 98 "java/lang/IndexOutOfBoundsException" ["java/lang/RuntimeException", "java/lang/Exception"]).filter goodWord ++ (vx_atS RX2 62 "java/lang/IllegalStateException" ["java/lang/RuntimeException", "java/lang/Exception"]).filter goodWord
abbrev vwCl : List vw_C := [(RX0, TX0, 5), (RX1, TX1, 6), (RX2, TX2, 5), (RX3, TX3, 4)]
end
section
/-! THE HEAP AS A MAP: an address holds an array (its kind, length, contents) or an object (its class' place, its fields). Rows over it. -/
abbrev hE : Type := (Nat × vp_A) ⊕ (Nat × List Value)
abbrev HP : Type := Nat → Option hE
abbrev hG : Type := va_G × (Nat → ClassId)
def hat (G : hG) (a : Nat) (e : hE) (H : Heap) : Prop := match e with
  | .inl x => H[a]? = some (vp_cell (G.2 x.1) x.2)
  | .inr o => va_at G.1 vwCl (a, .inr o) H
def hV (G : hG) (hp : HP) (H : Heap) : Prop := ∀ (a : Nat) (e : hE), hp a = some e → hat G a e H
abbrev hTs (G : hG) : List (ClassId × FieldType) := [(G.2 0, .int), (G.2 1, .long), (G.2 2, .object RX1), (G.2 3, .array .int), (G.2 4, .array (.array .int))]
/-- the classes of arrays of arrays, what can be cloned -/
def hAA (t : FieldType) (U : State) : Prop := (Cond.arrayOver (.array t)).before #[] U = true
theorem hAA.use {t : FieldType} {A : Array Value} {U : State} (h : hAA t U) : (Cond.arrayOver (.array t)).before A U = true := h
theorem hAA.moved {t : FieldType} {u U : State} (hvm : u.vm.Alike U.vm) (h : hAA t u) : hAA t U := by
  obtain ⟨comp, c, k, h1, h2, h3, h4, h5⟩ := arrayOverA_spec h
  obtain ⟨k', hk', he⟩ := hvm.2.2 _ _ h3
  have hi0 := va_idx_bare U.vm comp
  have hi1 := va_idx_bare u.vm comp
  first | rw [hvm.bare_eq] at hi1 | rw [← hvm.bare_eq] at hi1
  have hi : (U.vm.classes.findIdx? fun (x : Class) => match x.kind with | .array component _ => component == comp | _ => false) = some c := (hi0.symm.trans hi1).trans h2
  have hkind : k'.kind = .array comp (.array t) := by rw [he]; exact h4
  have f1 : U.vm.findClass (FieldType.array t).toString = some comp := by rw [hvm.findClass]; exact h1
  have f2 : U.vm.findClass ("[" ++ (FieldType.array t).toString) = some c := by rw [hvm.findClass]; exact h5
  unfold hAA Cond.before Cond.holds
  simp only [Cond.value]
  rw [f1, Option.bind_some]
  refine (congrArg (fun o : Option Nat => (o.bind (fun c => (U.vm.classes[c]?).map fun (k : Class) => match k.kind with | .array _ ty => decide (ty = FieldType.array t) && decide (U.vm.findClass ("[" ++ (FieldType.array t).toString) = some c) | _ => false) == some true)) hi).trans ?_
  simp [hk', hkind, f2]
def hZA (U : State) : Prop := va_AO RX1 U ∧ hAA .int U ∧ hAA (.array .int) U ∧ va_Nw (.castable "[I" "java/lang/Cloneable") U ∧ va_Nw (.castable "[[[I" "java/lang/Cloneable") U
theorem hNc.moved {C T : String} {u U : State} (hvm : u.vm.Alike U.vm) (h : va_Nw (.castable C T) u) : va_Nw (.castable C T) U := va_tabs rfl (rfl : (u.setVm U.vm).vm = U.vm) (by rw [Cond.castable_setVm hvm]; exact h)
theorem hZA.moved {u U : State} (hvm : u.vm.Alike U.vm) (h : hZA u) : hZA U := ⟨h.1.moved hvm, h.2.1.moved hvm, h.2.2.1.moved hvm, hNc.moved hvm h.2.2.2.1, hNc.moved hvm h.2.2.2.2⟩
def hK (G : hG) (U : State) : Prop := va_K G.1 vwCl (hTs G) U ∧ hZA U
def hput (hp : HP) (a : Nat) (e : hE) : HP := fun q => if q = a then some e else hp q
abbrev eI (n : Nat) (f : Nat → Int32) : hE := .inl (0, n, .inl f)
abbrev eJ (n : Nat) (f : Nat → Int64) : hE := .inl (1, n, .inr (.inl f))
abbrev eQ (t n : Nat) (f : Nat → Option Nat) : hE := .inl (t, n, .inr (.inr (.inr (.inr f))))
abbrev eO (c : Nat) (fs : List Value) : hE := .inr (c, fs)
theorem hput_s (hp : HP) (a : Nat) (e : hE) : hput hp a e a = some e := by simp [hput]
theorem hput_n (hp : HP) {a q : Nat} (e : hE) (h : q ≠ a) : hput hp a e q = hp q := by simp [hput, h]
theorem hput_hput (hp : HP) (a : Nat) (e e2 : hE) : hput (hput hp a e) a e2 = hput hp a e2 := by
  funext q
  by_cases h : q = a <;> simp [hput, h]
theorem hput_comm (hp : HP) {a b : Nat} (e e2 : hE) (h : a ≠ b) : hput (hput hp a e) b e2 = hput (hput hp b e2) a e := by
  funext q
  by_cases h1 : q = a
  · subst h1
    simp [hput, h]
  · by_cases h2 : q = b
    · subst h2
      simp [hput, h1]
    · simp [hput, h1, h2]
theorem hput_same {hp : HP} {a : Nat} {e : hE} (h : hp a = some e) : hput hp a e = hp := by
  funext q
  by_cases h1 : q = a
  · subst h1
    simp [hput, h]
  · simp [hput, h1]
theorem hat.kept {G : hG} {a : Nat} {e : hE} {H H1 : Heap} (h : hat G a e H) (hq : H1[a]? = H[a]?) : hat G a e H1 := by
  cases e with
  | inl x => exact hq.trans h
  | inr o => exact va_at.kept (q := (a, .inr o)) h hq
theorem hat.lt {G : hG} {a : Nat} {e : hE} {H : Heap} (h : hat G a e H) : a < H.size := by
  cases e with
  | inl x => exact (Array.getElem?_eq_some_iff.mp h).1
  | inr o => exact va_at.lt (q := (a, .inr o)) h
theorem hV.put {G : hG} {hp : HP} {H H1 : Heap} {a : Nat} {e : hE} (h : hV G hp H) (he : hat G a e H1) (oq : ∀ q : Nat, q ≠ a → H1[q]? = H[q]?) : hV G (hput hp a e) H1 := by
  intro q x hx
  by_cases h1 : q = a
  · subst h1
    rw [hput_s] at hx
    cases hx
    exact he
  · rw [hput_n _ _ h1] at hx
    exact (h q x hx).kept (oq q h1)
theorem hV.new {G : hG} {hp : HP} {H H1 : Heap} {a : Nat} {e : hE} (h : hV G hp H) (ha : a = H.size) (he : hat G a e H1) (oq : ∀ q : Nat, q < a → H1[q]? = H[q]?) : hV G (hput hp a e) H1 := by
  intro q x hx
  by_cases h1 : q = a
  · subst h1
    rw [hput_s] at hx
    cases hx
    exact he
  · rw [hput_n _ _ h1] at hx
    have := (h q x hx).lt
    exact (h q x hx).kept (oq q (by omega))
theorem hV.none {G : hG} {hp : HP} {H : Heap} (h : hV G hp H) {a : Nat} (ha : H.size ≤ a) : hp a = none := by
  cases hh : hp a with
  | none => rfl
  | some e =>
    have := (h a e hh).lt
    omega
theorem hV.P1 {G : hG} {hp : HP} {H : Heap} {a ci : Nat} {fs : List Value} (h : hV G hp H) (he : hp a = some (.inr (ci, fs))) : va_P G.1 vwCl [(a, .inr (ci, fs))] H := by
  intro k q hk
  match k, hk with
  | 0, hk => cases hk; exact h a _ he
  | k + 1, hk => simp at hk
theorem hV.P2 {G : hG} {hp : HP} {H : Heap} {a t : Nat} {x : vp_A} (h : hV G hp H) (he : hp a = some (.inl (t, x))) : va_P G.1 vwCl [(a, .inl (G.2 t, x))] H := by
  intro k q hk
  match k, hk with
  | 0, hk => cases hk; exact h a _ he
  | k + 1, hk => simp at hk
/-- two contents of an int array that agree below its length are one -/
theorem hat_congr {G : hG} {a n : Nat} {f g : Nat → Int32} {H : Heap} (h : hat G a (eI n f) H) (hfg : ∀ j, j < n → f j = g j) : hat G a (eI n g) H := by
  have e : vp_cell (G.2 0) (n, .inl f) = vp_cell (G.2 0) (n, .inl g) := by
    rw [vp_cell_i, vp_cell_i]
    unfold arrV
    congr 1
    apply Array.ext
    · simp
    · intro i h1 h2
      simp only [Array.getElem_ofFn]
      rw [hfg i (by simpa using h1)]
  show H[a]? = some (vp_cell (G.2 0) (n, .inl g))
  rw [← e]
  exact h
theorem hatq_congr {G : hG} {a t n : Nat} {f g : Nat → Option Nat} {H : Heap} (h : hat G a (eQ t n f) H) (hfg : ∀ j, j < n → f j = g j) : hat G a (eQ t n g) H := by
  have e : vp_cell (G.2 t) (n, .inr (.inr (.inr (.inr f)))) = vp_cell (G.2 t) (n, .inr (.inr (.inr (.inr g)))) := by
    rw [vp_cell_q, vp_cell_q]
    unfold arrV
    congr 1
    apply Array.ext
    · simp
    · intro i h1 h2
      simp only [Array.getElem_ofFn]
      rw [hfg i (by simpa using h1)]
  show H[a]? = some (vp_cell (G.2 t) (n, .inr (.inr (.inr (.inr g)))))
  rw [← e]
  exact h
theorem hV.recast {G : hG} {hp hp' : HP} {H : Heap} (h : hV G hp H) (hc : ∀ a e, hp' a = some e → hp a = some e ∨ (∃ n f g, hp a = some (eI n f) ∧ e = eI n g ∧ ∀ j, j < n → f j = g j) ∨ (∃ t n f g, hp a = some (eQ t n f) ∧ e = eQ t n g ∧ ∀ j, j < n → f j = g j)) : hV G hp' H := by
  intro a e he
  rcases hc a e he with h1 | ⟨n, f, g, h1, rfl, h2⟩ | ⟨t, n, f, g, h1, rfl, h2⟩
  · exact h a e h1
  · exact hat_congr (h a _ h1) h2
  · exact hatq_congr (h a _ h1) h2
theorem hK.moved {G : hG} {u U : State} (hvm : u.vm.Alike U.vm) (h : hK G u) : hK G U := ⟨va_K.moved hvm h.1, h.2.moved hvm⟩
/-- what a reading method starts from -/
def hPr (G : hG) (hp : HP) (av : List Value) : Array Value → State → Prop := va_Pc av (fun U => hV G hp U.heap ∧ hK G U)
/-- a reading method's end: its answer, the heap as it was -/
def hR (ro : Option Value) : Array Value → State → Outcome → State → Prop := fun _ st o t => o = .returned ro ∧ t.heap = st.heap
/-- what a writing method starts from -/
def hPw (G : hG) (A : Nat → Prop) (hp : HP) (av : List Value) : Array Value → State → Prop := va_Pc av (fun U => hV G hp U.heap ∧ hK G U ∧ ∀ q : Nat, U.heap.size ≤ q → A q)
def hIn (A : Nat → Prop) (hp : HP) : Prop := ∀ a e, hp a = some e → A a
/-- a writing method's end -/
def hW (G : hG) (A : Nat → Prop) (P : Option Value → HP → Prop) : Array Value → State → Outcome → State → Prop := fun _ st o t => (∃ (ro : Option Value) (hp' : HP), o = .returned ro ∧ P ro hp' ∧ hV G hp' t.heap ∧ hIn A hp') ∧ va_F A st t
theorem hIn.put {A : Nat → Prop} {hp : HP} {a : Nat} {e : hE} (h : hIn A hp) (ha : A a) : hIn A (hput hp a e) := by
  intro q x hx
  by_cases h1 : q = a
  · subst h1; exact ha
  · rw [hput_n _ _ h1] at hx
    exact h q x hx
theorem hPr_blind {G : hG} {hp : HP} {av : List Value} : FrameBlind (hPr G hp av) := fun a U g mk q => ⟨q.1, q.2.1, hK.moved (u := U) (U := U.calling g mk a) (Vm.Alike.refl U.vm) q.2.2⟩
theorem hPw_blind {G : hG} {A : Nat → Prop} {hp : HP} {av : List Value} : FrameBlind (hPw G A hp av) := fun a U g mk q => ⟨q.1, q.2.1, hK.moved (u := U) (U := U.calling g mk a) (Vm.Alike.refl U.vm) q.2.2.1, q.2.2.2⟩
theorem h_recv {G : hG} {hp : HP} {s : State} {H : Heap} {a ci : Nat} {fs : List Value} {q : vw_C} (hK0 : hK G s) (hV0 : hV G hp H) (he : hp a = some (.inr (ci, fs))) (hc : vwCl[ci]? = some q) : ∃ cell : Cell, H[a]? = some cell ∧ cell.vm.isStatics = false ∧ s.vm.findClass q.1 = some cell.cls := va_recv hK0.1 (hV0.P1 he) hc (q0 := 0) rfl
theorem h_preV {G : hG} {hp : HP} {s : State} {H : Heap} {b ci : Nat} {fs : List Value} {q : vw_C} {As : List Value} (hK0 : hK G s) (hV0 : hV G hp H) (he : hp b = some (.inr (ci, fs))) (hc : vwCl[ci]? = some q) : PreV s H q.1 b (hPr G hp (.ref b :: As)) As :=
  ⟨hPr_blind, h_recv hK0 hV0 he hc, fun U hU hW => ⟨rfl, by rw [hU]; exact hV0, hK.moved hW.alike hK0⟩⟩
theorem h_preS {G : hG} {hp : HP} {s : State} {H : Heap} {As : List Value} (hK0 : hK G s) (hV0 : hV G hp H) : PreS s H (hPr G hp As) As :=
  ⟨hPr_blind, fun U hU hW => ⟨rfl, by rw [hU]; exact hV0, hK.moved hW.alike hK0⟩⟩
theorem h_preVw {G : hG} {A : Nat → Prop} {hp : HP} {s : State} {H : Heap} {locs : List Loc} {b ci : Nat} {fs : List Value} {q : vw_C} {As : List Value} (hK0 : hK G s) (hV0 : hV G hp H) (hA : ∀ q : Nat, s.heap.size ≤ q → A q) (hS : va_S A s.heap H locs) (he : hp b = some (.inr (ci, fs))) (hc : vwCl[ci]? = some q) : PreV s H q.1 b (hPw G A hp (.ref b :: As)) As :=
  ⟨hPw_blind, h_recv hK0 hV0 he hc, fun U hU hW => ⟨rfl, by rw [hU]; exact hV0, hK.moved hW.alike hK0, fun q hq => hA q (Nat.le_trans hS.1 (by rw [← hU]; exact hq))⟩⟩
theorem h_preSw {G : hG} {A : Nat → Prop} {hp : HP} {s : State} {H : Heap} {locs : List Loc} {As : List Value} (hK0 : hK G s) (hV0 : hV G hp H) (hA : ∀ q : Nat, s.heap.size ≤ q → A q) (hS : va_S A s.heap H locs) : PreS s H (hPw G A hp As) As :=
  ⟨hPw_blind, fun U hU hW => ⟨rfl, by rw [hU]; exact hV0, hK.moved hW.alike hK0, fun q hq => hA q (Nat.le_trans hS.1 (by rw [← hU]; exact hq))⟩⟩
section HA
variable {p : Program} {l : Launch} {e : Env} {R : Room} {s : State} {m : MethodId} {args : Array Value} {below : List Frame} {meth : Method} {c : Code} {H : Heap} {locs : List Loc} {cells slots : Nat} {Q : State → Prop}
variable {cc : ByteArray} {pc : Nat} {ls : Array Slot} {rest st0 : List Value} {G : hG} {hp : HP} {A : Nat → Prop} {a : Nat} {H0 : Heap} {mc ms : Nat}
theorem h_callR {ro : Option Value} {av : Array Value} {free : Addr → Prop} (hf : ∀ q, free q → False) (hr : va_Run p l e R s m args below meth c H locs cells slots 0 0 (F0 m pc ls st0) rest (hR ro av) free)
    (kk : W p l e R s m args below meth c H locs cells slots Q (F0 m (pc + 3) ls (ro.toList ++ rest))) : W p l e R s m args below meth c H locs cells slots Q (F0 m pc ls st0) := by
  intro T hT X
  obtain ⟨v, st₀, t, T', L, h0, X', hL, e1, e2, ⟨hv, hh⟩, st⟩ := hr T hT X
  cases hv
  obtain ⟨t2, a1, b1⟩ := kk T' (by rw [e1, hh, h0]) (Stand.forget X' (fun q h => (hf _ (hL q h)).elim))
  exact ⟨t2, st t2 a1, b1⟩
theorem h_callW {P : Option Value → HP → Prop} {av : Array Value} (hr : va_Run p l e R s m args below meth c H locs cells slots mc ms (F0 m pc ls st0) rest (hW G A P av) A) (hS : va_S A H0 H locs)
    (kk : ∀ (ro : Option Value) (hp' : HP) (H1 : Heap) (locs1 : List Loc), P ro hp' → hV G hp' H1 → hIn A hp' → va_S A H0 H1 locs1 → W p l e R s m args below meth c H1 locs1 (cells + mc) (slots + ms) Q (F0 m (pc + 3) ls (ro.toList ++ rest))) : W p l e R s m args below meth c H locs cells slots Q (F0 m pc ls st0) := by
  intro T hT X
  obtain ⟨v, st₀, t, T', L, h0, X', hL, e1, e2, ⟨⟨ro, hp', hv, hp1, hv1, hin1⟩, hz, hk⟩, st⟩ := hr T hT X
  cases hv
  rw [h0] at hz hk
  obtain ⟨t2, a1, b1⟩ := kk v hp' T'.heap (locs ++ L) hp1 (by rw [e1]; exact hv1) hin1
    ⟨Nat.le_trans hS.1 (by rw [e1]; exact hz), fun q h1 h2 => by rw [e1, hk q (Nat.lt_of_lt_of_le h1 hS.1) h2]; exact hS.2.1 q h1 h2, fun q hq => by
      rcases List.mem_append.mp hq with h | h
      · exact hS.2.2 q h
      · exact hL q h⟩ T' rfl X'
  exact ⟨t2, st t2 a1, b1⟩
theorem h_get (hexec : p.tables.exec = Jvm.exec) (hb : c.code = cc) {own C : String} {T : u_T} {N ci index : Nat} {Ts : List Cond} (hts : ∀ w ∈ Ts, w.before args s = true) (hin : ∀ w ∈ u_ws C T N, w ∈ Ts) (hown : s.vm.findClass own = some m.cls) (hK0 : hK G s) (hV0 : hV G hp H) {fs : List Value} (he : hp a = some (.inr (ci, fs))) (hc : vwCl[ci]? = some (C, T, N)) (k : Nat) (hk : k < N) (hlink : (Cond.fieldLink own index (T k).1 (T k).2.1 (T k).2.2.1).before args s = true) {v : Value} (hv : fs[k]? = some v) (hdg : decode cc pc = .ok (.getfield index, 3))
    (kk : W p l e R s m args below meth c H locs cells slots Q (F0 m (pc + 3) ls (v :: rest))) : W p l e R s m args below meth c H locs cells slots Q (F0 m pc ls (.ref a :: rest)) :=
  va_get hexec hb hts hin hown hK0.1 (hV0.P1 he) 0 rfl hc k hk hlink (fun _ h => h) hv hdg kk
theorem h_iald (hexec : p.tables.exec = Jvm.exec) (hb : c.code = cc) (hK0 : hK G s) (hV0 : hV G hp H) {n : Nat} {f : Nat → Int32} (he : hp a = some (eI n f)) {i : Nat} (hi : i < n) (hn : n < 2 ^ 31) (hdg : decode cc pc = .ok (.iaload, 1))
    (kk : W p l e R s m args below meth c H locs cells slots Q (F0 m (pc + 1) ls (.int (f i) :: rest))) : W p l e R s m args below meth c H locs cells slots Q (F0 m pc ls (.int (nI i) :: .ref a :: rest)) :=
  va_iald hexec hb hK0.1 (hV0.P2 he) 0 0 rfl rfl (vp_in_nI hi hn) hdg (by rw [nI_clamp (show i < 2 ^ 31 by omega)]; exact kk)
theorem h_lald (hexec : p.tables.exec = Jvm.exec) (hb : c.code = cc) (hK0 : hK G s) (hV0 : hV G hp H) {n : Nat} {f : Nat → Int64} (he : hp a = some (eJ n f)) {i : Nat} (hi : i < n) (hn : n < 2 ^ 31) (hdg : decode cc pc = .ok (.laload, 1))
    (kk : W p l e R s m args below meth c H locs cells slots Q (F0 m (pc + 1) ls (.long (f i) :: rest))) : W p l e R s m args below meth c H locs cells slots Q (F0 m pc ls (.int (nI i) :: .ref a :: rest)) :=
  va_lald hexec hb hK0.1 (hV0.P2 he) 0 1 rfl rfl (vp_in_nI hi hn) hdg (by rw [nI_clamp (show i < 2 ^ 31 by omega)]; exact kk)
theorem h_aald (hexec : p.tables.exec = Jvm.exec) (hb : c.code = cc) (hK0 : hK G s) (hV0 : hV G hp H) {t n : Nat} {ty : FieldType} {f : Nat → Option Nat} (he : hp a = some (eQ t n f)) (ht : (hTs G)[t]? = some (G.2 t, ty)) (hr : ty.isReference = true) {i : Nat} (hi : i < n) (hn : n < 2 ^ 31) (hdg : decode cc pc = .ok (.aaload, 1))
    (kk : W p l e R s m args below meth c H locs cells slots Q (F0 m (pc + 1) ls (va_rf (f i) :: rest))) : W p l e R s m args below meth c H locs cells slots Q (F0 m pc ls (.int (nI i) :: .ref a :: rest)) := by
  have hin := vp_in_nI hi hn
  have hcl := nI_clamp (show i < 2 ^ 31 by omega)
  exact W.aald (v := va_rf (f i)) (ty := ty) hexec hb (hV0 a _ he) ((hK0.1.2 t _ ht).1 n (fun j => va_rf (f j))) hr (fun q => by cases q) (by show ¬ (nI i < 0 ∨ (arrV _ _ _).slots.size ≤ _); rw [arrV_size]; exact hin) (by show (arrV _ _ _).slots[_]? = _; rw [hcl, arrV_read _ _ hi]) rfl rfl hdg kk
theorem h_alen (hexec : p.tables.exec = Jvm.exec) (hb : c.code = cc) (hK0 : hK G s) (hV0 : hV G hp H) {t : Nat} {x : vp_A} (he : hp a = some (.inl (t, x))) {ty : FieldType} (ht : (hTs G)[t]? = some (G.2 t, ty)) (hdg : decode cc pc = .ok (.arraylength, 1))
    (kk : W p l e R s m args below meth c H locs cells slots Q (F0 m (pc + 1) ls (.int (nI x.1) :: rest))) : W p l e R s m args below meth c H locs cells slots Q (F0 m pc ls (.ref a :: rest)) :=
  va_alen hexec hb hK0.1 (hV0.P2 he) 0 t rfl ht rfl hdg kk
theorem h_put (hexec : p.tables.exec = Jvm.exec) (hb : c.code = cc) {own C : String} {T : u_T} {N ci index : Nat} {Ts : List Cond} (hts : ∀ w ∈ Ts, w.before args s = true) (hin : ∀ w ∈ u_ws C T N, w ∈ Ts) (ty0 : Nat → FieldType) (hty : ∀ k, k < N → parseFieldDescriptor (T k).2.2.1 = some (ty0 k)) (hnm : ∀ a, a < N → ∀ b, b < N → a ≠ b → (T a).2.1 ≠ (T b).2.1) (hown : s.vm.findClass own = some m.cls) (hK0 : hK G s) (hV0 : hV G hp H) (hA0 : hIn A hp) (hS0 : va_S A H0 H locs) {fs : List Value} (he : hp a = some (.inr (ci, fs))) (hc : vwCl[ci]? = some (C, T, N)) (k : Nat) (hk : k < N) (hlink : (Cond.fieldLink own index (T k).1 (T k).2.1 (T k).2.2.1).before args s = true) (hfin : (T k).2.2.2 = false) {v : Value} (hn : narrow (ty0 k) v = v) (hfit : fits (ty0 k) v = true) (hl : k < fs.length)
    (hdg : decode cc pc = .ok (.putfield index, 3)) (kk : ∀ (H1 : Heap) (locs1 : List Loc), hV G (hput hp a (.inr (ci, fs.set k v))) H1 → hIn A (hput hp a (.inr (ci, fs.set k v))) → va_S A H0 H1 locs1 → W p l e R s m args below meth c H1 locs1 cells slots Q (F0 m (pc + 3) ls rest)) : W p l e R s m args below meth c H locs cells slots Q (F0 m pc ls (v :: .ref a :: rest)) := by
  have hap := va_apart (own := own) hts hin ty0 hty hnm hK0.1 hc
  obtain ⟨r, h1, cell, q1, q2, q3, q4⟩ := hV0 a _ he
  have hr : r = (C, T, N) := Option.some.inj (h1.symm.trans hc)
  subst hr
  obtain ⟨hSl, hfc, kC, hkC, hkind⟩ := hK0.1.1 ci _ hc
  obtain ⟨cf, kf, fi, f, hi, hsl⟩ := hSl k hk
  have hlay := hts _ (hin _ (u_in_lay hk))
  unfold u_lay at hlay
  rw [if_neg (by rw [hfin]; decide)] at hlay
  have hst := (u_facts hfc hkC (u_lays hts hin hk) hi).1
  have h6 := u_store hfc hkC hkind hlay hi (hty k hk) hn hfit
  refine W.putK hexec hb (f := f) ⟨hown, hlink, ⟨_, _, _, hi⟩, hst⟩ (by rw [q2]; exact h6) q1 q3 (by rw [hsl]; exact k2_hasslot (q4 k hk)) rfl rfl hdg fun H' e1 e2 e3 => ?_
  rw [hsl] at e1 ⊢
  exact kk H' _ (hV0.put (e := .inr (ci, fs.set k v)) ⟨_, hc, t_OB.to (V := updV (vp_V fs) k v) ⟨_, e1, q2, q3, t_set q4 hap hk v⟩ (fun j _ => vp_updV_set hl v j)⟩ e3) (hA0.put (hA0 a _ he)) (hS0.put e2 e3 (hA0 a _ he))
theorem h_putF (hexec : p.tables.exec = Jvm.exec) (hb : c.code = cc) {own C : String} {T : u_T} {N ci index : Nat} {Ts : List Cond} (hts : ∀ w ∈ Ts, w.before args s = true) (hin : ∀ w ∈ u_ws C T N, w ∈ Ts) (ty0 : Nat → FieldType) (hty : ∀ k, k < N → parseFieldDescriptor (T k).2.2.1 = some (ty0 k)) (hnm : ∀ a, a < N → ∀ b, b < N → a ≠ b → (T a).2.1 ≠ (T b).2.1) (hown : s.vm.findClass own = some m.cls) (hK0 : hK G s) (hV0 : hV G hp H) (hA0 : hIn A hp) (hS0 : va_S A H0 H locs) {fs : List Value} (he : hp a = some (.inr (ci, fs))) (hc : vwCl[ci]? = some (C, T, N)) (k : Nat) (hk : k < N) (hlink : (Cond.fieldLink own index (T k).1 (T k).2.1 (T k).2.2.1).before args s = true) (hfin : (T k).2.2.2 = true) (hin2 : meth.name = "<init>") (hdecl : (T k).1 = own) {v : Value} (hn : narrow (ty0 k) v = v) (hfit : fits (ty0 k) v = true) (hl : k < fs.length)
    (hdg : decode cc pc = .ok (.putfield index, 3)) (kk : ∀ (H1 : Heap) (locs1 : List Loc), hV G (hput hp a (.inr (ci, fs.set k v))) H1 → hIn A (hput hp a (.inr (ci, fs.set k v))) → va_S A H0 H1 locs1 → W p l e R s m args below meth c H1 locs1 cells slots Q (F0 m (pc + 3) ls rest)) : W p l e R s m args below meth c H locs cells slots Q (F0 m pc ls (v :: .ref a :: rest)) := by
  have hap := va_apart (own := own) hts hin ty0 hty hnm hK0.1 hc
  obtain ⟨r, h1, cell, q1, q2, q3, q4⟩ := hV0 a _ he
  have hr : r = (C, T, N) := Option.some.inj (h1.symm.trans hc)
  subst hr
  obtain ⟨hSl, hfc, kC, hkC, hkind⟩ := hK0.1.1 ci _ hc
  obtain ⟨cf, kf, fi, f, hi, hsl⟩ := hSl k hk
  have hlay := hts _ (hin _ (u_in_lay hk))
  unfold u_lay at hlay
  rw [if_pos hfin] at hlay
  have hst := (u_facts hfc hkC (u_lays hts hin hk) hi).1
  have hcf : m.cls = cf := by
    obtain ⟨_, _, c', _, _, _, -, -, hf', -, -, -, hown2, -⟩ := Cond.laysFinal_spec hlay
    have e1 : c' = cf := by have := hi.symm.trans hf'; simp at this; exact this.1.symm
    rw [hdecl] at hown2
    rw [← e1]; exact Option.some.inj (hown.symm.trans hown2)
  have h6 := u_fits hfc hkC hkind (Or.inr hlay) hi (hty k hk) hn hfit
  refine W.putFinK hexec hb hown hlink hi hst hcf hin2 (by rw [q2]; exact h6) q1 q3 (by rw [hsl]; exact k2_hasslot (q4 k hk)) rfl rfl hdg fun H' e1 e2 e3 => ?_
  rw [hsl] at e1 ⊢
  exact kk H' _ (hV0.put (e := .inr (ci, fs.set k v)) ⟨_, hc, t_OB.to (V := updV (vp_V fs) k v) ⟨_, e1, q2, q3, t_set q4 hap hk v⟩ (fun j _ => vp_updV_set hl v j)⟩ e3) (hA0.put (hA0 a _ he)) (hS0.put e2 e3 (hA0 a _ he))
theorem h_iast (hexec : p.tables.exec = Jvm.exec) (hb : c.code = cc) (hK0 : hK G s) (hV0 : hV G hp H) (hA0 : hIn A hp) (hS : va_S A H0 H locs) {n : Nat} {f : Nat → Int32} (he : hp a = some (eI n f)) {i : Nat} {x : Int32} (hi : i < n) (hn : n < 2 ^ 31) (hdg : decode cc pc = .ok (.iastore, 1))
    (kk : ∀ (H1 : Heap) (locs1 : List Loc), hV G (hput hp a (eI n (upd f i x))) H1 → hIn A (hput hp a (eI n (upd f i x))) → va_S A H0 H1 locs1 → W p l e R s m args below meth c H1 locs1 cells slots Q (F0 m (pc + 1) ls rest)) : W p l e R s m args below meth c H locs cells slots Q (F0 m pc ls (.int x :: .int (nI i) :: .ref a :: rest)) := by
  have hin := vp_in_nI hi hn
  have hcl := nI_clamp (show i < 2 ^ 31 by omega)
  refine W.iast hexec hb (hV0 a _ he) ((hK0.1.2 0 _ rfl).1 n (fun j => .int (f j))) (fun q => by cases q) (by show ¬ (nI i < 0 ∨ (arrV _ _ _).slots.size ≤ _); rw [arrV_size]; exact hin) rfl rfl hdg fun H1 e z oq => ?_
  refine kk H1 _ (hV0.put (e := eI n (upd f i x)) ?_ oq) (hA0.put (hA0 a _ he)) (hS.put z oq (hA0 a _ he))
  show H1[a]? = some (vp_cell _ _)
  rw [e]
  rw [hcl]
  show some ((vp_cell (G.2 0) (n, .inl f)).setSlot i (.int x)) = some (vp_cell (G.2 0) (n, .inl (upd f i x)))
  rw [vp_cell_i, vp_cell_i, arrV_store]
  congr 2
  funext q
  by_cases hq : q = i
  · subst hq
    simp [updV, upd]
  · simp [updV, upd, hq]
theorem h_last (hexec : p.tables.exec = Jvm.exec) (hb : c.code = cc) (hK0 : hK G s) (hV0 : hV G hp H) (hA0 : hIn A hp) (hS : va_S A H0 H locs) {n : Nat} {f : Nat → Int64} (he : hp a = some (eJ n f)) {i : Nat} {x : Int64} (hi : i < n) (hn : n < 2 ^ 31) (hdg : decode cc pc = .ok (.lastore, 1))
    (kk : ∀ (H1 : Heap) (locs1 : List Loc), hV G (hput hp a (eJ n (va_up f i x))) H1 → hIn A (hput hp a (eJ n (va_up f i x))) → va_S A H0 H1 locs1 → W p l e R s m args below meth c H1 locs1 cells slots Q (F0 m (pc + 1) ls rest)) : W p l e R s m args below meth c H locs cells slots Q (F0 m pc ls (.long x :: .int (nI i) :: .ref a :: rest)) := by
  have hin := vp_in_nI hi hn
  have hcl := nI_clamp (show i < 2 ^ 31 by omega)
  refine W.last hexec hb (hV0 a _ he) ((hK0.1.2 1 _ rfl).1 n (fun j => .long (f j))) (fun q => by cases q) (by show ¬ (nI i < 0 ∨ (arrV _ _ _).slots.size ≤ _); rw [arrV_size]; exact hin) rfl rfl hdg fun H1 e z oq => ?_
  refine kk H1 _ (hV0.put (e := eJ n (va_up f i x)) ?_ oq) (hA0.put (hA0 a _ he)) (hS.put z oq (hA0 a _ he))
  show H1[a]? = some (vp_cell _ _)
  rw [e]
  rw [hcl]
  show some ((vp_cell (G.2 1) (n, .inr (.inl f))).setSlot i (.long x)) = some (vp_cell (G.2 1) (n, .inr (.inl (va_up f i x))))
  rw [vp_cell_l, vp_cell_l, arrV_store]
  congr 2
  funext q
  by_cases hq : q = i
  · subst hq
    simp [updV, va_up]
  · simp [updV, va_up, hq]
end HA
/-! a reading method's contract, its call; rows over natural numbers -/
def hRd (l : Launch) (y : MethodName) (ws : List Cond) (fr lo : Nat) (G : hG) (hp : HP) (av : List Value) (ro : Option Value) : Prop := Met l y ws { frames := fr, cells := 0, slots := 0, locals := lo } (hPr G hp av) (hR ro) 0 0 (fun _ => False)
def hWr (l : Launch) (y : MethodName) (ws : List Cond) (fr lo mc ms : Nat) (G : hG) (A : Nat → Prop) (hp : HP) (av : List Value) (P : Option Value → HP → Prop) : Prop := Met l y ws { frames := fr, cells := mc, slots := ms, locals := lo } (hPw G A hp av) (hW G A P) mc ms A
def bI (b : Bool) : Int32 := if b then 1 else 0
theorem narrow_bI (b : Bool) : narrow .boolean (.int (bI b)) = .int (bI b) := by cases b <;> rfl
theorem nI_inc (a : Nat) : nI a + Int32.ofInt 1 = nI (a + 1) := nI_1 a
section HB
variable {p : Program} {l : Launch} {e : Env} {R : Room} {s : State} {m : MethodId} {args : Array Value} {below : List Frame} {meth : Method} {c : Code} {H : Heap} {locs : List Loc} {cells slots : Nat} {Q : State → Prop}
variable {cc : ByteArray} {pc : Nat} {ls : Array Slot} {rest st0 : List Value} {G : hG} {hp : HP} {A : Nat → Prop} {a : Nat} {H0 : Heap} {mc ms : Nat}
theorem h_rdV {own C : String} {index maxL nL fr lo ci : Nat} {y : MethodName} {bytes : ByteArray} {ret : Option FieldType} {Ts ws ws' : List Cond} {fs As : List Value} {ro : Option Value} {q : vw_C} (S : CallFix p m c cc nL s args Ts own) (hM : hRd l y ws fr lo G hp (.ref a :: As) ro) (n : Nat) (hT : GoodIn Ts (wsV own index C y ws)) (hw : ws = Cond.code y bytes maxL ret :: ws')
    (hd : y.cls = C ∧ y.cls ≠ "java/lang/invoke/MethodHandle" ∧ y.cls ≠ "java/lang/invoke/VarHandle" ∧ (parseMethodDescriptor y.desc).map (fun d => d.parameters.length) = some n) (hRm : fr + 1 ≤ R.frames ∧ 8 + (maxL + 11) + lo ≤ R.locals) (hK0 : hK G s) (hV0 : hV G hp H) (he : hp a = some (.inr (ci, fs))) (hc : vwCl[ci]? = some q) (hq : q.1 = C)
    (hn : As.length = n) (hsize : ls.size = nL) (hstack : st0 = As.reverse ++ .ref a :: rest) (hWs : (rest.map fun v => v.category).sum ≤ 8) (hcl : cells ≤ R.cells) (hsl : slots ≤ R.slots) (hdg : decode cc pc = .ok (.invokevirtual index, 3))
    (kk : W p l e R s m args below meth c H locs cells slots Q (F0 m (pc + 3) ls (ro.toList ++ rest))) : W p l e R s m args below meth c H locs cells slots Q (F0 m pc ls st0) := by
  subst hq
  exact h_callR (fun q h => h) (va_runV (As := As) (rest := rest) S hM (cwV n S.2.2.2.2 hT hw rfl rfl hd hRm) (h_preV hK0 hV0 he hc) rfl hn hsize hstack (lv_room hWs) hdg ⟨hcl, hsl⟩) kk
theorem h_rdS {own : String} {index maxL nL fr lo : Nat} {y : MethodName} {bytes : ByteArray} {ret : Option FieldType} {Ts ws ws' : List Cond} {As : List Value} {ro : Option Value} (S : CallFix p m c cc nL s args Ts own) (hM : hRd l y ws fr lo G hp As ro) (n : Nat) (hT : GoodIn Ts (va_wsS own index y ws)) (hw : ws = Cond.code y bytes maxL ret :: ws')
    (hd : y.cls ≠ "java/lang/invoke/MethodHandle" ∧ y.cls ≠ "java/lang/invoke/VarHandle" ∧ (parseMethodDescriptor y.desc).map (fun d => d.parameters.length) = some n) (hRm : fr + 1 ≤ R.frames ∧ 8 + (maxL + 11) + lo ≤ R.locals) (hK0 : hK G s) (hV0 : hV G hp H)
    (hn : As.length = n) (hsize : ls.size = nL) (hstack : st0 = As.reverse ++ rest) (hWs : (rest.map fun v => v.category).sum ≤ 8) (hcl : cells ≤ R.cells) (hsl : slots ≤ R.slots) (hdg : decode cc pc = .ok (.invokestatic index, 3))
    (kk : W p l e R s m args below meth c H locs cells slots Q (F0 m (pc + 3) ls (ro.toList ++ rest))) : W p l e R s m args below meth c H locs cells slots Q (F0 m pc ls st0) :=
  h_callR (fun q h => h) (va_runS (As := As) (rest := rest) S hM (va_cwS n S.2.2.2.2 hT hw rfl rfl hd hRm) (h_preS hK0 hV0) rfl hn hsize hstack (lv_room hWs) hdg ⟨hcl, hsl⟩) kk
theorem h_wrV {own C : String} {index maxL nL fr lo ci : Nat} {y : MethodName} {bytes : ByteArray} {ret : Option FieldType} {Ts ws ws' : List Cond} {fs As : List Value} {P : Option Value → HP → Prop} {q : vw_C} (S : CallFix p m c cc nL s args Ts own) (hM : hWr l y ws fr lo mc ms G A hp (.ref a :: As) P) (n : Nat) (hT : GoodIn Ts (wsV own index C y ws)) (hw : ws = Cond.code y bytes maxL ret :: ws')
    (hd : y.cls = C ∧ y.cls ≠ "java/lang/invoke/MethodHandle" ∧ y.cls ≠ "java/lang/invoke/VarHandle" ∧ (parseMethodDescriptor y.desc).map (fun d => d.parameters.length) = some n) (hRm : fr + 1 ≤ R.frames ∧ 8 + (maxL + 11) + lo ≤ R.locals) (hK0 : hK G s) (hV0 : hV G hp H) (hA : ∀ q : Nat, s.heap.size ≤ q → A q) (hS : va_S A s.heap H locs) (he : hp a = some (.inr (ci, fs))) (hc : vwCl[ci]? = some q) (hq : q.1 = C)
    (hn : As.length = n) (hsize : ls.size = nL) (hstack : st0 = As.reverse ++ .ref a :: rest) (hWs : (rest.map fun v => v.category).sum ≤ 8) (hcl : cells + mc ≤ R.cells ∧ slots + ms ≤ R.slots) (hdg : decode cc pc = .ok (.invokevirtual index, 3))
    (kk : ∀ (ro : Option Value) (hp' : HP) (H1 : Heap) (locs1 : List Loc), P ro hp' → hV G hp' H1 → hIn A hp' → va_S A s.heap H1 locs1 → W p l e R s m args below meth c H1 locs1 (cells + mc) (slots + ms) Q (F0 m (pc + 3) ls (ro.toList ++ rest))) : W p l e R s m args below meth c H locs cells slots Q (F0 m pc ls st0) := by
  subst hq
  exact h_callW (va_runV (As := As) (rest := rest) S hM (cwV n S.2.2.2.2 hT hw rfl rfl hd hRm) (h_preVw hK0 hV0 hA hS he hc) rfl hn hsize hstack (lv_room hWs) hdg hcl) hS kk
theorem h_wrS {own : String} {index maxL nL fr lo : Nat} {y : MethodName} {bytes : ByteArray} {ret : Option FieldType} {Ts ws ws' : List Cond} {As : List Value} {P : Option Value → HP → Prop} (S : CallFix p m c cc nL s args Ts own) (hM : hWr l y ws fr lo mc ms G A hp As P) (n : Nat) (hT : GoodIn Ts (va_wsS own index y ws)) (hw : ws = Cond.code y bytes maxL ret :: ws')
    (hd : y.cls ≠ "java/lang/invoke/MethodHandle" ∧ y.cls ≠ "java/lang/invoke/VarHandle" ∧ (parseMethodDescriptor y.desc).map (fun d => d.parameters.length) = some n) (hRm : fr + 1 ≤ R.frames ∧ 8 + (maxL + 11) + lo ≤ R.locals) (hK0 : hK G s) (hV0 : hV G hp H) (hA : ∀ q : Nat, s.heap.size ≤ q → A q) (hS : va_S A s.heap H locs)
    (hn : As.length = n) (hsize : ls.size = nL) (hstack : st0 = As.reverse ++ rest) (hWs : (rest.map fun v => v.category).sum ≤ 8) (hcl : cells + mc ≤ R.cells ∧ slots + ms ≤ R.slots) (hdg : decode cc pc = .ok (.invokestatic index, 3))
    (kk : ∀ (ro : Option Value) (hp' : HP) (H1 : Heap) (locs1 : List Loc), P ro hp' → hV G hp' H1 → hIn A hp' → va_S A s.heap H1 locs1 → W p l e R s m args below meth c H1 locs1 (cells + mc) (slots + ms) Q (F0 m (pc + 3) ls (ro.toList ++ rest))) : W p l e R s m args below meth c H locs cells slots Q (F0 m pc ls st0) :=
  h_callW (va_runS (As := As) (rest := rest) S hM (va_cwS n S.2.2.2.2 hT hw rfl rfl hd hRm) (h_preSw hK0 hV0 hA hS) rfl hn hsize hstack (lv_room hWs) hdg hcl) hS kk
theorem h_wrI {own : String} {index maxL nL fr lo : Nat} {y : MethodName} {bytes : ByteArray} {Ts ws ws' : List Cond} {As : List Value} {P : Option Value → HP → Prop} (S : CallFix p m c cc nL s args Ts own) (hM : hWr l y ws fr lo mc ms G A hp (.ref a :: As) P) (n : Nat) (hT : GoodIn Ts ws) (hw : ws = Cond.code y bytes maxL none :: ws') (hini : (Cond.initialized y.cls).before args s = true) (hlk : (Cond.methodLink own index y).before args s = true) (hins : (Cond.instanceMethod y).before args s = true) (hy1 : y.name = "<init>")
    (hd : y.cls ≠ "java/lang/invoke/MethodHandle" ∧ y.cls ≠ "java/lang/invoke/VarHandle" ∧ (parseMethodDescriptor y.desc).map (fun d => d.parameters.length) = some n) (hRm : fr + 1 ≤ R.frames ∧ 8 + (maxL + 11) + lo ≤ R.locals) (hK0 : hK G s) (hV0 : hV G hp H) (hA : ∀ q : Nat, s.heap.size ≤ q → A q) (hS : va_S A s.heap H locs)
    (hn : As.length = n) (hsize : ls.size = nL) (hstack : st0 = As.reverse ++ .ref a :: rest) (hWs : (rest.map fun v => v.category).sum ≤ 8) (hcl : cells + mc ≤ R.cells ∧ slots + ms ≤ R.slots) (hdg : decode cc pc = .ok (.invokespecial index, 3))
    (kk : ∀ (ro : Option Value) (hp' : HP) (H1 : Heap) (locs1 : List Loc), P ro hp' → hV G hp' H1 → hIn A hp' → va_S A s.heap H1 locs1 → W p l e R s m args below meth c H1 locs1 (cells + mc) (slots + ms) Q (F0 m (pc + 3) ls (ro.toList ++ rest))) : W p l e R s m args below meth c H locs cells slots Q (F0 m pc ls st0) :=
  h_callW (va_runI (As := As) (rest := rest) S hM (cwI n S.2.2.2.2 hT hw rfl rfl hini hlk hins hy1 hd hRm) (h_preSw hK0 hV0 hA hS) rfl hn hsize hstack (lv_room hWs) hdg hcl) hS kk
theorem h_icmp_lt (hexec : p.tables.exec = Jvm.exec) (hb : c.code = cc) {a b : Nat} {off : Int} {tgt : Nat} (hdg : decode cc pc = .ok (.if_icmp .lt off, 3)) (ht : (pc : Int) + off = (tgt : Int)) (ha : a < 2 ^ 31) (hb2 : b < 2 ^ 31)
    (kt : a < b → W p l e R s m args below meth c H locs cells slots Q (F0 m tgt ls rest)) (kf : ¬ a < b → W p l e R s m args below meth c H locs cells slots Q (F0 m (pc + 3) ls rest)) : W p l e R s m args below meth c H locs cells slots Q (F0 m pc ls (.int (nI b) :: .int (nI a) :: rest)) :=
  lv_icmp_lt hexec hb hdg ht (fun h => kt ((nI_ltI ha hb2).mp h)) (fun h => kf (fun q => h ((nI_ltI ha hb2).mpr q)))
theorem h_icmp_ge (hexec : p.tables.exec = Jvm.exec) (hb : c.code = cc) {a b : Nat} {off : Int} {tgt : Nat} (hdg : decode cc pc = .ok (.if_icmp .ge off, 3)) (ht : (pc : Int) + off = (tgt : Int)) (ha : a < 2 ^ 31) (hb2 : b < 2 ^ 31)
    (kt : b ≤ a → W p l e R s m args below meth c H locs cells slots Q (F0 m tgt ls rest)) (kf : ¬ b ≤ a → W p l e R s m args below meth c H locs cells slots Q (F0 m (pc + 3) ls rest)) : W p l e R s m args below meth c H locs cells slots Q (F0 m pc ls (.int (nI b) :: .int (nI a) :: rest)) :=
  lv_icmp_ge hexec hb hdg ht (fun h => kt ((nI_leI hb2 ha).mp h)) (fun h => kf (fun q => h ((nI_leI hb2 ha).mpr q)))
theorem h_icmp_gt (hexec : p.tables.exec = Jvm.exec) (hb : c.code = cc) {a b : Nat} {off : Int} {tgt : Nat} (hdg : decode cc pc = .ok (.if_icmp .gt off, 3)) (ht : (pc : Int) + off = (tgt : Int)) (ha : a < 2 ^ 31) (hb2 : b < 2 ^ 31)
    (kt : b < a → W p l e R s m args below meth c H locs cells slots Q (F0 m tgt ls rest)) (kf : ¬ b < a → W p l e R s m args below meth c H locs cells slots Q (F0 m (pc + 3) ls rest)) : W p l e R s m args below meth c H locs cells slots Q (F0 m pc ls (.int (nI b) :: .int (nI a) :: rest)) :=
  lv_icmp_gt hexec hb hdg ht (fun h => kt ((nI_ltI hb2 ha).mp h)) (fun h => kf (fun q => h ((nI_ltI hb2 ha).mpr q)))
theorem h_icmp_le (hexec : p.tables.exec = Jvm.exec) (hb : c.code = cc) {a b : Nat} {off : Int} {tgt : Nat} (hdg : decode cc pc = .ok (.if_icmp .le off, 3)) (ht : (pc : Int) + off = (tgt : Int)) (ha : a < 2 ^ 31) (hb2 : b < 2 ^ 31)
    (kt : a ≤ b → W p l e R s m args below meth c H locs cells slots Q (F0 m tgt ls rest)) (kf : ¬ a ≤ b → W p l e R s m args below meth c H locs cells slots Q (F0 m (pc + 3) ls rest)) : W p l e R s m args below meth c H locs cells slots Q (F0 m pc ls (.int (nI b) :: .int (nI a) :: rest)) :=
  lv_icmp_le hexec hb hdg ht (fun h => kt ((nI_leI ha hb2).mp h)) (fun h => kf (fun q => h ((nI_leI ha hb2).mpr q)))
theorem h_icmp_eq (hexec : p.tables.exec = Jvm.exec) (hb : c.code = cc) {a b : Nat} {off : Int} {tgt : Nat} (hdg : decode cc pc = .ok (.if_icmp .eq off, 3)) (ht : (pc : Int) + off = (tgt : Int)) (ha : a < 2 ^ 31) (hb2 : b < 2 ^ 31)
    (kt : a = b → W p l e R s m args below meth c H locs cells slots Q (F0 m tgt ls rest)) (kf : ¬ a = b → W p l e R s m args below meth c H locs cells slots Q (F0 m (pc + 3) ls rest)) : W p l e R s m args below meth c H locs cells slots Q (F0 m pc ls (.int (nI b) :: .int (nI a) :: rest)) :=
  lv_icmp_eq hexec hb hdg ht (fun h => kt ((nI_eq ha hb2).mp h)) (fun h => kf (fun q => h ((nI_eq ha hb2).mpr q)))
theorem h_icmp_ne (hexec : p.tables.exec = Jvm.exec) (hb : c.code = cc) {a b : Nat} {off : Int} {tgt : Nat} (hdg : decode cc pc = .ok (.if_icmp .ne off, 3)) (ht : (pc : Int) + off = (tgt : Int)) (ha : a < 2 ^ 31) (hb2 : b < 2 ^ 31)
    (kt : ¬ a = b → W p l e R s m args below meth c H locs cells slots Q (F0 m tgt ls rest)) (kf : a = b → W p l e R s m args below meth c H locs cells slots Q (F0 m (pc + 3) ls rest)) : W p l e R s m args below meth c H locs cells slots Q (F0 m pc ls (.int (nI b) :: .int (nI a) :: rest)) :=
  lv_icmp_ne hexec hb hdg ht (fun h => kt (fun q => h ((nI_eq ha hb2).mpr q))) (fun h => kf ((nI_eq ha hb2).mp h))
theorem h_if_eq (hexec : p.tables.exec = Jvm.exec) (hb : c.code = cc) {a : Nat} {off : Int} {tgt : Nat} (hdg : decode cc pc = .ok (.ifCond .eq off, 3)) (ht : (pc : Int) + off = (tgt : Int)) (ha : a < 2 ^ 31)
    (kt : a = 0 → W p l e R s m args below meth c H locs cells slots Q (F0 m tgt ls rest)) (kf : ¬ a = 0 → W p l e R s m args below meth c H locs cells slots Q (F0 m (pc + 3) ls rest)) : W p l e R s m args below meth c H locs cells slots Q (F0 m pc ls (.int (nI a) :: rest)) :=
  lv_if_eq hexec hb hdg ht (fun h => kt ((nI_eq (b := 0) ha (by decide)).mp h)) (fun h => kf (fun q => h ((nI_eq (b := 0) ha (by decide)).mpr q)))
theorem h_if_ne (hexec : p.tables.exec = Jvm.exec) (hb : c.code = cc) {a : Nat} {off : Int} {tgt : Nat} (hdg : decode cc pc = .ok (.ifCond .ne off, 3)) (ht : (pc : Int) + off = (tgt : Int)) (ha : a < 2 ^ 31)
    (kt : ¬ a = 0 → W p l e R s m args below meth c H locs cells slots Q (F0 m tgt ls rest)) (kf : a = 0 → W p l e R s m args below meth c H locs cells slots Q (F0 m (pc + 3) ls rest)) : W p l e R s m args below meth c H locs cells slots Q (F0 m pc ls (.int (nI a) :: rest)) :=
  lv_if_ne hexec hb hdg ht (fun h => kt (fun q => h ((nI_eq (b := 0) ha (by decide)).mpr q))) (fun h => kf ((nI_eq (b := 0) ha (by decide)).mp h))
theorem h_if_lt (hexec : p.tables.exec = Jvm.exec) (hb : c.code = cc) {a : Nat} {off : Int} {tgt : Nat} (hdg : decode cc pc = .ok (.ifCond .lt off, 3)) (ht : (pc : Int) + off = (tgt : Int)) (ha : a < 2 ^ 31)
    (kf : W p l e R s m args below meth c H locs cells slots Q (F0 m (pc + 3) ls rest)) : W p l e R s m args below meth c H locs cells slots Q (F0 m pc ls (.int (nI a) :: rest)) :=
  lv_if_lt hexec hb hdg ht (fun h => absurd h (nI_pos ha)) (fun _ => kf)
theorem h_if_ge (hexec : p.tables.exec = Jvm.exec) (hb : c.code = cc) {a : Nat} {off : Int} {tgt : Nat} (hdg : decode cc pc = .ok (.ifCond .ge off, 3)) (ht : (pc : Int) + off = (tgt : Int)) (ha : a < 2 ^ 31)
    (kt : W p l e R s m args below meth c H locs cells slots Q (F0 m tgt ls rest)) : W p l e R s m args below meth c H locs cells slots Q (F0 m pc ls (.int (nI a) :: rest)) :=
  lv_if_ge hexec hb hdg ht (fun _ => kt) (fun h => absurd (nI_pos' ha) h)
theorem h_if_le (hexec : p.tables.exec = Jvm.exec) (hb : c.code = cc) {a : Nat} {off : Int} {tgt : Nat} (hdg : decode cc pc = .ok (.ifCond .le off, 3)) (ht : (pc : Int) + off = (tgt : Int)) (ha : a < 2 ^ 31)
    (kt : a = 0 → W p l e R s m args below meth c H locs cells slots Q (F0 m tgt ls rest)) (kf : ¬ a = 0 → W p l e R s m args below meth c H locs cells slots Q (F0 m (pc + 3) ls rest)) : W p l e R s m args below meth c H locs cells slots Q (F0 m pc ls (.int (nI a) :: rest)) :=
  lv_if_le hexec hb hdg ht (fun h => kt (by have := (nI_leI (b := 0) ha (by decide)).mp h; omega)) (fun h => kf (fun q => h (by rw [q]; decide)))
theorem h_if_gt (hexec : p.tables.exec = Jvm.exec) (hb : c.code = cc) {a : Nat} {off : Int} {tgt : Nat} (hdg : decode cc pc = .ok (.ifCond .gt off, 3)) (ht : (pc : Int) + off = (tgt : Int)) (ha : a < 2 ^ 31)
    (kt : ¬ a = 0 → W p l e R s m args below meth c H locs cells slots Q (F0 m tgt ls rest)) (kf : a = 0 → W p l e R s m args below meth c H locs cells slots Q (F0 m (pc + 3) ls rest)) : W p l e R s m args below meth c H locs cells slots Q (F0 m pc ls (.int (nI a) :: rest)) :=
  lv_if_gt hexec hb hdg ht (fun h => kt (fun q => absurd h (by rw [q]; decide))) (fun h => kf (by
    rcases Nat.eq_zero_or_pos a with q | q
    · exact q
    · exact absurd (nI_lt q ha) h))
theorem h_if_eqB (hexec : p.tables.exec = Jvm.exec) (hb : c.code = cc) {b : Bool} {off : Int} {tgt : Nat} (hdg : decode cc pc = .ok (.ifCond .eq off, 3)) (ht : (pc : Int) + off = (tgt : Int))
    (kt : b = false → W p l e R s m args below meth c H locs cells slots Q (F0 m tgt ls rest)) (kf : b = true → W p l e R s m args below meth c H locs cells slots Q (F0 m (pc + 3) ls rest)) : W p l e R s m args below meth c H locs cells slots Q (F0 m pc ls (.int (bI b) :: rest)) :=
  lv_if_eq hexec hb hdg ht (fun h => kt (by cases b; rfl; exact absurd h (by decide))) (fun h => kf (by cases b; exact absurd rfl h; rfl))
theorem h_if_neB (hexec : p.tables.exec = Jvm.exec) (hb : c.code = cc) {b : Bool} {off : Int} {tgt : Nat} (hdg : decode cc pc = .ok (.ifCond .ne off, 3)) (ht : (pc : Int) + off = (tgt : Int))
    (kt : b = true → W p l e R s m args below meth c H locs cells slots Q (F0 m tgt ls rest)) (kf : b = false → W p l e R s m args below meth c H locs cells slots Q (F0 m (pc + 3) ls rest)) : W p l e R s m args below meth c H locs cells slots Q (F0 m pc ls (.int (bI b) :: rest)) :=
  lv_if_ne hexec hb hdg ht (fun h => kt (by cases b; exact absurd rfl h; rfl)) (fun h => kf (by cases b; rfl; exact absurd h (by decide)))
theorem h_iaddN (hexec : p.tables.exec = Jvm.exec) (hb : c.code = cc) {a b : Nat} (hdg : decode cc pc = .ok (.iadd, 1))
    (k : W p l e R s m args below meth c H locs cells slots Q (F0 m (pc + 1) ls (.int (nI (a + b)) :: rest))) : W p l e R s m args below meth c H locs cells slots Q (F0 m pc ls (.int (nI b) :: .int (nI a) :: rest)) :=
  lv_iadd hexec hb hdg (by rw [nI_add]; exact k)
theorem h_isubN (hexec : p.tables.exec = Jvm.exec) (hb : c.code = cc) {a b : Nat} (h : b ≤ a) (hdg : decode cc pc = .ok (.isub, 1))
    (k : W p l e R s m args below meth c H locs cells slots Q (F0 m (pc + 1) ls (.int (nI (a - b)) :: rest))) : W p l e R s m args below meth c H locs cells slots Q (F0 m pc ls (.int (nI b) :: .int (nI a) :: rest)) :=
  lv_isub hexec hb hdg (by rw [pk_sub h]; exact k)
theorem h_imulN (hexec : p.tables.exec = Jvm.exec) (hb : c.code = cc) {a b : Nat} (hdg : decode cc pc = .ok (.imul, 1))
    (k : W p l e R s m args below meth c H locs cells slots Q (F0 m (pc + 1) ls (.int (nI (a * b)) :: rest))) : W p l e R s m args below meth c H locs cells slots Q (F0 m pc ls (.int (nI b) :: .int (nI a) :: rest)) :=
  lv_imul hexec hb hdg (by rw [pk_mul]; exact k)
theorem h_iremN (hexec : p.tables.exec = Jvm.exec) (hb : c.code = cc) {a d : Nat} (ha : a < 2 ^ 31) (h0 : 0 < d) (hd : d < 2 ^ 31) (hdg : decode cc pc = .ok (.irem, 1))
    (k : W p l e R s m args below meth c H locs cells slots Q (F0 m (pc + 1) ls (.int (nI (a % d)) :: rest))) : W p l e R s m args below meth c H locs cells slots Q (F0 m pc ls (.int (nI d) :: .int (nI a) :: rest)) :=
  lv_irem hexec hb hdg (nI_ne0 h0 hd) (by rw [pk_rem ha h0 hd]; exact k)
/-- a counting loop at one place of the code; the heap stays -/
theorem h_loop {Wf : Array Slot → Prop} {nL : Nat} (N : Nat) (L : Nat → List (Nat × Value)) (I : Nat → Prop) (hs : ∀ i : Nat, i ≤ N → I i → (i < N → I (i + 1) → ∀ ls : Array Slot, lv_has ls nL (L (i + 1)) → Wf ls) → ∀ ls : Array Slot, lv_has ls nL (L i) → Wf ls) :
    ∀ i : Nat, i ≤ N → I i → ∀ ls : Array Slot, lv_has ls nL (L i) → Wf ls := by
  have key : ∀ k i : Nat, i + k = N → I i → ∀ ls : Array Slot, lv_has ls nL (L i) → Wf ls := by
    intro k
    induction k with
    | zero => intro i hk hI; exact hs i (by omega) hI (fun h => absurd h (by omega))
    | succ k ih => intro i hk hI; exact hs i (by omega) hI (fun _ h => ih (i + 1) (by omega) h)
  intro i hi hI
  exact key (N - i) i (by omega) hI
/-- the same, with a heap that changes -/
theorem h_loopW {Wf : Nat → Heap → List Loc → Array Slot → Prop} {nL : Nat} (N : Nat) (L : Nat → List (Nat × Value)) (I : Nat → HP → Prop)
    (hs : ∀ i : Nat, i ≤ N → ∀ (hp : HP) (H : Heap) (locs : List Loc), I i hp → hV G hp H → hIn A hp → va_S A H0 H locs → (∀ (hp : HP) (H : Heap) (locs : List Loc), i < N → I (i + 1) hp → hV G hp H → hIn A hp → va_S A H0 H locs → ∀ ls : Array Slot, lv_has ls nL (L (i + 1)) → Wf (i + 1) H locs ls) → ∀ ls : Array Slot, lv_has ls nL (L i) → Wf i H locs ls) :
    ∀ i : Nat, i ≤ N → ∀ (hp : HP) (H : Heap) (locs : List Loc), I i hp → hV G hp H → hIn A hp → va_S A H0 H locs → ∀ ls : Array Slot, lv_has ls nL (L i) → Wf i H locs ls := by
  have key : ∀ k i : Nat, i + k = N → ∀ (hp : HP) (H : Heap) (locs : List Loc), I i hp → hV G hp H → hIn A hp → va_S A H0 H locs → ∀ ls : Array Slot, lv_has ls nL (L i) → Wf i H locs ls := by
    intro k
    induction k with
    | zero => intro i hk hp H locs h1 h2 h3 h4; exact hs i (by omega) hp H locs h1 h2 h3 h4 (fun _ _ _ h => absurd h (by omega))
    | succ k ih => intro i hk hp H locs h1 h2 h3 h4; exact hs i (by omega) hp H locs h1 h2 h3 h4 (fun hp H locs _ a b c d => ih (i + 1) (by omega) hp H locs a b c d)
  intro i hi
  exact key (N - i) i (by omega)
theorem h_iretR {v w : Int32} (hexec : p.tables.exec = Jvm.exec) (hb : c.code = cc) (hr : meth.sig.returnType = some .int) (hlocks : meth.locks = false) (hvw : v = w) {free : Addr → Prop} (hdg : decode cc pc = .ok (.ireturn, 1)) : W p l e R s m args below meth c s.heap [] cells slots (MQ below (hR (some (.int w))) args s cells slots free) (F0 m pc ls [.int v]) := by
  subst hvw
  exact W.iret hexec hb hr (fun t ht _ => ⟨rfl, ht⟩) (fun q h => absurd h List.not_mem_nil) hdg hlocks
theorem h_zretR {v : Int32} {b : Bool} (hexec : p.tables.exec = Jvm.exec) (hb : c.code = cc) (hr : meth.sig.returnType = some .boolean) (hlocks : meth.locks = false) (hvw : v = bI b) {free : Addr → Prop} (hdg : decode cc pc = .ok (.ireturn, 1)) : W p l e R s m args below meth c s.heap [] cells slots (MQ below (hR (some (.int (bI b)))) args s cells slots free) (F0 m pc ls [.int v]) := by
  subst hvw
  exact W.zret hexec hb hr (narrow_bI b) (fun t ht _ => ⟨rfl, ht⟩) (fun q h => absurd h List.not_mem_nil) hdg hlocks
theorem h_vretR (hexec : p.tables.exec = Jvm.exec) (hb : c.code = cc) (hr : meth.sig.returnType = none) (hlocks : meth.locks = false) {free : Addr → Prop} (hdg : decode cc pc = .ok (.return_, 1)) : W p l e R s m args below meth c s.heap [] cells slots (MQ below (hR none) args s cells slots free) (F0 m pc ls []) :=
  W.vret hexec hb hr (fun t ht _ => ⟨rfl, ht⟩) (fun q h => absurd h List.not_mem_nil) hdg hlocks
theorem h_aretR {v : Value} {rt : FieldType} {o : Option Nat} (hexec : p.tables.exec = Jvm.exec) (hb : c.code = cc) (hr : meth.sig.returnType = some rt) (hrt : (∃ n, rt = .object n) ∨ ∃ t, rt = .array t) (hlocks : meth.locks = false) (hvw : v = va_rf o) {free : Addr → Prop} (hdg : decode cc pc = .ok (.areturn, 1)) : W p l e R s m args below meth c s.heap [] cells slots (MQ below (hR (some (va_rf o))) args s cells slots free) (F0 m pc ls [v]) := by
  subst hvw
  exact W.aret hexec hb hr hrt (va_rf_or o) (fun t ht _ => ⟨rfl, ht⟩) (fun q h => absurd h List.not_mem_nil) hdg hlocks
theorem h_lretR {v w : Int64} (hexec : p.tables.exec = Jvm.exec) (hb : c.code = cc) (hr : meth.sig.returnType = some .long) (hlocks : meth.locks = false) (hvw : v = w) {free : Addr → Prop} (hdg : decode cc pc = .ok (.lreturn, 1)) : W p l e R s m args below meth c s.heap [] cells slots (MQ below (hR (some (.long w))) args s cells slots free) (F0 m pc ls [.long v]) := by
  subst hvw
  exact W.lret hexec hb hr (fun t ht _ => ⟨rfl, ht⟩) (fun q h => absurd h List.not_mem_nil) hdg hlocks
/-- a writing method's ends -/
theorem h_qW {P : Option Value → HP → Prop} {ro : Option Value} {hp' : HP} (hP : P ro hp') (hV1 : hV G hp' H) (hA1 : hIn A hp') (hS : va_S A s.heap H locs) : ∀ t : State, t.heap = H → s.WarmedH t.vm → hW G A P args s (.returned ro) t :=
  fun t ht _ => ⟨⟨ro, hp', rfl, hP, by rw [ht]; exact hV1, hA1⟩, hS.F ht⟩
end HB
end
