section
-- ===== PART A: goes FIRST, ahead of the names: the tables' words, and 'selects' of the private methods out of them =====
/-- a private method of a class that the tables say can be made, by its rows of tables_1 -/
def lw_okq (q : MethodName × Nat) : Prop := (q.1.cls ≠ "java/lang/invoke/MethodHandle" ∧ q.1.cls ≠ "java/lang/invoke/VarHandle") ∧ Cond.instantiable q.1.cls q.2 ∈ tables_1 ∧ Cond.privateMethod q.1 ∈ tables_1 ∧ Cond.instanceMethod q.1 ∈ tables_1
theorem lw_p0 : lw_okq (⟨"SlipLevels", "bindFrom", "(I)I"⟩, 5) := ⟨⟨by decide +kernel, by decide +kernel⟩, List.mem_of_getElem? (i := 15) (by decide +kernel), List.mem_of_getElem? (i := 101) (by decide +kernel), List.mem_of_getElem? (i := 102) (by decide +kernel)⟩
theorem lw_p1 : lw_okq (⟨"SlipLevels$Binder", "rowAt", "(II)LSlipLevels$Slips;"⟩, 5) := ⟨⟨by decide +kernel, by decide +kernel⟩, List.mem_of_getElem? (i := 56) (by decide +kernel), List.mem_of_getElem? (i := 121) (by decide +kernel), List.mem_of_getElem? (i := 122) (by decide +kernel)⟩
theorem lw_p2 : lw_okq (⟨"SlipLevels$Binder", "nothingBehind", "(I)Z"⟩, 5) := ⟨⟨by decide +kernel, by decide +kernel⟩, List.mem_of_getElem? (i := 56) (by decide +kernel), List.mem_of_getElem? (i := 142) (by decide +kernel), List.mem_of_getElem? (i := 143) (by decide +kernel)⟩
theorem lw_p3 : lw_okq (⟨"SlipLevels$Binder", "gather", "(IZ)V"⟩, 5) := ⟨⟨by decide +kernel, by decide +kernel⟩, List.mem_of_getElem? (i := 56) (by decide +kernel), List.mem_of_getElem? (i := 146) (by decide +kernel), List.mem_of_getElem? (i := 147) (by decide +kernel)⟩
theorem lw_p4 : lw_okq (⟨"SlipLevels$Binder", "firstWordIn", "(II)I"⟩, 5) := ⟨⟨by decide +kernel, by decide +kernel⟩, List.mem_of_getElem? (i := 56) (by decide +kernel), List.mem_of_getElem? (i := 151) (by decide +kernel), List.mem_of_getElem? (i := 152) (by decide +kernel)⟩
theorem lw_p5 : lw_okq (⟨"SlipLevels", "tryMerging", "(I)V"⟩, 5) := ⟨⟨by decide +kernel, by decide +kernel⟩, List.mem_of_getElem? (i := 15) (by decide +kernel), List.mem_of_getElem? (i := 180) (by decide +kernel), List.mem_of_getElem? (i := 181) (by decide +kernel)⟩
theorem lw_p6 : lw_okq (⟨"SlipLevels", "allDetoursIn", "(LSlipLevels$Binder;)I"⟩, 5) := ⟨⟨by decide +kernel, by decide +kernel⟩, List.mem_of_getElem? (i := 15) (by decide +kernel), List.mem_of_getElem? (i := 189) (by decide +kernel), List.mem_of_getElem? (i := 190) (by decide +kernel)⟩
theorem lw_p7 : lw_okq (⟨"SlipLevels", "detoursIn", "(LSlipLevels$Binder;I)I"⟩, 5) := ⟨⟨by decide +kernel, by decide +kernel⟩, List.mem_of_getElem? (i := 15) (by decide +kernel), List.mem_of_getElem? (i := 193) (by decide +kernel), List.mem_of_getElem? (i := 194) (by decide +kernel)⟩
theorem lw_p8 : lw_okq (⟨"SlipLevels", "tally", "(I)I"⟩, 5) := ⟨⟨by decide +kernel, by decide +kernel⟩, List.mem_of_getElem? (i := 15) (by decide +kernel), List.mem_of_getElem? (i := 222) (by decide +kernel), List.mem_of_getElem? (i := 223) (by decide +kernel)⟩
theorem lw_p9 : lw_okq (⟨"SlipLevels", "wordsStanding", "()I"⟩, 5) := ⟨⟨by decide +kernel, by decide +kernel⟩, List.mem_of_getElem? (i := 15) (by decide +kernel), List.mem_of_getElem? (i := 234) (by decide +kernel), List.mem_of_getElem? (i := 235) (by decide +kernel)⟩
theorem lw_p10 : lw_okq (⟨"SlipLevels", "wordOf", "(I)I"⟩, 5) := ⟨⟨by decide +kernel, by decide +kernel⟩, List.mem_of_getElem? (i := 15) (by decide +kernel), List.mem_of_getElem? (i := 238) (by decide +kernel), List.mem_of_getElem? (i := 239) (by decide +kernel)⟩
theorem lw_p11 : lw_okq (⟨"SlipLevels", "digestLevel", "(JI)J"⟩, 5) := ⟨⟨by decide +kernel, by decide +kernel⟩, List.mem_of_getElem? (i := 15) (by decide +kernel), List.mem_of_getElem? (i := 258) (by decide +kernel), List.mem_of_getElem? (i := 259) (by decide +kernel)⟩
theorem lw_p12 : lw_okq (⟨"SlipLevels", "standingIn", "(II)I"⟩, 5) := ⟨⟨by decide +kernel, by decide +kernel⟩, List.mem_of_getElem? (i := 15) (by decide +kernel), List.mem_of_getElem? (i := 263) (by decide +kernel), List.mem_of_getElem? (i := 264) (by decide +kernel)⟩
theorem lw_p13 : lw_okq (⟨"java/lang/Throwable", "fillInStackTrace", "(I)Ljava/lang/Throwable;"⟩, 6) := ⟨⟨by decide +kernel, by decide +kernel⟩, List.mem_of_getElem? (i := 325) (by decide +kernel), List.mem_of_getElem? (i := 323) (by decide +kernel), List.mem_of_getElem? (i := 324) (by decide +kernel)⟩
theorem lw_p14 : lw_okq (⟨"SlipLevelsModel", "put", "(II)Z"⟩, 4) := ⟨⟨by decide +kernel, by decide +kernel⟩, List.mem_of_getElem? (i := 509) (by decide +kernel), List.mem_of_getElem? (i := 549) (by decide +kernel), List.mem_of_getElem? (i := 550) (by decide +kernel)⟩
theorem lw_p15 : lw_okq (⟨"SlipLevelsModel", "bound", "()I"⟩, 4) := ⟨⟨by decide +kernel, by decide +kernel⟩, List.mem_of_getElem? (i := 509) (by decide +kernel), List.mem_of_getElem? (i := 556) (by decide +kernel), List.mem_of_getElem? (i := 557) (by decide +kernel)⟩
def lw_privs_1 : List (MethodName × Nat) := [(⟨"SlipLevels", "bindFrom", "(I)I"⟩, 5), (⟨"SlipLevels$Binder", "rowAt", "(II)LSlipLevels$Slips;"⟩, 5), (⟨"SlipLevels$Binder", "nothingBehind", "(I)Z"⟩, 5), (⟨"SlipLevels$Binder", "gather", "(IZ)V"⟩, 5), (⟨"SlipLevels$Binder", "firstWordIn", "(II)I"⟩, 5), (⟨"SlipLevels", "tryMerging", "(I)V"⟩, 5), (⟨"SlipLevels", "allDetoursIn", "(LSlipLevels$Binder;)I"⟩, 5), (⟨"SlipLevels", "detoursIn", "(LSlipLevels$Binder;I)I"⟩, 5), (⟨"SlipLevels", "tally", "(I)I"⟩, 5), (⟨"SlipLevels", "wordsStanding", "()I"⟩, 5), (⟨"SlipLevels", "wordOf", "(I)I"⟩, 5), (⟨"SlipLevels", "digestLevel", "(JI)J"⟩, 5), (⟨"SlipLevels", "standingIn", "(II)I"⟩, 5), (⟨"java/lang/Throwable", "fillInStackTrace", "(I)Ljava/lang/Throwable;"⟩, 6), (⟨"SlipLevelsModel", "put", "(II)Z"⟩, 4), (⟨"SlipLevelsModel", "bound", "()I"⟩, 4)]
theorem lw_r1 : ∀ q ∈ lw_privs_1, lw_okq q := List.forall_mem_cons.mpr ⟨lw_p0, List.forall_mem_cons.mpr ⟨lw_p1, List.forall_mem_cons.mpr ⟨lw_p2, List.forall_mem_cons.mpr ⟨lw_p3, List.forall_mem_cons.mpr ⟨lw_p4, List.forall_mem_cons.mpr ⟨lw_p5, List.forall_mem_cons.mpr ⟨lw_p6, List.forall_mem_cons.mpr ⟨lw_p7, List.forall_mem_cons.mpr ⟨lw_p8, List.forall_mem_cons.mpr ⟨lw_p9, List.forall_mem_cons.mpr ⟨lw_p10, List.forall_mem_cons.mpr ⟨lw_p11, List.forall_mem_cons.mpr ⟨lw_p12, List.forall_mem_cons.mpr ⟨lw_p13, List.forall_mem_cons.mpr ⟨lw_p14, List.forall_mem_cons.mpr ⟨lw_p15, fun _ h => absurd h List.not_mem_nil⟩⟩⟩⟩⟩⟩⟩⟩⟩⟩⟩⟩⟩⟩⟩⟩
theorem lw_p16 : lw_okq (⟨"SlipLevelsModel", "come", "(I[I)V"⟩, 4) := ⟨⟨by decide +kernel, by decide +kernel⟩, List.mem_of_getElem? (i := 509) (by decide +kernel), List.mem_of_getElem? (i := 560) (by decide +kernel), List.mem_of_getElem? (i := 561) (by decide +kernel)⟩
theorem lw_p17 : lw_okq (⟨"SlipLevelsModel", "settle", "()V"⟩, 4) := ⟨⟨by decide +kernel, by decide +kernel⟩, List.mem_of_getElem? (i := 509) (by decide +kernel), List.mem_of_getElem? (i := 565) (by decide +kernel), List.mem_of_getElem? (i := 566) (by decide +kernel)⟩
theorem lw_p18 : lw_okq (⟨"SlipLevelsModel", "mergeOne", "(I)V"⟩, 4) := ⟨⟨by decide +kernel, by decide +kernel⟩, List.mem_of_getElem? (i := 509) (by decide +kernel), List.mem_of_getElem? (i := 569) (by decide +kernel), List.mem_of_getElem? (i := 570) (by decide +kernel)⟩
theorem lw_p19 : lw_okq (⟨"SlipLevelsModel", "fail", "(I)I"⟩, 4) := ⟨⟨by decide +kernel, by decide +kernel⟩, List.mem_of_getElem? (i := 509) (by decide +kernel), List.mem_of_getElem? (i := 589) (by decide +kernel), List.mem_of_getElem? (i := 590) (by decide +kernel)⟩
theorem lw_p20 : lw_okq (⟨"SlipLevelsModel", "opened", "(I)I"⟩, 4) := ⟨⟨by decide +kernel, by decide +kernel⟩, List.mem_of_getElem? (i := 509) (by decide +kernel), List.mem_of_getElem? (i := 601) (by decide +kernel), List.mem_of_getElem? (i := 602) (by decide +kernel)⟩
theorem lw_p21 : lw_okq (⟨"SlipLevelsModel", "word", "(I)I"⟩, 4) := ⟨⟨by decide +kernel, by decide +kernel⟩, List.mem_of_getElem? (i := 509) (by decide +kernel), List.mem_of_getElem? (i := 611) (by decide +kernel), List.mem_of_getElem? (i := 612) (by decide +kernel)⟩
theorem lw_p22 : lw_okq (⟨"SlipLevelsModel", "said", "(I)I"⟩, 4) := ⟨⟨by decide +kernel, by decide +kernel⟩, List.mem_of_getElem? (i := 509) (by decide +kernel), List.mem_of_getElem? (i := 615) (by decide +kernel), List.mem_of_getElem? (i := 616) (by decide +kernel)⟩
theorem lw_p23 : lw_okq (⟨"SlipLevelsModel", "isRun", "(II)Z"⟩, 4) := ⟨⟨by decide +kernel, by decide +kernel⟩, List.mem_of_getElem? (i := 509) (by decide +kernel), List.mem_of_getElem? (i := 636) (by decide +kernel), List.mem_of_getElem? (i := 637) (by decide +kernel)⟩
theorem lw_p24 : lw_okq (⟨"SlipLevelsModel", "runTold", "(III)I"⟩, 4) := ⟨⟨by decide +kernel, by decide +kernel⟩, List.mem_of_getElem? (i := 509) (by decide +kernel), List.mem_of_getElem? (i := 640) (by decide +kernel), List.mem_of_getElem? (i := 641) (by decide +kernel)⟩
theorem lw_p25 : lw_okq (⟨"SlipLevelsModel", "standing", "(II)I"⟩, 4) := ⟨⟨by decide +kernel, by decide +kernel⟩, List.mem_of_getElem? (i := 509) (by decide +kernel), List.mem_of_getElem? (i := 647) (by decide +kernel), List.mem_of_getElem? (i := 648) (by decide +kernel)⟩
theorem lw_p26 : lw_okq (⟨"SlipLevelsModel", "levelTold", "(II)I"⟩, 4) := ⟨⟨by decide +kernel, by decide +kernel⟩, List.mem_of_getElem? (i := 509) (by decide +kernel), List.mem_of_getElem? (i := 666) (by decide +kernel), List.mem_of_getElem? (i := 667) (by decide +kernel)⟩
theorem lw_p27 : lw_okq (⟨"SlipLevelsModel", "counted", "(I)I"⟩, 4) := ⟨⟨by decide +kernel, by decide +kernel⟩, List.mem_of_getElem? (i := 509) (by decide +kernel), List.mem_of_getElem? (i := 674) (by decide +kernel), List.mem_of_getElem? (i := 675) (by decide +kernel)⟩
theorem lw_p28 : lw_okq (⟨"SlipLevelsModel", "slips", "()I"⟩, 4) := ⟨⟨by decide +kernel, by decide +kernel⟩, List.mem_of_getElem? (i := 509) (by decide +kernel), List.mem_of_getElem? (i := 678) (by decide +kernel), List.mem_of_getElem? (i := 679) (by decide +kernel)⟩
theorem lw_p29 : lw_okq (⟨"SlipLevelsModel", "tried", "(IZ)I"⟩, 4) := ⟨⟨by decide +kernel, by decide +kernel⟩, List.mem_of_getElem? (i := 509) (by decide +kernel), List.mem_of_getElem? (i := 686) (by decide +kernel), List.mem_of_getElem? (i := 687) (by decide +kernel)⟩
theorem lw_p30 : lw_okq (⟨"SlipLevelsModel", "allOpened", "()I"⟩, 4) := ⟨⟨by decide +kernel, by decide +kernel⟩, List.mem_of_getElem? (i := 509) (by decide +kernel), List.mem_of_getElem? (i := 701) (by decide +kernel), List.mem_of_getElem? (i := 702) (by decide +kernel)⟩
def lw_privs_2 : List (MethodName × Nat) := [(⟨"SlipLevelsModel", "come", "(I[I)V"⟩, 4), (⟨"SlipLevelsModel", "settle", "()V"⟩, 4), (⟨"SlipLevelsModel", "mergeOne", "(I)V"⟩, 4), (⟨"SlipLevelsModel", "fail", "(I)I"⟩, 4), (⟨"SlipLevelsModel", "opened", "(I)I"⟩, 4), (⟨"SlipLevelsModel", "word", "(I)I"⟩, 4), (⟨"SlipLevelsModel", "said", "(I)I"⟩, 4), (⟨"SlipLevelsModel", "isRun", "(II)Z"⟩, 4), (⟨"SlipLevelsModel", "runTold", "(III)I"⟩, 4), (⟨"SlipLevelsModel", "standing", "(II)I"⟩, 4), (⟨"SlipLevelsModel", "levelTold", "(II)I"⟩, 4), (⟨"SlipLevelsModel", "counted", "(I)I"⟩, 4), (⟨"SlipLevelsModel", "slips", "()I"⟩, 4), (⟨"SlipLevelsModel", "tried", "(IZ)I"⟩, 4), (⟨"SlipLevelsModel", "allOpened", "()I"⟩, 4)]
theorem lw_r2 : ∀ q ∈ lw_privs_2, lw_okq q := List.forall_mem_cons.mpr ⟨lw_p16, List.forall_mem_cons.mpr ⟨lw_p17, List.forall_mem_cons.mpr ⟨lw_p18, List.forall_mem_cons.mpr ⟨lw_p19, List.forall_mem_cons.mpr ⟨lw_p20, List.forall_mem_cons.mpr ⟨lw_p21, List.forall_mem_cons.mpr ⟨lw_p22, List.forall_mem_cons.mpr ⟨lw_p23, List.forall_mem_cons.mpr ⟨lw_p24, List.forall_mem_cons.mpr ⟨lw_p25, List.forall_mem_cons.mpr ⟨lw_p26, List.forall_mem_cons.mpr ⟨lw_p27, List.forall_mem_cons.mpr ⟨lw_p28, List.forall_mem_cons.mpr ⟨lw_p29, List.forall_mem_cons.mpr ⟨lw_p30, fun _ h => absurd h List.not_mem_nil⟩⟩⟩⟩⟩⟩⟩⟩⟩⟩⟩⟩⟩⟩⟩
def lw_privs : List (MethodName × Nat) := lw_privs_1 ++ (lw_privs_2)
def lw_tbl : List Cond := k2_sels lw_privs ++ tables_1
theorem lw_privs_ok : ∀ q ∈ lw_privs, lw_okq q := by
  show ∀ q ∈ lw_privs_1 ++ (lw_privs_2), lw_okq q
  exact List.forall_mem_append.mpr ⟨lw_r1, lw_r2⟩
/-- the streams that the claim lets the run draw from -/
abbrev lw_cs : List Choice := [Jvm.Choice.named "NaN.bits"]
theorem lw_bits : nanBits ∈ lw_cs := by first | decide | exact List.mem_cons_self | simp [lw_cs, nanBits]
-- ===== end of PART A; then your names; then what follows =====
/-! ===== BEGIN words of one list among another's, by their places ===== -/
theorem goodIn_r {big : List Cond} (ws : List Cond) (ps : List Nat) (hp : ws = ps.filterMap (fun i => big[i]?)) (h : ws.all goodWord = true) : GoodIn big ws := by
  intro w hw
  have h1 := List.all_eq_true.mp h w hw
  rw [hp] at hw
  obtain ⟨i, -, hi⟩ := List.mem_filterMap.mp hw
  have hm : w ∈ big := by first | exact List.mem_of_getElem? hi | exact List.getElem?_mem hi
  exact ⟨hm, good_of_word h1⟩
theorem goodIn_app {big a b : List Cond} (ha : GoodIn big a) (hb : GoodIn big b) : GoodIn big (a ++ b) := fun w h => (List.mem_append.mp h).elim (ha w) (hb w)
theorem goodIn_ca {big a b : List Cond} {c : Cond} (ha : GoodIn big (c :: a)) (hb : GoodIn big b) : GoodIn big (c :: (a ++ b)) := fun w h => (List.mem_cons.mp h).elim (fun e => ha w (List.mem_cons.mpr (Or.inl e))) (fun h => (List.mem_append.mp h).elim (fun h => ha w (List.mem_cons.mpr (Or.inr h))) (hb w))
theorem goodIn_sub {big ws : List Cond} (hm : ∀ w ∈ ws, w ∈ big) (h : ws.all goodWord = true) : GoodIn big ws := fun w hw => ⟨hm w hw, good_of_word (List.all_eq_true.mp h w hw)⟩
/-! ===== END ===== -/

/-! ===== BEGIN exceptions that leave a method, and their catching by the caller (launches without stack traces) ===== -/
section VXA
/-! The laws vx_back, vx_callV, vx_callS, vx_callSW, vx_throw0, vx_throwS follow proofs of the library, with one case more: JvmDerived/Free/Laws.lean (Back.of_free), Shelf42/LK1.lean (callV, callS), Shelf/KitTraced.lean (throwNew0V, throwNewS). -/
/-- where a method has thrown q: the class by its name, the cell, what was written, the world -/
def vx_T (XC : String → State → State → Prop) (st : State) (q : Addr) (t : State) (mc ms : Nat) (free : Addr → Prop) : Prop :=
  ∃ (E : String) (ce : Cell) (L : List Loc), XC E st t ∧ t.heap[q]? = some ce ∧ ce.vm = .none ∧ st.vm.findClass E = some ce.cls ∧ st.WarmedH t.vm ∧ st.sameButNew ({ t with vm := st.vm } : State) L mc ms ∧ ∀ z ∈ L, free z.base
def vx_Q (Qc : Array Value → State → Outcome → State → Prop) (XC : String → State → State → Prop) (mc ms : Nat) (free : Addr → Prop) : Array Value → State → Outcome → State → Prop := fun a st o t =>
  (Qc a st o t ∧ ∃ L, FrameEnd st o t L mc ms ∧ ∀ q ∈ L, free q.base) ∨ ∃ q, o = .threw q ∧ vx_T XC st q t mc ms free
/-- a callee that returns or throws -/
def vx_Met (l : Launch) (y : MethodName) (ws : List Cond) (rm : Room) (Pc : Array Value → State → Prop) (Qc : Array Value → State → Outcome → State → Prop) (XC : String → State → State → Prop) (mc ms : Nat) (free : Addr → Prop) : Prop :=
  MetFree l y (headSpec ws rm) Pc (fun _ _ _ _ _ => True) (vx_Q Qc XC mc ms free)
def vx_Post (XC : String → State → State → Prop) (mc ms : Nat) (free : Addr → Prop) : Pt → Array Value → Addr → Pt → Prop := fun A a q B =>
  ∃ (g : JFrame) (mk : MethodId) (t : State) (L : List Loc) (E : String) (ce : Cell), B.U.heap = t.heap ∧ B.U.vm = t.vm ∧ XC E (A.U.calling g mk a) t ∧ t.heap[q]? = some ce ∧ ce.vm = .none ∧ A.U.vm.findClass E = some ce.cls ∧ B.locs = A.locs ++ L ∧ (∀ z ∈ L, free z.base) ∧ B.cells = A.cells + mc ∧ B.slots = A.slots + ms
def vx_Back (l : Launch) (R : Room) (p : Program) (e : Env) (below : List Frame) (s : State) (sargs : Array Value) (y : MethodName) (len W9 : Nat)
    (Pre : Pt → Array Value → Prop) (Post : Pt → Array Value → Option Value → Pt → Prop) (PostX : Pt → Array Value → Addr → Pt → Prop) : Prop :=
  ∀ (m : MethodId) (meth : Method) (c : Code) (A : Pt) (g : JFrame) (ig : Instr) (mk : MethodId) (a : Array Value),
    Stand p l e R s m sargs below meth c A.U A.locs A.cells A.slots → g.method = m → g.locals.size = c.maxLocals → decode c.code g.pc = .ok (ig, len) →
    2 * g.monitorRoom + (g.stack.map fun v => v.category).sum ≤ W9 → A.U.methodNamed? y = some mk → Pre A a →
    (∃ (v : Option Value) (B : Pt), Stand p l e R s m sargs below meth c B.U B.locs B.cells B.slots ∧ Post A a v B ∧
      Steps p.tables e below (doInvoke e (A.U.setTop g) [] mk a).1 (B.U.setTop { g with pc := g.pc + len, stack := v.toList ++ g.stack })) ∨
    (∃ (q : Addr) (B : Pt), Stand p l e R s m sargs below meth c B.U B.locs B.cells B.slots ∧ PostX A a q B ∧
      Steps p.tables e below (doInvoke e (A.U.setTop g) [] mk a).1 ((B.U.setTop g).pushFrame (.throwing q)))
section Payer
variable {l : Launch} {R : Room} {p : Program} {e : Env} {below : List Frame} {s : State} {sargs : Array Value} {y : MethodName} {len W9 : Nat}
theorem vx_back {ws : List Cond} {rm : Room} {Pc : Array Value → State → Prop} {Qc : Array Value → State → Outcome → State → Prop} {XC : String → State → State → Prop} {mc ms : Nat} {free : Addr → Prop} {bytes : ByteArray} {maxL : Nat} {ret : Option FieldType}
    (hM : vx_Met l y ws rm Pc Qc XC mc ms free) (hblind : FrameBlind Pc) (hrc : rm.cells = mc) (hrs : rm.slots = ms)
    (hframes : rm.frames + 1 ≤ R.frames) (hlocals : W9 + (maxL + 11) + rm.locals ≤ R.locals)
    (hws : ∀ w ∈ ws, ∀ a' U, s.WarmedH U.vm → w.before a' U = true) (hcode : Cond.code y bytes maxL ret ∈ ws) (hinit : ∀ a' U, s.WarmedH U.vm → (Cond.initialized y.cls).before a' U = true) :
    vx_Back l R p e below s sargs y len W9 (PreOf R mc ms Pc) (PostOf Qc mc ms free) (vx_Post XC mc ms free) := by
  intro m meth c A g ig mk a X hg hsize hdg hW hn hp
  have h1 : (headSpec ws rm).pre.before a A.U = true := atoms_intro fun w hw => hws w hw _ _ X.warmed
  have h2 : (Cond.code y bytes maxL ret).before a A.U = true := hws _ hcode _ _ X.warmed
  have h3 : (Cond.initialized y.cls).before a A.U = true := hinit _ _ X.warmed
  have h4 : A.cells + (headSpec ws rm).room.cells ≤ R.cells := by rw [show (headSpec ws rm).room.cells = mc from hrc]; exact hp.1
  have h5 : A.slots + (headSpec ws rm).room.slots ≤ R.slots := by rw [show (headSpec ws rm).room.slots = ms from hrs]; exact hp.2.1
  have hPc : Pc a (A.U.calling g mk a) := hblind _ _ _ _ hp.2.2
  obtain ⟨U, Ls, c0, s0⟩ := A
  dsimp only [Pt.U, Pt.locs, Pt.cells, Pt.slots] at h1 h2 h3 h4 h5 X hn hPc ⊢
  obtain ⟨methY, cY, hmY, hcY, -, hlY, -, -, -, -⟩ := Cond.code_spec hn h2
  obtain ⟨kY, hkY, -⟩ := className_of_methodNamed hn
  have hinitY : kY.init = .initialized := Cond.initialized_spec (findClass_of_methodNamed hn) hkY h3
  have h : At U g.method c below := by rw [hg]; exact X.here
  have hlocals9 : W9 + (maxL + 11) + (headSpec ws rm).room.locals ≤ R.locals := hlocals
  have happ : (headSpec ws rm).appliesLoose y e.platform (U.calling g mk a) = true :=
    Spec.appliesLoose_calling (g := g) h hdg hn hkY hinitY
      (X.room_calling (g := g) (R' := (headSpec ws rm).room) hsize hmY hcY hframes (by rw [hlY]; omega) h4 h5) h1
  obtain ⟨mid, hmid⟩ := h.above
  have hfr : (U.setTop g).frames = (.java g :: mid) ++ below := by rw [State.frames_setTop' g h.top, hmid]; rfl
  obtain ⟨o, s₂, hsteps, -, hend, hq⟩ := Steps.callFree hM p X.admits X.cas X.clock (acts := []) hfr happ hPc trivial
  have hq' : vx_Q Qc XC mc ms free a (U.calling g mk a) o s₂ := hq
  rw [State.frames_setTop' g h.top] at hend
  obtain ⟨g₀, hg0⟩ := Option.isSome_iff_exists.mp h.top
  obtain ⟨r, hr⟩ := State.topJava?_eq_some.mp hg0
  have hr' : (({ U with heap := s₂.heap, slotsUsed := s₂.slotsUsed } : State).setVm s₂.vm).frames = .java g₀ :: r := hr
  rcases hq' with ⟨hqc, L, hfe, hL⟩ | ⟨q, rfl, E, ce, L, hx, hce, hcv, hcl, hW₂, hsm, hL⟩
  · obtain ⟨⟨v, rfl⟩, hW₂, e2, q2, q3, q4, q5, q6⟩ := id hfe
    have e3 : s₂ = ({ (U.calling g mk a).setFrames s₂.frames with heap := s₂.heap, slotsUsed := s₂.slotsUsed } : State).setVm s₂.vm := by
      have : s₂ = ({ s₂ with vm := (U.calling g mk a).vm } : State).setVm s₂.vm := rfl
      rw [e2] at this
      exact this
    obtain ⟨c₂, i₂, len₂, hc₂, hd₂, hf₂⟩ := hend
    have hW' : U.WarmedH s₂.vm := hW₂
    have hcc : c₂ = c := by
      have h1 : s₂.code? g.method = U.code? g.method := by
        rw [State.code?_eq, State.code?_eq, hW'.alike.method?]
      exact Option.some.inj (hc₂.symm.trans (h1.trans h.code))
    subst hcc
    have hlen : len₂ = len := by rw [hdg] at hd₂; cases hd₂; rfl
    subst hlen
    have hs₂ : s₂ = (({ U with heap := s₂.heap, slotsUsed := s₂.slotsUsed } : State).setVm s₂.vm).setTop { g with pc := g.pc + len₂, stack := v.toList ++ g.stack } := by
      refine e3.trans ?_
      rw [hf₂, State.calling_eq h.top, State.setFrames_setFrames, State.setTop_of_frames _ hr', hr]
      rfl
    have hsame : U.sameButNew ({ U with heap := s₂.heap, slotsUsed := s₂.slotsUsed } : State) L mc ms := by
      refine ⟨?_, q2, q3, q4, q5, q6⟩
      obtain ⟨t, ht, -⟩ := State.frames_cons hr
      show ({ U with heap := s₂.heap, slotsUsed := s₂.slotsUsed } : State) = { U.setFrames U.frames with heap := s₂.heap, slotsUsed := s₂.slotsUsed }
      rw [State.setFrames_self ht]
    subst hg
    refine Or.inl ⟨v, ⟨(({ U with heap := s₂.heap, slotsUsed := s₂.slotsUsed } : State).setVm s₂.vm), Ls ++ L, c0 + mc, s0 + ms⟩,
      ⟨X.admits, X.cas, X.clock, X.frames, X.room, X.hears, X.method, X.code, (X.here.setHeapUsed s₂.heap s₂.slotsUsed).setVm hW'.alike, X.tail, State.WarmedH.trans X.warmed hW', X.limits, X.bytes, X.same.trans (hsame.setVm s.vm)⟩,
      ⟨g, mk, s₂, L, rfl, rfl, hqc, rfl, hL, rfl, rfl⟩, ?_⟩
    show Steps p.tables e below _ ((({ U with heap := s₂.heap, slotsUsed := s₂.slotsUsed } : State).setVm s₂.vm).setTop { g with pc := g.pc + len₂, stack := v.toList ++ g.stack })
    rw [← hs₂]
    exact hsteps
  · obtain ⟨e2, q2, q3, q4, q5, q6⟩ := id hsm
    have e3 : s₂ = ({ (U.calling g mk a).setFrames s₂.frames with heap := s₂.heap, slotsUsed := s₂.slotsUsed } : State).setVm s₂.vm := by
      have : s₂ = ({ s₂ with vm := (U.calling g mk a).vm } : State).setVm s₂.vm := rfl
      rw [e2] at this
      exact this
    have hf₂ : s₂.frames = .throwing q :: .java g :: U.frames.tail := hend
    have hW' : U.WarmedH s₂.vm := hW₂
    have hs₂ : s₂ = ((({ U with heap := s₂.heap, slotsUsed := s₂.slotsUsed } : State).setVm s₂.vm).setTop g).pushFrame (.throwing q) := by
      refine e3.trans ?_
      rw [hf₂, State.calling_eq h.top, State.setFrames_setFrames, State.pushFrame, State.frames_setTop _ hr', State.setTop_of_frames _ hr', State.setFrames_setFrames, hr]
      rfl
    have hsame : U.sameButNew ({ U with heap := s₂.heap, slotsUsed := s₂.slotsUsed } : State) L mc ms := by
      refine ⟨?_, q2, q3, q4, q5, q6⟩
      obtain ⟨t, ht, -⟩ := State.frames_cons hr
      show ({ U with heap := s₂.heap, slotsUsed := s₂.slotsUsed } : State) = { U.setFrames U.frames with heap := s₂.heap, slotsUsed := s₂.slotsUsed }
      rw [State.setFrames_self ht]
    subst hg
    refine Or.inr ⟨q, ⟨(({ U with heap := s₂.heap, slotsUsed := s₂.slotsUsed } : State).setVm s₂.vm), Ls ++ L, c0 + mc, s0 + ms⟩,
      ⟨X.admits, X.cas, X.clock, X.frames, X.room, X.hears, X.method, X.code, (X.here.setHeapUsed s₂.heap s₂.slotsUsed).setVm hW'.alike, X.tail, State.WarmedH.trans X.warmed hW', X.limits, X.bytes, X.same.trans (hsame.setVm s.vm)⟩,
      ⟨g, mk, s₂, L, E, ce, rfl, rfl, hx, hce, hcv, hcl, rfl, hL, rfl, rfl⟩, ?_⟩
    show Steps p.tables e below _ (((({ U with heap := s₂.heap, slotsUsed := s₂.slotsUsed } : State).setVm s₂.vm).setTop g).pushFrame (.throwing q))
    rw [← hs₂]
    exact hsteps
end Payer
section Calls
variable {p : Program} {l : Launch} {e : Env} {R : Room} {s : State} {m : MethodId} {args : Array Value} {below : List Frame} {meth : Method} {c : Code} {T : State} {locs : List Loc} {cells slots : Nat}
theorem vx_callV (X : Stand p l e R s m args below meth c T locs cells slots) (hexec : p.tables.exec = Jvm.exec) {own C : String} {index : Nat} {y : MethodName} {bytes : ByteArray} {maxL : Nat} {ret : Option FieldType}
    (hown : s.vm.findClass own = some m.cls) (hlink : (Cond.methodLink own index y).before args s = true) (hinst : (Cond.instanceMethod y).before args s = true) (hsel : (Cond.selects C y y).before args s = true)
    (hcode : (Cond.code y bytes maxL ret).before args s = true) (hy : y.cls ≠ "java/lang/invoke/MethodHandle" ∧ y.cls ≠ "java/lang/invoke/VarHandle")
    {W9 : Nat} {Pre : Pt → Array Value → Prop} {Post : Pt → Array Value → Option Value → Pt → Prop} {PostX : Pt → Array Value → Addr → Pt → Prop} (hK : vx_Back l R p e below s args y 3 W9 Pre Post PostX)
    {b : Addr} {cellB : Cell} (hcell : T.heap[b]? = some cellB) (hobj : cellB.vm.isStatics = false) (hcls : s.vm.findClass C = some cellB.cls)
    {g : JFrame} (hg : g.method = m) (hsize : g.locals.size = c.maxLocals) {argsL rest : List Value} (hlen : ∀ sig, parseMethodDescriptor y.desc = some sig → argsL.length = sig.parameters.length)
    (hstack : g.stack = argsL.reverse ++ .ref b :: rest) (hW : 2 * g.monitorRoom + (rest.map fun v => v.category).sum ≤ W9) (hdg : decode c.code g.pc = .ok (.invokevirtual index, 3))
    (hpre : ∀ vm₁, s.WarmedH vm₁ → Pre ⟨T.setVm vm₁, locs, cells, slots⟩ (Value.ref b :: argsL).toArray) :
    (∃ (v : Option Value) (vm₁ : Vm) (B : Pt), s.WarmedH vm₁ ∧ Stand p l e R s m args below meth c B.U B.locs B.cells B.slots ∧ Post ⟨T.setVm vm₁, locs, cells, slots⟩ (Value.ref b :: argsL).toArray v B ∧
      ∀ target, Steps p.tables e below (B.U.setTop { g with pc := g.pc + 3, stack := v.toList ++ rest }) target → Steps p.tables e below (T.setTop g) target) ∨
    (∃ (q : Addr) (vm₁ : Vm) (B : Pt), s.WarmedH vm₁ ∧ Stand p l e R s m args below meth c B.U B.locs B.cells B.slots ∧ PostX ⟨T.setVm vm₁, locs, cells, slots⟩ (Value.ref b :: argsL).toArray q B ∧
      Steps p.tables e below (T.setTop g) ((B.U.setTop { g with stack := rest }).pushFrame (.throwing q))) := by
  obtain ⟨mk, methM, hnamed, hmethM, hstM, habM⟩ := Cond.instanceMethod_spec hinst
  obtain ⟨methM', cM, hmethM', -, -, -, -, -, -, hsigM⟩ := Cond.code_spec hnamed hcode
  cases hmethM.symm.trans hmethM'
  obtain ⟨c2, r2, m2, q1, q2, q3, q4, kP, hkP, hkPi⟩ := Cond.selects_spec hsel
  cases hcls.symm.trans q1
  cases (State.methodFound?_of_named hnamed hy).symm.trans q2
  cases hnamed.symm.trans q3
  have hselP : selectMethod e.platform s.vm cellB.cls mk = .method mk := by rw [Launch.admits_selectMethod X.admits]; exact q4
  obtain ⟨vm₁, X₁, hstep₁⟩ := X.invokevirtual hexec hown hlink hnamed hmethM hstM hkP hkPi hy (a := b) (cell := cellB) hcell
    (fun z h => by rw [h] at hobj; cases hobj) hselP hmethM habM hkP hkPi (g := g) hg (argsL := argsL) (rest := rest) (hlen _ hsigM) hstack hdg
  rcases hK m meth c ⟨T.setVm vm₁, locs, cells, slots⟩ { g with stack := rest } (.invokevirtual index) mk (Value.ref b :: argsL).toArray X₁ hg hsize hdg hW (X₁.named hnamed) (hpre vm₁ X₁.warmed) with ⟨v, B, X', hpost, hsteps⟩ | ⟨q, B, X', hpost, hsteps⟩
  · exact Or.inl ⟨v, vm₁, B, X₁.warmed, X', hpost, fun target h => hstep₁ _ fun acts => by rw [doInvoke_state]; exact hsteps.trans h⟩
  · exact Or.inr ⟨q, vm₁, B, X₁.warmed, X', hpost, hstep₁ _ fun acts => by rw [doInvoke_state]; exact hsteps⟩
theorem vx_callS (X : Stand p l e R s m args below meth c T locs cells slots) (hexec : p.tables.exec = Jvm.exec) {own : String} {index : Nat} {y : MethodName} {bytes : ByteArray} {maxL : Nat} {ret : Option FieldType}
    (hown : s.vm.findClass own = some m.cls) (hlink : (Cond.methodLink own index y).before args s = true) (hstat : (Cond.static y).before args s = true) (hinit : (Cond.initialized y.cls).before args s = true)
    (hcode : (Cond.code y bytes maxL ret).before args s = true) (hy : y.cls ≠ "java/lang/invoke/MethodHandle" ∧ y.cls ≠ "java/lang/invoke/VarHandle")
    {W9 : Nat} {Pre : Pt → Array Value → Prop} {Post : Pt → Array Value → Option Value → Pt → Prop} {PostX : Pt → Array Value → Addr → Pt → Prop} (hK : vx_Back l R p e below s args y 3 W9 Pre Post PostX)
    {g : JFrame} (hg : g.method = m) (hsize : g.locals.size = c.maxLocals) {argsL rest : List Value} (hlen : ∀ sig, parseMethodDescriptor y.desc = some sig → argsL.length = sig.parameters.length)
    (hstack : g.stack = argsL.reverse ++ rest) (hW : 2 * g.monitorRoom + (rest.map fun v => v.category).sum ≤ W9) (hdg : decode c.code g.pc = .ok (.invokestatic index, 3))
    (hpre : ∀ vm₁, s.WarmedH vm₁ → Pre ⟨T.setVm vm₁, locs, cells, slots⟩ argsL.toArray) :
    (∃ (v : Option Value) (vm₁ : Vm) (B : Pt), s.WarmedH vm₁ ∧ Stand p l e R s m args below meth c B.U B.locs B.cells B.slots ∧ Post ⟨T.setVm vm₁, locs, cells, slots⟩ argsL.toArray v B ∧
      ∀ target, Steps p.tables e below (B.U.setTop { g with pc := g.pc + 3, stack := v.toList ++ rest }) target → Steps p.tables e below (T.setTop g) target) ∨
    (∃ (q : Addr) (vm₁ : Vm) (B : Pt), s.WarmedH vm₁ ∧ Stand p l e R s m args below meth c B.U B.locs B.cells B.slots ∧ PostX ⟨T.setVm vm₁, locs, cells, slots⟩ argsL.toArray q B ∧
      Steps p.tables e below (T.setTop g) ((B.U.setTop { g with stack := rest }).pushFrame (.throwing q))) := by
  obtain ⟨mk, hnamed⟩ := Cond.code_named hcode
  obtain ⟨methM, cM, hmethM, -, -, -, -, -, -, hsigM⟩ := Cond.code_spec hnamed hcode
  have hstatic : methM.isStatic = true := Cond.static_spec hnamed hmethM hstat
  obtain ⟨kP, hkP, -⟩ := className_of_methodNamed hnamed
  have hinitP : kP.init = .initialized := Cond.initialized_spec (findClass_of_methodNamed hnamed) hkP hinit
  obtain ⟨vm₁, X₁, hstep₁⟩ := X.invokestatic hexec hown hlink hnamed hmethM hstatic hkP hinitP hy (g := g) hg (argsL := argsL) (rest := rest) (hlen _ hsigM) hstack hdg
  rcases hK m meth c ⟨T.setVm vm₁, locs, cells, slots⟩ { g with stack := rest } (.invokestatic index) mk argsL.toArray X₁ hg hsize hdg hW (X₁.named hnamed) (hpre vm₁ X₁.warmed) with ⟨v, B, X', hpost, hsteps⟩ | ⟨q, B, X', hpost, hsteps⟩
  · exact Or.inl ⟨v, vm₁, B, X₁.warmed, X', hpost, fun target h => hstep₁ _ fun acts => by rw [doInvoke_state]; exact hsteps.trans h⟩
  · exact Or.inr ⟨q, vm₁, B, X₁.warmed, X', hpost, hstep₁ _ fun acts => by rw [doInvoke_state]; exact hsteps⟩
end Calls
theorem vx_cls {s : State} {T : State} {vm₁ : Vm} {E : String} {k : ClassId} (hW : s.WarmedH vm₁) (h : (T.setVm vm₁).vm.findClass E = some k) : s.vm.findClass E = some k := by
  have h1 : vm₁.findClass E = some k := h
  rw [hW.alike.findClass] at h1
  exact h1
/-- the method's frame g, with q thrown over it -/
def vx_W (p : Program) (l : Launch) (e : Env) (R : Room) (s : State) (m : MethodId) (args : Array Value) (below : List Frame) (meth : Method) (c : Code) (H : Heap) (locs : List Loc) (cells slots : Nat) (Q : State → Prop) (g : JFrame) (q : Addr) : Prop :=
  ∀ T : State, T.heap = H → Stand p l e R s m args below meth c T locs cells slots → ∃ t, Steps p.tables e below ((T.setTop g).pushFrame (.throwing q)) t ∧ Q t
def vx_Run (p : Program) (l : Launch) (e : Env) (R : Room) (s : State) (m : MethodId) (args : Array Value) (below : List Frame) (meth : Method) (c : Code) (H : Heap) (locs : List Loc) (cells slots mc ms : Nat) (g : JFrame) (rest : List Value) (Qa : State → Outcome → State → Prop) (XC : String → State → State → Prop) (free : Addr → Prop) : Prop :=
  ∀ T : State, T.heap = H → Stand p l e R s m args below meth c T locs cells slots →
    (∃ (v : Option Value) (st₀ t T' : State) (L : List Loc), st₀.heap = H ∧ Stand p l e R s m args below meth c T' (locs ++ L) (cells + mc) (slots + ms) ∧ (∀ q ∈ L, free q.base) ∧ T'.heap = t.heap ∧ T'.vm = t.vm ∧ Qa st₀ (.returned v) t ∧
      Goes p e below T g T' { g with pc := g.pc + 3, stack := v.toList ++ rest }) ∨
    (∃ (q : Addr) (st₀ t T' : State) (L : List Loc) (E : String) (ce : Cell), st₀.heap = H ∧ Stand p l e R s m args below meth c T' (locs ++ L) (cells + mc) (slots + ms) ∧ (∀ z ∈ L, free z.base) ∧ T'.heap = t.heap ∧ T'.vm = t.vm ∧ XC E st₀ t ∧ t.heap[q]? = some ce ∧ ce.vm = .none ∧ s.vm.findClass E = some ce.cls ∧
      Steps p.tables e below (T.setTop g) ((T'.setTop { g with stack := rest }).pushFrame (.throwing q)))
def vx_X {S : Type} (px : S → Prop) (B : String → S → State → Prop) (A : Nat → Prop) : String → State → State → Prop := fun E st t => ∃ u : S, px u ∧ B E u t ∧ va_F A st t
section Runs
variable {p : Program} {l : Launch} {e : Env} {R : Room} {s : State} {m : MethodId} {args : Array Value} {below : List Frame} {meth : Method} {c : Code} {H : Heap} {locs : List Loc} {cells slots : Nat}
variable {y : MethodName} {bytes cc : ByteArray} {maxL nL mc ms n index : Nat} {ret : Option FieldType} {ws : List Cond} {rm : Room} {Pc : Array Value → State → Prop} {Qc : Array Value → State → Outcome → State → Prop} {XC : String → State → State → Prop} {free : Addr → Prop} {Ts : List Cond} {own C : String} {b : Addr} {As rest : List Value} {g : JFrame}
theorem vx_callBack (cb : CallB R s args own index y bytes maxL ret ws rm mc ms n) (hM : vx_Met l y ws rm Pc Qc XC mc ms free) (hbl : FrameBlind Pc) : vx_Back l R p e below s args y 3 8 (PreOf R mc ms Pc) (PostOf Qc mc ms free) (vx_Post XC mc ms free) := by
  obtain ⟨hrc, hrs, hfr, hlo, hws, hcw, -, hini, -⟩ := cb
  exact vx_back (bytes := bytes) (maxL := maxL) (ret := ret) hM hbl hrc hrs hfr hlo hws hcw (fun a' U hW => word_at hW (Or.inl (by first | rfl | simp [Cond.onTables, Cond.keeps, Cond.steady])) hini)
theorem vx_runV (S : CallFix p m c cc nL s args Ts own) (hM : vx_Met l y ws rm Pc Qc XC mc ms free) (cw : CallW R s args own C index y bytes maxL ret ws rm mc ms n) (hp : PreV s H C b Pc As)
    (hg : g.method = m) (hn : As.length = n) (hsize : g.locals.size = nL) (hstack : g.stack = As.reverse ++ .ref b :: rest) (hW : 2 * g.monitorRoom + (rest.map fun v => v.category).sum ≤ 8) (hdg : decode cc g.pc = .ok (.invokevirtual index, 3)) (hf : cells + mc ≤ R.cells ∧ slots + ms ≤ R.slots) :
    vx_Run p l e R s m args below meth c H locs cells slots mc ms g rest (Qc (Value.ref b :: As).toArray) XC free := by
  have hK : vx_Back l R p e below s args y 3 8 (PreOf R mc ms Pc) (PostOf Qc mc ms free) (vx_Post XC mc ms free) := vx_callBack cw.1 hM hp.1
  obtain ⟨⟨-, -, -, -, -, -, hcode, -, hy, hlen, hl⟩, hin, hse⟩ := cw
  obtain ⟨hx, hb, hml, ho, -⟩ := S
  obtain ⟨-, ⟨cellB, hcB, hoB, hclB⟩, hPc⟩ := hp
  intro T hT X
  rcases vx_callV X hx (C := C) (bytes := bytes) (maxL := maxL) (ret := ret) ho hl hin hse hcode hy hK (by rw [hT]; exact hcB) hoB hclB hg (hsize.trans hml.symm) (argsL := As) (rest := rest) (fun sig h => hn.trans (hlen sig h)) hstack hW (by rw [hb]; exact hdg)
    (fun vm₁ hW₁ => ⟨hf.1, hf.2, hPc (T.setVm vm₁) hT hW₁⟩) with ⟨v, vm₁, ⟨U', l2, c2, s2⟩, hW₁, X', ⟨g', mk, t, L, e1, e2, hq, h1, hL, h2, h3⟩, st⟩ | ⟨q, vm₁, ⟨U', l2, c2, s2⟩, hW₁, X', ⟨g', mk, t, L, E, ce, e1, e2, hq, hce, hcv, hcl, h1, hL, h2, h3⟩, st⟩
  · dsimp only [Pt.U, Pt.locs, Pt.cells, Pt.slots] at X' e1 e2 h1 h2 h3 st
    subst h1; subst h2; subst h3
    exact Or.inl ⟨v, (T.setVm vm₁).calling g' mk (Value.ref b :: As).toArray, t, U', L, hT, X', hL, e1, e2, hq, st⟩
  · dsimp only [Pt.U, Pt.locs, Pt.cells, Pt.slots] at X' e1 e2 h1 h2 h3 st hcl
    subst h1; subst h2; subst h3
    exact Or.inr ⟨q, (T.setVm vm₁).calling g' mk (Value.ref b :: As).toArray, t, U', L, E, ce, hT, X', hL, e1, e2, hq, hce, hcv, vx_cls hW₁ hcl, st⟩
theorem vx_runS (S : CallFix p m c cc nL s args Ts own) (hM : vx_Met l y ws rm Pc Qc XC mc ms free) (cw : CallB R s args own index y bytes maxL ret ws rm mc ms n ∧ (Cond.static y).before args s = true) (hp : PreS s H Pc As)
    (hg : g.method = m) (hn : As.length = n) (hsize : g.locals.size = nL) (hstack : g.stack = As.reverse ++ rest) (hW : 2 * g.monitorRoom + (rest.map fun v => v.category).sum ≤ 8) (hdg : decode cc g.pc = .ok (.invokestatic index, 3)) (hf : cells + mc ≤ R.cells ∧ slots + ms ≤ R.slots) :
    vx_Run p l e R s m args below meth c H locs cells slots mc ms g rest (Qc As.toArray) XC free := by
  have hK : vx_Back l R p e below s args y 3 8 (PreOf R mc ms Pc) (PostOf Qc mc ms free) (vx_Post XC mc ms free) := vx_callBack cw.1 hM hp.1
  obtain ⟨⟨-, -, -, -, -, -, hcode, hini, hy, hlen, hl⟩, hstt⟩ := cw
  obtain ⟨hx, hb, hml, ho, -⟩ := S
  intro T hT X
  rcases vx_callS X hx (bytes := bytes) (maxL := maxL) (ret := ret) ho hl hstt hini hcode hy hK hg (hsize.trans hml.symm) (argsL := As) (rest := rest) (fun sig h => hn.trans (hlen sig h)) hstack hW (by rw [hb]; exact hdg)
    (fun vm₁ hW₁ => ⟨hf.1, hf.2, hp.2 (T.setVm vm₁) hT hW₁⟩) with ⟨v, vm₁, ⟨U', l2, c2, s2⟩, hW₁, X', ⟨g', mk, t, L, e1, e2, hq, h1, hL, h2, h3⟩, st⟩ | ⟨q, vm₁, ⟨U', l2, c2, s2⟩, hW₁, X', ⟨g', mk, t, L, E, ce, e1, e2, hq, hce, hcv, hcl, h1, hL, h2, h3⟩, st⟩
  · dsimp only [Pt.U, Pt.locs, Pt.cells, Pt.slots] at X' e1 e2 h1 h2 h3 st
    subst h1; subst h2; subst h3
    exact Or.inl ⟨v, (T.setVm vm₁).calling g' mk As.toArray, t, U', L, hT, X', hL, e1, e2, hq, st⟩
  · dsimp only [Pt.U, Pt.locs, Pt.cells, Pt.slots] at X' e1 e2 h1 h2 h3 st hcl
    subst h1; subst h2; subst h3
    exact Or.inr ⟨q, (T.setVm vm₁).calling g' mk As.toArray, t, U', L, E, ce, hT, X', hL, e1, e2, hq, hce, hcv, vx_cls hW₁ hcl, st⟩
end Runs
section Rows
variable {p : Program} {l : Launch} {e : Env} {R : Room} {s : State} {m : MethodId} {args : Array Value} {below : List Frame} {meth : Method} {c : Code} {H : Heap} {locs : List Loc} {cells slots : Nat} {Q : State → Prop}
variable {mc ms : Nat} {free : Addr → Prop} {A0 A1 : Nat → Prop} {H0 : Heap} {a : Array Value} {pc : Nat} {ls : Array Slot} {st0 rest : List Value}
theorem vx_keep {st₀ t T' : State} {L : List Loc} (h0 : st₀.heap = H) (e1 : T'.heap = t.heap) (hS : va_S A0 H0 H locs) (hA : ∀ q, q < H.size → A1 q → A0 q) (hf : ∀ q, free q → A0 q) (hL : ∀ q ∈ L, free q.base) (hF : va_F A1 st₀ t) :
    H.size ≤ T'.heap.size ∧ (∀ q : Nat, q < H.size → ¬ A1 q → T'.heap[q]? = H[q]?) ∧ va_S A0 H0 T'.heap (locs ++ L) := by
  obtain ⟨hz, hk⟩ := hF
  rw [h0] at hz hk
  exact ⟨by rw [e1]; exact hz, fun q h1 h2 => by rw [e1]; exact hk q h1 h2,
    ⟨Nat.le_trans hS.1 (by rw [e1]; exact hz), fun q h1 h2 => by rw [e1, hk q (Nat.lt_of_lt_of_le h1 hS.1) (fun z => h2 (hA q (Nat.lt_of_lt_of_le h1 hS.1) z))]; exact hS.2.1 q h1 h2, fun q hq => by
      rcases List.mem_append.mp hq with h | h
      · exact hS.2.2 q h
      · exact hf _ (hL q h)⟩⟩
theorem vx_calli {S SX : Type} {post : Int32 → S → Prop} {px : SX → Prop} {B : S → State → Prop} {BX : String → SX → State → Prop} {AX : Nat → Prop} (hr : vx_Run p l e R s m args below meth c H locs cells slots mc ms (F0 m pc ls st0) rest (va_Qi post B A1 a) (vx_X px BX AX) free) (hS : va_S A0 H0 H locs) (hA : ∀ q, q < H.size → A1 q → A0 q) (hf : ∀ q, free q → A0 q) (hAX : ∀ q, q < H.size → AX q → A0 q)
    (kx : ∀ (E : String) (ce : Cell) (q9 : Addr) (u : SX) (t : State) (H1 : Heap) (locs1 : List Loc), t.heap = H1 → s.vm.Alike t.vm → px u → BX E u t → H.size ≤ H1.size → (∀ q : Nat, q < H.size → ¬ AX q → H1[q]? = H[q]?) → va_S A0 H0 H1 locs1 → H1[q9]? = some ce → ce.vm = .none → s.vm.findClass E = some ce.cls → vx_W p l e R s m args below meth c H1 locs1 (cells + mc) (slots + ms) Q (F0 m pc ls rest) q9)
    (kk : ∀ (r : Int32) (u : S) (t : State) (H1 : Heap) (locs1 : List Loc), t.heap = H1 → s.vm.Alike t.vm → post r u → B u t → H.size ≤ H1.size → (∀ q : Nat, q < H.size → ¬ A1 q → H1[q]? = H[q]?) → va_S A0 H0 H1 locs1 → W p l e R s m args below meth c H1 locs1 (cells + mc) (slots + ms) Q (F0 m (pc + 3) ls (.int r :: rest))) : W p l e R s m args below meth c H locs cells slots Q (F0 m pc ls st0) := by
  intro T hT X
  rcases hr T hT X with ⟨v, st₀, t, T', L, h0, X', hL, e1, e2, ⟨⟨r, u, hv, hp, hb⟩, hF⟩, st⟩ | ⟨q, st₀, t, T', L, E, ce, h0, X', hL, e1, e2, ⟨u, hp, hb, hF⟩, hce, hcv, hcl, st⟩
  · cases hv
    obtain ⟨k1, k2, k3⟩ := vx_keep h0 e1 hS hA hf hL hF
    obtain ⟨t2, a1, b1⟩ := kk r u t T'.heap (locs ++ L) e1.symm (by rw [← e2]; exact X'.warmed.alike) hp hb k1 k2 k3 T' rfl X'
    exact ⟨t2, st t2 a1, b1⟩
  · obtain ⟨k1, k2, k3⟩ := vx_keep h0 e1 hS hAX hf hL hF
    obtain ⟨t2, a1, b1⟩ := kx E ce q u t T'.heap (locs ++ L) e1.symm (by rw [← e2]; exact X'.warmed.alike) hp hb k1 k2 k3 (by rw [e1]; exact hce) hcv hcl T' rfl X'
    exact ⟨t2, st.trans a1, b1⟩
theorem vx_calll {S SX : Type} {post : Int64 → S → Prop} {px : SX → Prop} {B : S → State → Prop} {BX : String → SX → State → Prop} {AX : Nat → Prop} (hr : vx_Run p l e R s m args below meth c H locs cells slots mc ms (F0 m pc ls st0) rest (va_Ql post B A1 a) (vx_X px BX AX) free) (hS : va_S A0 H0 H locs) (hA : ∀ q, q < H.size → A1 q → A0 q) (hf : ∀ q, free q → A0 q) (hAX : ∀ q, q < H.size → AX q → A0 q)
    (kx : ∀ (E : String) (ce : Cell) (q9 : Addr) (u : SX) (t : State) (H1 : Heap) (locs1 : List Loc), t.heap = H1 → s.vm.Alike t.vm → px u → BX E u t → H.size ≤ H1.size → (∀ q : Nat, q < H.size → ¬ AX q → H1[q]? = H[q]?) → va_S A0 H0 H1 locs1 → H1[q9]? = some ce → ce.vm = .none → s.vm.findClass E = some ce.cls → vx_W p l e R s m args below meth c H1 locs1 (cells + mc) (slots + ms) Q (F0 m pc ls rest) q9)
    (kk : ∀ (r : Int64) (u : S) (t : State) (H1 : Heap) (locs1 : List Loc), t.heap = H1 → s.vm.Alike t.vm → post r u → B u t → H.size ≤ H1.size → (∀ q : Nat, q < H.size → ¬ A1 q → H1[q]? = H[q]?) → va_S A0 H0 H1 locs1 → W p l e R s m args below meth c H1 locs1 (cells + mc) (slots + ms) Q (F0 m (pc + 3) ls (.long r :: rest))) : W p l e R s m args below meth c H locs cells slots Q (F0 m pc ls st0) := by
  intro T hT X
  rcases hr T hT X with ⟨v, st₀, t, T', L, h0, X', hL, e1, e2, ⟨⟨r, u, hv, hp, hb⟩, hF⟩, st⟩ | ⟨q, st₀, t, T', L, E, ce, h0, X', hL, e1, e2, ⟨u, hp, hb, hF⟩, hce, hcv, hcl, st⟩
  · cases hv
    obtain ⟨k1, k2, k3⟩ := vx_keep h0 e1 hS hA hf hL hF
    obtain ⟨t2, a1, b1⟩ := kk r u t T'.heap (locs ++ L) e1.symm (by rw [← e2]; exact X'.warmed.alike) hp hb k1 k2 k3 T' rfl X'
    exact ⟨t2, st t2 a1, b1⟩
  · obtain ⟨k1, k2, k3⟩ := vx_keep h0 e1 hS hAX hf hL hF
    obtain ⟨t2, a1, b1⟩ := kx E ce q u t T'.heap (locs ++ L) e1.symm (by rw [← e2]; exact X'.warmed.alike) hp hb k1 k2 k3 (by rw [e1]; exact hce) hcv hcl T' rfl X'
    exact ⟨t2, st.trans a1, b1⟩
theorem vx_callf {S SX : Type} {post : UInt32 → S → Prop} {px : SX → Prop} {B : S → State → Prop} {BX : String → SX → State → Prop} {AX : Nat → Prop} (hr : vx_Run p l e R s m args below meth c H locs cells slots mc ms (F0 m pc ls st0) rest (va_Qf post B A1 a) (vx_X px BX AX) free) (hS : va_S A0 H0 H locs) (hA : ∀ q, q < H.size → A1 q → A0 q) (hf : ∀ q, free q → A0 q) (hAX : ∀ q, q < H.size → AX q → A0 q)
    (kx : ∀ (E : String) (ce : Cell) (q9 : Addr) (u : SX) (t : State) (H1 : Heap) (locs1 : List Loc), t.heap = H1 → s.vm.Alike t.vm → px u → BX E u t → H.size ≤ H1.size → (∀ q : Nat, q < H.size → ¬ AX q → H1[q]? = H[q]?) → va_S A0 H0 H1 locs1 → H1[q9]? = some ce → ce.vm = .none → s.vm.findClass E = some ce.cls → vx_W p l e R s m args below meth c H1 locs1 (cells + mc) (slots + ms) Q (F0 m pc ls rest) q9)
    (kk : ∀ (r : UInt32) (u : S) (t : State) (H1 : Heap) (locs1 : List Loc), t.heap = H1 → s.vm.Alike t.vm → post r u → B u t → H.size ≤ H1.size → (∀ q : Nat, q < H.size → ¬ A1 q → H1[q]? = H[q]?) → va_S A0 H0 H1 locs1 → W p l e R s m args below meth c H1 locs1 (cells + mc) (slots + ms) Q (F0 m (pc + 3) ls (.float r :: rest))) : W p l e R s m args below meth c H locs cells slots Q (F0 m pc ls st0) := by
  intro T hT X
  rcases hr T hT X with ⟨v, st₀, t, T', L, h0, X', hL, e1, e2, ⟨⟨r, u, hv, hp, hb⟩, hF⟩, st⟩ | ⟨q, st₀, t, T', L, E, ce, h0, X', hL, e1, e2, ⟨u, hp, hb, hF⟩, hce, hcv, hcl, st⟩
  · cases hv
    obtain ⟨k1, k2, k3⟩ := vx_keep h0 e1 hS hA hf hL hF
    obtain ⟨t2, a1, b1⟩ := kk r u t T'.heap (locs ++ L) e1.symm (by rw [← e2]; exact X'.warmed.alike) hp hb k1 k2 k3 T' rfl X'
    exact ⟨t2, st t2 a1, b1⟩
  · obtain ⟨k1, k2, k3⟩ := vx_keep h0 e1 hS hAX hf hL hF
    obtain ⟨t2, a1, b1⟩ := kx E ce q u t T'.heap (locs ++ L) e1.symm (by rw [← e2]; exact X'.warmed.alike) hp hb k1 k2 k3 (by rw [e1]; exact hce) hcv hcl T' rfl X'
    exact ⟨t2, st.trans a1, b1⟩
theorem vx_calld {S SX : Type} {post : UInt64 → S → Prop} {px : SX → Prop} {B : S → State → Prop} {BX : String → SX → State → Prop} {AX : Nat → Prop} (hr : vx_Run p l e R s m args below meth c H locs cells slots mc ms (F0 m pc ls st0) rest (va_Qd post B A1 a) (vx_X px BX AX) free) (hS : va_S A0 H0 H locs) (hA : ∀ q, q < H.size → A1 q → A0 q) (hf : ∀ q, free q → A0 q) (hAX : ∀ q, q < H.size → AX q → A0 q)
    (kx : ∀ (E : String) (ce : Cell) (q9 : Addr) (u : SX) (t : State) (H1 : Heap) (locs1 : List Loc), t.heap = H1 → s.vm.Alike t.vm → px u → BX E u t → H.size ≤ H1.size → (∀ q : Nat, q < H.size → ¬ AX q → H1[q]? = H[q]?) → va_S A0 H0 H1 locs1 → H1[q9]? = some ce → ce.vm = .none → s.vm.findClass E = some ce.cls → vx_W p l e R s m args below meth c H1 locs1 (cells + mc) (slots + ms) Q (F0 m pc ls rest) q9)
    (kk : ∀ (r : UInt64) (u : S) (t : State) (H1 : Heap) (locs1 : List Loc), t.heap = H1 → s.vm.Alike t.vm → post r u → B u t → H.size ≤ H1.size → (∀ q : Nat, q < H.size → ¬ A1 q → H1[q]? = H[q]?) → va_S A0 H0 H1 locs1 → W p l e R s m args below meth c H1 locs1 (cells + mc) (slots + ms) Q (F0 m (pc + 3) ls (.double r :: rest))) : W p l e R s m args below meth c H locs cells slots Q (F0 m pc ls st0) := by
  intro T hT X
  rcases hr T hT X with ⟨v, st₀, t, T', L, h0, X', hL, e1, e2, ⟨⟨r, u, hv, hp, hb⟩, hF⟩, st⟩ | ⟨q, st₀, t, T', L, E, ce, h0, X', hL, e1, e2, ⟨u, hp, hb, hF⟩, hce, hcv, hcl, st⟩
  · cases hv
    obtain ⟨k1, k2, k3⟩ := vx_keep h0 e1 hS hA hf hL hF
    obtain ⟨t2, a1, b1⟩ := kk r u t T'.heap (locs ++ L) e1.symm (by rw [← e2]; exact X'.warmed.alike) hp hb k1 k2 k3 T' rfl X'
    exact ⟨t2, st t2 a1, b1⟩
  · obtain ⟨k1, k2, k3⟩ := vx_keep h0 e1 hS hAX hf hL hF
    obtain ⟨t2, a1, b1⟩ := kx E ce q u t T'.heap (locs ++ L) e1.symm (by rw [← e2]; exact X'.warmed.alike) hp hb k1 k2 k3 (by rw [e1]; exact hce) hcv hcl T' rfl X'
    exact ⟨t2, st.trans a1, b1⟩
theorem vx_callv {S SX : Type} {post : S → Prop} {px : SX → Prop} {B : S → State → Prop} {BX : String → SX → State → Prop} {AX : Nat → Prop} (hr : vx_Run p l e R s m args below meth c H locs cells slots mc ms (F0 m pc ls st0) rest (va_Qv post B A1 a) (vx_X px BX AX) free) (hS : va_S A0 H0 H locs) (hA : ∀ q, q < H.size → A1 q → A0 q) (hf : ∀ q, free q → A0 q) (hAX : ∀ q, q < H.size → AX q → A0 q)
    (kx : ∀ (E : String) (ce : Cell) (q9 : Addr) (u : SX) (t : State) (H1 : Heap) (locs1 : List Loc), t.heap = H1 → s.vm.Alike t.vm → px u → BX E u t → H.size ≤ H1.size → (∀ q : Nat, q < H.size → ¬ AX q → H1[q]? = H[q]?) → va_S A0 H0 H1 locs1 → H1[q9]? = some ce → ce.vm = .none → s.vm.findClass E = some ce.cls → vx_W p l e R s m args below meth c H1 locs1 (cells + mc) (slots + ms) Q (F0 m pc ls rest) q9)
    (kk : ∀ (u : S) (t : State) (H1 : Heap) (locs1 : List Loc), t.heap = H1 → s.vm.Alike t.vm → post u → B u t → H.size ≤ H1.size → (∀ q : Nat, q < H.size → ¬ A1 q → H1[q]? = H[q]?) → va_S A0 H0 H1 locs1 → W p l e R s m args below meth c H1 locs1 (cells + mc) (slots + ms) Q (F0 m (pc + 3) ls (rest))) : W p l e R s m args below meth c H locs cells slots Q (F0 m pc ls st0) := by
  intro T hT X
  rcases hr T hT X with ⟨v, st₀, t, T', L, h0, X', hL, e1, e2, ⟨⟨u, hv, hp, hb⟩, hF⟩, st⟩ | ⟨q, st₀, t, T', L, E, ce, h0, X', hL, e1, e2, ⟨u, hp, hb, hF⟩, hce, hcv, hcl, st⟩
  · cases hv
    obtain ⟨k1, k2, k3⟩ := vx_keep h0 e1 hS hA hf hL hF
    obtain ⟨t2, a1, b1⟩ := kk u t T'.heap (locs ++ L) e1.symm (by rw [← e2]; exact X'.warmed.alike) hp hb k1 k2 k3 T' rfl X'
    exact ⟨t2, st t2 a1, b1⟩
  · obtain ⟨k1, k2, k3⟩ := vx_keep h0 e1 hS hAX hf hL hF
    obtain ⟨t2, a1, b1⟩ := kx E ce q u t T'.heap (locs ++ L) e1.symm (by rw [← e2]; exact X'.warmed.alike) hp hb k1 k2 k3 (by rw [e1]; exact hce) hcv hcl T' rfl X'
    exact ⟨t2, st.trans a1, b1⟩
/-- caught by the row x of this method's table; the rows ahead don't take it -/
theorem vx_catch {own name : String} {E : String} {ce : Cell} {q : Addr} (hown : s.vm.findClass own = some m.cls) (pre : List ExceptionTableEntry) (x : ExceptionTableEntry) (suf : List ExceptionTableEntry) (hsplit : c.exceptionTable.toList = pre ++ x :: suf)
    (hpass : ∀ z ∈ pre, covers z pc = false ∨ (z.catchType ≠ 0 ∧ ∃ nm : String, (Cond.classLink own z.catchType nm).before args s = true ∧ va_Nc E nm s)) (hx : covers x pc = true) (h0 : x.catchType ≠ 0)
    (hlink : (Cond.classLink own x.catchType name).before args s = true) (hcast : (Cond.castable E name).before args s = true) (hcell : H[q]? = some ce) (hv : ce.vm = .none) (hcl : s.vm.findClass E = some ce.cls)
    (kk : W p l e R s m args below meth c H locs cells slots Q (F0 m x.handlerPc ls [.ref q])) : vx_W p l e R s m args below meth c H locs cells slots Q (F0 m pc ls rest) q := by
  intro T hT X
  have hpl : e.platform.magicAccessors = ({} : Platform).magicAccessors := by rw [X.admits.platform]
  obtain ⟨c3, c4, hc3, hc4, hasg⟩ := Cond.castable_spec hcast
  cases Option.some.inj (hc3.symm.trans hcl)
  obtain ⟨c5, hc5, hcl5⟩ := Cond.classLink_spec hown hlink e.platform hpl
  cases Option.some.inj (hc4.symm.trans hc5)
  obtain ⟨vm', X', st⟩ := X.thenCaughtThrough q (g := F0 m pc ls rest) rfl (Steps.refl _) (by rw [hT]; exact hcell) (by rw [hv]; rfl) (by obtain ⟨k9, h9, -⟩ := Vm.findClass_spec hcl; exact ⟨k9, h9⟩) pre x suf hsplit
    (fun z hz => by
      rcases hpass z hz with h | ⟨hz0, nm, hl1, hn1⟩
      · exact Or.inl h
      · obtain ⟨c6, hc6, hcl6⟩ := Cond.classLink_spec hown hl1 e.platform hpl
        obtain ⟨a8, b8, h1, h2, h3⟩ := hn1
        cases Option.some.inj (h1.symm.trans hcl)
        cases Option.some.inj (h2.symm.trans hc6)
        exact Or.inr ⟨hz0, _, hcl6, h3⟩) hx (Or.inr ⟨h0, c4, hcl5, hasg⟩)
  obtain ⟨t, a1, b1⟩ := kk (T.setVm vm') hT X'
  exact ⟨t, st.trans a1, b1⟩
end Rows
section Ends
variable {p : Program} {l : Launch} {e : Env} {R : Room} {s : State} {m : MethodId} {args : Array Value} {below : List Frame} {meth : Method} {c : Code} {H : Heap} {locs : List Loc} {cells slots : Nat} {Q : State → Prop}
variable {mc ms : Nat} {free : Addr → Prop} {A0 A1 : Nat → Prop} {H0 : Heap} {a : Array Value} {ls : Array Slot} {st0 rest : List Value}
variable {Qc : Array Value → State → Outcome → State → Prop} {XC : String → State → State → Prop}
/-- what a body that may throw owes at its end -/
def vx_MQ (below : List Frame) (Qc : Array Value → State → Outcome → State → Prop) (XC : String → State → State → Prop) (a : Array Value) (s : State) (mc ms : Nat) (free : Addr → Prop) : State → Prop := fun t =>
  ∃ o, t.status = .running ∧ Ended t below o ∧ vx_Q Qc XC mc ms free a s o t
theorem vx_ret {g : JFrame} {mc ms : Nat} (k : W p l e R s m args below meth c H locs cells slots (MQ below Qc args s mc ms free) g) : W p l e R s m args below meth c H locs cells slots (vx_MQ below Qc XC args s mc ms free) g := by
  intro T hT X
  obtain ⟨t, a1, o, b1, b2, b3, b4⟩ := k T hT X
  exact ⟨t, a1, o, b1, b2, Or.inl ⟨b3, b4⟩⟩
/-- not caught here: it goes on to the caller -/
theorem vx_widen {g : JFrame} {q : Addr} {k n : Nat} (h1 : cells ≤ k) (h2 : slots ≤ n) (kk : vx_W p l e R s m args below meth c H locs k n Q g q) : vx_W p l e R s m args below meth c H locs cells slots Q g q := fun T hT X => kk T hT (stand_widen X h1 h2)
theorem vx_out {pc : Nat} {E : String} {ce : Cell} {q : Addr} {mc ms : Nat} (hout : ∀ x ∈ c.exceptionTable.toList, covers x pc = false) (hlocks : meth.locks = false) (hcell : H[q]? = some ce) (hv : ce.vm = .none) (hcl : s.vm.findClass E = some ce.cls)
    (hx : ∀ t : State, t.heap = H → s.vm.Alike t.vm → XC E s t) (hf : ∀ z ∈ locs, free z.base) (hc : cells ≤ mc) (hs : slots ≤ ms) :
    vx_W p l e R s m args below meth c H locs cells slots (vx_MQ below Qc XC args s mc ms free) (F0 m pc ls rest) q := by
  intro T hT X
  obtain ⟨st1, hrun, hend, hW, hsm⟩ := X.leaveThrown q (g := F0 m pc ls rest) rfl rfl rfl hout hlocks
  have hcell9 : (T.setFrames (.throwing q :: below)).heap[q]? = some ce := by
    show T.heap[q]? = some ce
    rw [hT]; exact hcell
  exact ⟨_, st1, .threw q, hrun, hend, Or.inr ⟨q, rfl, E, ce, locs, hx _ hT hW.alike, hcell9, hv, hcl, hW, hsm.mono hc hs, hf⟩⟩
theorem vx_frame {U : State} {k n : Nat} (h : s.sameButNew ({ U with vm := s.vm } : State) locs k n) : s.heap.size ≤ U.heap.size ∧ ∀ q : Nat, q < s.heap.size → (∀ z ∈ locs, z.base ≠ q) → U.heap[q]? = s.heap[q]? := by
  obtain ⟨-, h2, -, -, -, h6⟩ := h
  refine ⟨h2, fun q hq hz => ?_⟩
  obtain ⟨c9, e1, e2, e3, e4⟩ := h6 q _ (Array.getElem?_eq_getElem hq)
  have hs : c9.slots = (s.heap[q]).slots := Array.ext_getElem? fun i => e4 i fun hm => hz _ hm rfl
  have h9 : c9 = s.heap[q] := by
    rw [hs] at e2
    exact e2
  have e5 : U.heap[q]? = some c9 := e1
  rw [e5, h9, Array.getElem?_eq_getElem hq]
/-- the words of a throw but the four that speak of the heap -/
def vx_no (w : Cond) : Bool := decide (w ≠ .isRef (.static Bundle.tN "UNASSIGNED_STACK" Bundle.steD)) && decide (w ≠ .isRef (.static Bundle.tN "SUPPRESSED_SENTINEL" Bundle.listD)) && decide (w ≠ .laysStatic Bundle.tN "UNASSIGNED_STACK" Bundle.steD) && decide (w ≠ .laysStatic Bundle.tN "SUPPRESSED_SENTINEL" Bundle.listD)
def vx_at0 (own : String) (ic : Nat) (X : String) (names : List String) : List Cond := (Bundle.ownAtoms0 own ic X names).filter vx_no
def vx_atS (own : String) (ic : Nat) (X : String) (names : List String) : List Cond := (Bundle.ownAtoms own ic X names).filter vx_no
/-- a word that the tables alone decide, or a good one -/
def vx_ot (w : Cond) : Bool := w.onTables || goodWord w
theorem vx_ot_at {args a' : Array Value} {s U : State} {w : Cond} (hW : s.WarmedH U.vm) (hvm : s.vm = U.vm) (hg : vx_ot w = true) (h : w.before args s = true) : w.before a' U = true := by
  simp only [vx_ot, Bool.or_eq_true] at hg
  rcases hg with hg | hg
  · exact va_tabs hg hvm h
  · exact word_at hW (good_of_word hg) h
/-- a list's words: the good ones out of the method's own list, the others by premises of their own -/
theorem vx_hat {args : Array Value} {s : State} {L B : List Cond} (h1 : ∀ w ∈ L.filter goodWord, w.before args s = true) (h2 : ∀ w ∈ L.filter (fun w => !goodWord w), w ∈ B) (h3 : ∀ w ∈ B, w.before args s = true) : ∀ w ∈ L, w.before args s = true := by
  intro w hw
  by_cases g : goodWord w = true
  · exact h1 w (List.mem_filter.mpr ⟨hw, g⟩)
  · refine h3 w (h2 w (List.mem_filter.mpr ⟨hw, ?_⟩))
    show (!goodWord w) = true
    cases hgw : goodWord w
    · rfl
    · exact absurd hgw g
theorem vx_c {args : Array Value} {s : State} {w : Cond} {B : List Cond} (h : w.before args s = true) (t : ∀ w ∈ B, w.before args s = true) : ∀ w' ∈ w :: B, w'.before args s = true := fun w' h' => (List.mem_cons.mp h').elim (fun e => by rw [e]; exact h) (t w')
theorem vx_n {args : Array Value} {s : State} : ∀ w ∈ ([] : List Cond), w.before args s = true := fun _ h => nomatch h
theorem vx_own {args : Array Value} {s : State} {L : List Cond} (h1 : ∀ w ∈ L.filter vx_no, w.before args s = true)
    (hU : (Cond.isRef (.static Bundle.tN "UNASSIGNED_STACK" Bundle.steD)).before args s = true) (hN : (Cond.isRef (.static Bundle.tN "SUPPRESSED_SENTINEL" Bundle.listD)).before args s = true)
    (lU : (Cond.laysStatic Bundle.tN "UNASSIGNED_STACK" Bundle.steD).before args s = true) (lN : (Cond.laysStatic Bundle.tN "SUPPRESSED_SENTINEL" Bundle.listD).before args s = true) : ∀ w ∈ L, w.before args s = true := by
  intro w hw
  by_cases e1 : w = .isRef (.static Bundle.tN "UNASSIGNED_STACK" Bundle.steD)
  · rw [e1]; exact hU
  · by_cases e2 : w = .isRef (.static Bundle.tN "SUPPRESSED_SENTINEL" Bundle.listD)
    · rw [e2]; exact hN
    · by_cases e3 : w = .laysStatic Bundle.tN "UNASSIGNED_STACK" Bundle.steD
      · rw [e3]; exact lU
      · by_cases e4 : w = .laysStatic Bundle.tN "SUPPRESSED_SENTINEL" Bundle.listD
        · rw [e4]; exact lN
        · exact h1 w (List.mem_filter.mpr ⟨hw, by unfold vx_no; rw [decide_eq_true e1, decide_eq_true e2, decide_eq_true e3, decide_eq_true e4]; rfl⟩)
/-- where a static field lies, its class's statics cell in H -/
def vx_L (C n d : String) (A : Nat → Prop) (U : State) (H : Heap) : Prop := ∃ (c : ClassId) (k : Class) (i : Nat) (f : Field) (a : Nat) (cell : Cell), U.vm.findClass C = some c ∧ U.fieldFound? C n d = some (c, k, i, f) ∧ f.isStatic = true ∧ k.statics = some a ∧ H[a]? = some cell ∧ cell.vm.isStatics = true ∧ cell.cls = c ∧ f.slot < cell.slots.size ∧ k.staticTypes[f.slot]? = some f.type ∧ ¬ A a
theorem vx_L.moved {C n d : String} {A : Nat → Prop} {u U : State} {H : Heap} (hvm : u.vm.Alike U.vm) (h : vx_L C n d A u H) : vx_L C n d A U H := by
  obtain ⟨c, k, i, f, a, cell, h1, h2, h3, h4, h5, h6, h7, h8, h9, h10⟩ := h
  obtain ⟨k', hi', he⟩ := State.fieldFound?_setVm hvm h2
  exact ⟨c, k', i, f, a, cell, by rw [hvm.findClass]; exact h1, hi', h3, by rw [he]; exact h4, h5, h6, h7, h8, by rw [he]; exact h9, h10⟩
theorem vx_L.kept {C n d : String} {A : Nat → Prop} {U : State} {H H1 : Heap} (h : vx_L C n d A U H) (hq : ∀ a : Nat, a < H.size → ¬ A a → H1[a]? = H[a]?) : vx_L C n d A U H1 := by
  obtain ⟨c, k, i, f, a, cell, h1, h2, h3, h4, h5, h6, h7, h8, h9, h10⟩ := h
  exact ⟨c, k, i, f, a, cell, h1, h2, h3, h4, by rw [hq a (Array.getElem?_eq_some_iff.mp h5).1 h10]; exact h5, h6, h7, h8, h9, h10⟩
theorem vx_L.narrow {C n d : String} {A B : Nat → Prop} {U : State} {H : Heap} (h : vx_L C n d A U H) (hAB : ∀ q, B q → A q) : vx_L C n d B U H := by
  obtain ⟨c, k, i, f, a, cell, h1, h2, h3, h4, h5, h6, h7, h8, h9, h10⟩ := h
  exact ⟨c, k, i, f, a, cell, h1, h2, h3, h4, h5, h6, h7, h8, h9, fun z => h10 (hAB _ z)⟩
theorem vx_L.word {C n d : String} {A : Nat → Prop} {s : State} {args : Array Value} (h : vx_L C n d A s s.heap) : (Cond.laysStatic C n d).before args s = true := by
  obtain ⟨c, k, i, f, a, cell, h1, h2, h3, h4, h5, h6, h7, h8, h9, -⟩ := h
  show (Cond.laysStatic C n d).holds args s none s [] = true
  exact Cond.laysStatic_of h1 h2 h3 h4 h5 h6 h7 h8 h9
/-- .. and what it holds: null or some reference -/
def vx_Zq (C n d : String) (A : Nat → Prop) (U : State) (H : Heap) : Prop := va_Zq C n d A U H ∧ vx_L C n d A U H
theorem vx_Zq.moved {C n d : String} {A : Nat → Prop} {u U : State} {H : Heap} (hvm : u.vm.Alike U.vm) (h : vx_Zq C n d A u H) : vx_Zq C n d A U H := ⟨va_Zq.moved hvm h.1, vx_L.moved hvm h.2⟩
theorem vx_Zq.kept {C n d : String} {A : Nat → Prop} {U : State} {H H1 : Heap} (h : vx_Zq C n d A U H) (hq : ∀ a : Nat, a < H.size → ¬ A a → H1[a]? = H[a]?) : vx_Zq C n d A U H1 := ⟨va_Zq.kept h.1 hq, vx_L.kept h.2 hq⟩
theorem vx_Zq.narrow {C n d : String} {A B : Nat → Prop} {U : State} {H : Heap} (h : vx_Zq C n d A U H) (hAB : ∀ q, B q → A q) : vx_Zq C n d B U H := ⟨va_Zq.narrow h.1 hAB, vx_L.narrow h.2 hAB⟩
theorem vx_Zqof {args : Array Value} {s : State} {C n d : String} {A : Nat → Prop} (hl : (Cond.laysStatic C n d).before args s = true) (hini : (Cond.initialized C).before args s = true) (h : (Cond.isRef (.static C n d)).before args s = true) (hA : ∀ a : Nat, a < s.heap.size → ¬ A a) : vx_Zq C n d A s s.heap := by
  refine ⟨va_Zqof hl hini h hA, ?_⟩
  obtain ⟨c, k, i, f, a, cell, h1, h2, h3, h4, h5, h6, h7, h8, h9⟩ := Cond.laysStatic_spec hl
  exact ⟨c, k, i, f, a, cell, h1, h2, h3, h4, h5, h6, h7, h8, h9, hA a (Array.getElem?_eq_some_iff.mp h5).1⟩
theorem vx_isRef {C n d : String} {v : Value} {A : Nat → Prop} {s : State} {args : Array Value} (h : va_Z C n d v A s s.heap) (hv : v.isRef = true) : (Cond.isRef (.static C n d)).before args s = true := by
  obtain ⟨cf, kf, fi, f, a, cell, h1, h2, h3, h4, h5, h6, h7, -⟩ := h
  have he : (Term.static C n d).eval args s none [] s = some v := by
    simp [Term.eval, State.fieldNamed?, h1, h2, h4, h5, h6, h7]
  simp only [Cond.before, Cond.holds, Cond.value, he]
  cases v <;> simp_all [Value.isRef]
theorem vx_isRefq {C n d : String} {A : Nat → Prop} {s : State} {args : Array Value} (h : va_Zq C n d A s s.heap) : (Cond.isRef (.static C n d)).before args s = true := by
  rcases h with h | ⟨t, h⟩
  · exact vx_isRef h rfl
  · exact vx_isRef h rfl
/-- the same frame, seen from here: as if the method were called anew in this heap -/
theorem vx_rebase {T : State} (X : Stand p l e R s m args below meth c T locs cells slots) {R' : Room} (hf : R'.frames ≤ R.frames) (hl : R'.locals ≤ R.locals) (hc : cells + R'.cells ≤ R.cells) (hs : slots + R'.slots ≤ R.slots) :
    Stand p l e R' ((T.setVm s.vm).setFrames (.invoking m args :: below)) m args below meth c T [] 0 0 := by
  have htop : (T.setVm s.vm).topJava?.isSome := X.here.top
  have hF : ((T.setVm s.vm).setFrames (.invoking m args :: below)).frames = .invoking m args :: below := State.frames_setFrames _ (State.cur_lt_of_top htop)
  obtain ⟨g₀, hg0⟩ := Option.isSome_iff_exists.mp htop
  obtain ⟨r, hr⟩ := State.topJava?_eq_some.mp hg0
  have hl9 : e.platform.stackLimits (T.setVm s.vm).me = e.platform.stackLimits s.me := X.limits
  have hb9 : (T.setVm s.vm).me.stackBytes = s.me.stackBytes := X.bytes
  refine ⟨X.admits, X.cas, X.clock, hF, ?_, X.hears, X.method, X.code, X.here, X.tail, X.warmed, ?_, ?_, ?_⟩
  · have h := X.room
    have hU : ((T.setVm s.vm).setFrames (.invoking m args :: below)).localsInUse = s.localsInUse := by
      rw [State.localsInUse_invoking hF (meth := meth) (c := c) X.method X.code, State.localsInUse_invoking X.frames X.method X.code]
    simp only [State.hasRoom, Bool.and_eq_true, decide_eq_true_eq] at h ⊢
    obtain ⟨⟨⟨⟨h1, h2, h3, h4, h5, h6⟩, h7⟩, h8⟩, h9⟩ := h
    rw [X.frames, List.length_cons] at h2 h3
    have q1 := X.heapSize
    have q2 := X.used
    simp only [hF, hU, List.length_cons, State.stackLimits_setFrames, State.stackBytes_setFrames, hl9, hb9]
    refine ⟨⟨⟨⟨by omega, by omega, by omega, by omega, by omega, h6⟩, ?_⟩, ?_⟩, X.book⟩
    · show T.heap.size + R'.cells ≤ e.platform.maxCells
      omega
    · show T.slotsUsed + R'.slots ≤ e.platform.maxSlots
      omega
  · rw [State.stackLimits_setFrames]; rfl
  · rw [State.stackBytes_setFrames]; rfl
  · refine ⟨?_, Nat.le_refl _, Nat.le_refl _, ?_, ?_, fun a c9 h9 => ⟨c9, h9, rfl, rfl, fun _ _ => rfl⟩⟩
    · obtain ⟨t, ht, -⟩ := State.frames_cons hr
      show T.setVm s.vm = { ((T.setVm s.vm).setFrames (.invoking m args :: below)).setFrames (T.setVm s.vm).frames with heap := T.heap, slotsUsed := T.slotsUsed }
      rw [State.setFrames_setFrames, State.setFrames_self ht]
      rfl
    · show T.slotsUsed = T.slotsUsed + ((T.heap.toList.drop T.heap.size).map (·.slots.size)).sum
      rw [List.drop_eq_nil_of_le (Nat.le_of_eq Array.length_toList)]
      rfl
    · show ((T.heap.toList.drop T.heap.size).map (·.slots.size)).sum ≤ 0
      rw [List.drop_eq_nil_of_le (Nat.le_of_eq Array.length_toList)]
      exact Nat.le_refl _
/-- 'throw new E()': new; dup; invokespecial; athrow -/
theorem vx_throw0 {cc : ByteArray} {pc : Nat} (hexec : p.tables.exec = Jvm.exec) (hb : c.code = cc) (hl : l.stackTraces = false) {own cls : String} {names : List String} {ik ic mc ms : Nat} {A : Nat → Prop}
    (hown : s.vm.findClass own = some m.cls) (hcls : Bundle.fit cls = true) (hnames : ∀ n ∈ names, Bundle.fit n = true)
    (hk : (Cond.classLink own ik cls).before args s = true) (hini : (Cond.initialized cls).before args s = true) (hat : ∀ w ∈ vx_at0 own ic cls names, w.before args s = true)
    (hgood : ∀ w ∈ Cond.classLink own ik cls :: Cond.initialized cls :: vx_at0 own ic cls names, vx_ot w = true)
    (hU : vx_Zq Bundle.tN "UNASSIGNED_STACK" Bundle.steD A s s.heap) (hN : vx_Zq Bundle.tN "SUPPRESSED_SENTINEL" Bundle.listD A s s.heap) (hS : va_S A s.heap H locs) (hsize : ls.size = c.maxLocals)
    (d0 : decode cc pc = .ok (.new ik, 3)) (d3 : decode cc (pc + 3) = .ok (.dup, 1)) (d4 : decode cc (pc + 4) = .ok (.invokespecial ic, 3)) (d7 : decode cc (pc + 7) = .ok (.athrow, 1))
    (hout : ∀ x ∈ c.exceptionTable.toList, covers x (pc + 7) = false)
    (hRframes : names.length + 3 < R.frames) (hRlocals : (rest.map fun v => v.category).sum + (13 * (names.length + 1) + 42) ≤ R.locals) (hRcells : cells + 1 ≤ R.cells) (hRslots : slots + 6 ≤ R.slots) (hlocks : meth.locks = false)
    (hx : ∀ t : State, s.vm.Alike t.vm → H.size ≤ t.heap.size → (∀ q : Nat, q < H.size → t.heap[q]? = H[q]?) → XC cls s t)
    (hf : ∀ z ∈ locs, free z.base) (hc : cells + 1 ≤ mc) (hs : slots + 6 ≤ ms) :
    W p l e R s m args below meth c H locs cells slots (vx_MQ below Qc XC args s mc ms free) (F0 m pc ls rest) := by
  intro T hT X
  have htr : e.platform.stackTraces = false := (show e.platform.stackTraces = l.stackTraces by rw [X.admits.platform]).trans hl
  have Y := vx_rebase X (R' := { frames := R.frames, locals := R.locals, cells := 1, slots := 6 }) (Nat.le_refl _) (Nat.le_refl _) hRcells hRslots
  obtain ⟨s', hA⟩ : ∃ z, z = (T.setVm s.vm).setFrames (.invoking m args :: below) := ⟨_, rfl⟩
  rw [← hA] at Y
  have hvm : s'.vm = s.vm := by rw [hA]; rfl
  have hhp : s'.heap = H := by rw [hA]; exact hT
  have hW0 : s.WarmedH s'.vm := by rw [hvm]; exact State.WarmedH.refl s
  have hat' : ∀ w ∈ vx_at0 own ic cls names, w.before args s' = true := fun w hw => vx_ot_at hW0 hvm.symm (hgood w (List.mem_cons_of_mem _ (List.mem_cons_of_mem _ hw))) (hat w hw)
  have hk' : (Cond.classLink own ik cls).before args s' = true := vx_ot_at hW0 hvm.symm (hgood _ List.mem_cons_self) hk
  have hini' : (Cond.initialized cls).before args s' = true := vx_ot_at hW0 hvm.symm (hgood _ (List.mem_cons_of_mem _ List.mem_cons_self)) hini
  have hU' : vx_Zq Bundle.tN "UNASSIGNED_STACK" Bundle.steD A s' s'.heap := by rw [hhp]; exact vx_Zq.moved hW0.alike (hU.kept hS.2.1)
  have hN' : vx_Zq Bundle.tN "SUPPRESSED_SENTINEL" Bundle.listD A s' s'.heap := by rw [hhp]; exact vx_Zq.moved hW0.alike (hN.kept hS.2.1)
  have h : ∀ w ∈ Bundle.ownAtoms0 own ic cls names, w.before args s' = true := vx_own hat' (vx_isRefq hU'.1) (vx_isRefq hN'.1) hU'.2.word hN'.2.word
  have hown' : s'.vm.findClass own = some m.cls := by rw [hvm]; exact hown
  have hins : (Cond.instantiable cls 6).before args s' = true := h _ (by simp [Bundle.ownAtoms0])
  obtain ⟨vm₁, cX, kX, hfX, hkX, -, -, X₁, st1⟩ := Y.newCold hexec (own := own) (C := cls) (index := ik) (n := 6) hown' hk' hins hini'
    (g := F0 m pc ls rest) rfl (by rw [hb]; exact d0) (Nat.le_refl _) (Nat.le_refl _)
  generalize hT1 : (T.setVm vm₁).pushCell { cls := cX, slots := kX.instanceTypes.map defaultValue, vm := .none } = T1 at X₁ st1
  have hcat : (Value.ref T.heap.size).category = 1 := rfl
  have hcellA : T1.heap[T.heap.size]? = some (freshCell cX kX) := by rw [← hT1]; exact State.heap_pushCell_size _ _
  have d3' : decode c.code (pc + 3) = .ok (.dup, 1) := by rw [hb]; exact d3
  obtain ⟨U, hsteps, hrun, hend, hW, hsame, ce, hce, hO⟩ := X₁.ctorThrow0 hexec htr (own := own) (cls := cls) (names := names) (ic := ic) hown' hcls hnames h (fun x hx => nomatch hx) hfX hkX hcellA (by rw [hhp, hT]; exact Nat.le_refl _)
    (g := { method := m, pc := pc + 4, locals := ls, stack := .ref T.heap.size :: .ref T.heap.size :: rest, locked := none }) rfl hsize rfl rfl (rest := rest) rfl
    (by rw [hb]; exact d4) (by rw [hb]; exact d7) hout hRframes (by simp only [List.map_cons, List.sum_cons, hcat]; omega) hlocks
  obtain ⟨f1, f2⟩ := vx_frame hsame
  rw [hhp] at f1 f2
  have hWs : s.WarmedH U.vm := State.WarmedH.trans hW0 hW
  have hcl : s.vm.findClass cls = some ce.cls := by
    have h9 := hO.cls
    rw [hvm] at h9
    exact h9
  have hall : s.sameButNew ({ U with vm := s.vm } : State) locs mc ms := by
    subst hA
    obtain ⟨e1, e2⟩ := hsame
    rw [State.setFrames_setFrames] at e1
    have h2 : (T.setVm s.vm).sameButNew ({ U with vm := s.vm } : State) [] (0 + 1) (0 + 6) := ⟨e1, e2⟩
    have h3 := X.same.trans h2
    rw [List.append_nil] at h3
    exact h3.mono hc hs
  refine ⟨U, ?_, .threw T.heap.size, hrun, hend, Or.inr ⟨T.heap.size, rfl, cls, ce, locs, hx U hWs.alike f1 (fun q hq => f2 q hq (fun z hz => nomatch hz)), hce, hO.vm, hcl, hWs, hall, hf⟩⟩
  refine st1 _ ?_
  show Steps p.tables e below (T1.setTop { method := m, pc := pc + 3, locals := ls, stack := .ref T.heap.size :: rest, locked := none }) _
  jvm_step X₁.here [X₁.here.top, hexec, d3', Value.category]
  exact hsteps
/-- 'throw new E("text")': new; dup; ldc; invokespecial; athrow -/
theorem vx_throwS {cc : ByteArray} {pc : Nat} (hexec : p.tables.exec = Jvm.exec) (hb : c.code = cc) (hl : l.stackTraces = false) {own cls text : String} {names : List String} {ik is ic mc ms sa : Nat} {A : Nat → Prop}
    (hown : s.vm.findClass own = some m.cls) (hcls : Bundle.fit cls = true) (hnames : ∀ n ∈ names, Bundle.fit n = true)
    (hk : (Cond.classLink own ik cls).before args s = true) (hini : (Cond.initialized cls).before args s = true) (hstr : vk_R own is text sa s) (hat : ∀ w ∈ vx_atS own ic cls names, w.before args s = true)
    (hgood : ∀ w ∈ Cond.classLink own ik cls :: Cond.initialized cls :: vx_atS own ic cls names, vx_ot w = true)
    (hU : vx_Zq Bundle.tN "UNASSIGNED_STACK" Bundle.steD A s s.heap) (hN : vx_Zq Bundle.tN "SUPPRESSED_SENTINEL" Bundle.listD A s s.heap) (hS : va_S A s.heap H locs) (hsize : ls.size = c.maxLocals)
    (d0 : decode cc pc = .ok (.new ik, 3)) (d3 : decode cc (pc + 3) = .ok (.dup, 1)) (d4 : decode cc (pc + 4) = .ok (.ldc is, 2)) (d6 : decode cc (pc + 6) = .ok (.invokespecial ic, 3)) (d9 : decode cc (pc + 9) = .ok (.athrow, 1))
    (hout : ∀ x ∈ c.exceptionTable.toList, covers x (pc + 9) = false)
    (hRframes : names.length + 3 < R.frames) (hRlocals : (rest.map fun v => v.category).sum + (13 * (names.length + 1) + 43) ≤ R.locals) (hRcells : cells + 1 ≤ R.cells) (hRslots : slots + 6 ≤ R.slots) (hlocks : meth.locks = false)
    (hx : ∀ t : State, s.vm.Alike t.vm → H.size ≤ t.heap.size → (∀ q : Nat, q < H.size → t.heap[q]? = H[q]?) → XC cls s t)
    (hf : ∀ z ∈ locs, free z.base) (hc : cells + 1 ≤ mc) (hs : slots + 6 ≤ ms) :
    W p l e R s m args below meth c H locs cells slots (vx_MQ below Qc XC args s mc ms free) (F0 m pc ls rest) := by
  intro T hT X
  have htr : e.platform.stackTraces = false := (show e.platform.stackTraces = l.stackTraces by rw [X.admits.platform]).trans hl
  have Y := vx_rebase X (R' := { frames := R.frames, locals := R.locals, cells := 1, slots := 6 }) (Nat.le_refl _) (Nat.le_refl _) hRcells hRslots
  obtain ⟨s', hA⟩ : ∃ z, z = (T.setVm s.vm).setFrames (.invoking m args :: below) := ⟨_, rfl⟩
  rw [← hA] at Y
  have hvm : s'.vm = s.vm := by rw [hA]; rfl
  have hhp : s'.heap = H := by rw [hA]; exact hT
  have hW0 : s.WarmedH s'.vm := by rw [hvm]; exact State.WarmedH.refl s
  have hat' : ∀ w ∈ vx_atS own ic cls names, w.before args s' = true := fun w hw => vx_ot_at hW0 hvm.symm (hgood w (List.mem_cons_of_mem _ (List.mem_cons_of_mem _ hw))) (hat w hw)
  have hk' : (Cond.classLink own ik cls).before args s' = true := vx_ot_at hW0 hvm.symm (hgood _ List.mem_cons_self) hk
  have hini' : (Cond.initialized cls).before args s' = true := vx_ot_at hW0 hvm.symm (hgood _ (List.mem_cons_of_mem _ List.mem_cons_self)) hini
  have hU' : vx_Zq Bundle.tN "UNASSIGNED_STACK" Bundle.steD A s' s'.heap := by rw [hhp]; exact vx_Zq.moved hW0.alike (hU.kept hS.2.1)
  have hN' : vx_Zq Bundle.tN "SUPPRESSED_SENTINEL" Bundle.listD A s' s'.heap := by rw [hhp]; exact vx_Zq.moved hW0.alike (hN.kept hS.2.1)
  have h : ∀ w ∈ Bundle.ownAtoms own ic cls names, w.before args s' = true := vx_own hat' (vx_isRefq hU'.1) (vx_isRefq hN'.1) hU'.2.word hN'.2.word
  have hown' : s'.vm.findClass own = some m.cls := by rw [hvm]; exact hown
  have hins : (Cond.instantiable cls 6).before args s' = true := h _ (by simp [Bundle.ownAtoms])
  obtain ⟨vm₁, cX, kX, hfX, hkX, -, -, X₁, st1⟩ := Y.newCold hexec (own := own) (C := cls) (index := ik) (n := 6) hown' hk' hins hini'
    (g := F0 m pc ls rest) rfl (by rw [hb]; exact d0) (Nat.le_refl _) (Nat.le_refl _)
  generalize hT1 : (T.setVm vm₁).pushCell { cls := cX, slots := kX.instanceTypes.map defaultValue, vm := .none } = T1 at X₁ st1
  have hcat : (Value.ref T.heap.size).category = 1 := rfl
  have hcellA : T1.heap[T.heap.size]? = some (freshCell cX kX) := by rw [← hT1]; exact State.heap_pushCell_size _ _
  have d3' : decode c.code (pc + 3) = .ok (.dup, 1) := by rw [hb]; exact d3
  have d4' : decode c.code (pc + 4) = .ok (.ldc is, 2) := by rw [hb]; exact d4
  have hstr' : vk_R own is text sa s' := vk_R.warm hW0 hstr
  obtain ⟨U, hsteps, hrun, hend, hW, hsame, ce, hce, hO⟩ := X₁.ctorThrowS hexec htr (own := own) (cls := cls) (names := names) (ic := ic) hown' hcls hnames h (fun x hx => nomatch hx) hfX hkX hcellA (by rw [hhp, hT]; exact Nat.le_refl _) (msg := .ref sa) rfl
    (g := { method := m, pc := pc + 6, locals := ls, stack := .ref sa :: .ref T.heap.size :: .ref T.heap.size :: rest, locked := none }) rfl hsize rfl rfl (rest := rest) rfl
    (by rw [hb]; exact d6) (by rw [hb]; exact d9) hout hRframes (by simp only [List.map_cons, List.sum_cons, hcat]; omega) hlocks
  obtain ⟨f1, f2⟩ := vx_frame hsame
  rw [hhp] at f1 f2
  have hWs : s.WarmedH U.vm := State.WarmedH.trans hW0 hW
  have hcl : s.vm.findClass cls = some ce.cls := by
    have h9 := hO.cls
    rw [hvm] at h9
    exact h9
  have hall : s.sameButNew ({ U with vm := s.vm } : State) locs mc ms := by
    subst hA
    obtain ⟨e1, e2⟩ := hsame
    rw [State.setFrames_setFrames] at e1
    have h2 : (T.setVm s.vm).sameButNew ({ U with vm := s.vm } : State) [] (0 + 1) (0 + 6) := ⟨e1, e2⟩
    have h3 := X.same.trans h2
    rw [List.append_nil] at h3
    exact h3.mono hc hs
  refine ⟨U, ?_, .threw T.heap.size, hrun, hend, Or.inr ⟨T.heap.size, rfl, cls, ce, locs, hx U hWs.alike f1 (fun q hq => f2 q hq (fun z hz => nomatch hz)), hce, hO.vm, hcl, hWs, hall, hf⟩⟩
  refine st1 _ ?_
  show Steps p.tables e below (T1.setTop { method := m, pc := pc + 3, locals := ls, stack := .ref T.heap.size :: rest, locked := none }) _
  jvm_step X₁.here [X₁.here.top, hexec, d3', Value.category]
  exact X₁.ldcString hexec (own := own) (text := text) (index := is) (a := sa) hown' hstr'.1 hstr'.2
    (g := { method := m, pc := pc + 4, locals := ls, stack := .ref T.heap.size :: .ref T.heap.size :: rest, locked := none }) rfl d4' _ hsteps
/-- 'throw new E("text")', the text by a wide index -/
theorem vx_throwSW {cc : ByteArray} {pc : Nat} (hexec : p.tables.exec = Jvm.exec) (hb : c.code = cc) (hl : l.stackTraces = false) {own cls text : String} {names : List String} {ik is ic mc ms sa : Nat} {A : Nat → Prop}
    (hown : s.vm.findClass own = some m.cls) (hcls : Bundle.fit cls = true) (hnames : ∀ n ∈ names, Bundle.fit n = true)
    (hk : (Cond.classLink own ik cls).before args s = true) (hini : (Cond.initialized cls).before args s = true) (hstr : vk_R own is text sa s) (hat : ∀ w ∈ vx_atS own ic cls names, w.before args s = true)
    (hgood : ∀ w ∈ Cond.classLink own ik cls :: Cond.initialized cls :: vx_atS own ic cls names, vx_ot w = true)
    (hU : vx_Zq Bundle.tN "UNASSIGNED_STACK" Bundle.steD A s s.heap) (hN : vx_Zq Bundle.tN "SUPPRESSED_SENTINEL" Bundle.listD A s s.heap) (hS : va_S A s.heap H locs) (hsize : ls.size = c.maxLocals)
    (d0 : decode cc pc = .ok (.new ik, 3)) (d3 : decode cc (pc + 3) = .ok (.dup, 1)) (d4 : decode cc (pc + 4) = .ok (.ldc_w is, 3)) (d7 : decode cc (pc + 7) = .ok (.invokespecial ic, 3)) (d10 : decode cc (pc + 10) = .ok (.athrow, 1))
    (hout : ∀ x ∈ c.exceptionTable.toList, covers x (pc + 10) = false)
    (hRframes : names.length + 3 < R.frames) (hRlocals : (rest.map fun v => v.category).sum + (13 * (names.length + 1) + 43) ≤ R.locals) (hRcells : cells + 1 ≤ R.cells) (hRslots : slots + 6 ≤ R.slots) (hlocks : meth.locks = false)
    (hx : ∀ t : State, s.vm.Alike t.vm → H.size ≤ t.heap.size → (∀ q : Nat, q < H.size → t.heap[q]? = H[q]?) → XC cls s t)
    (hf : ∀ z ∈ locs, free z.base) (hc : cells + 1 ≤ mc) (hs : slots + 6 ≤ ms) :
    W p l e R s m args below meth c H locs cells slots (vx_MQ below Qc XC args s mc ms free) (F0 m pc ls rest) := by
  intro T hT X
  have htr : e.platform.stackTraces = false := (show e.platform.stackTraces = l.stackTraces by rw [X.admits.platform]).trans hl
  have Y := vx_rebase X (R' := { frames := R.frames, locals := R.locals, cells := 1, slots := 6 }) (Nat.le_refl _) (Nat.le_refl _) hRcells hRslots
  obtain ⟨s', hA⟩ : ∃ z, z = (T.setVm s.vm).setFrames (.invoking m args :: below) := ⟨_, rfl⟩
  rw [← hA] at Y
  have hvm : s'.vm = s.vm := by rw [hA]; rfl
  have hhp : s'.heap = H := by rw [hA]; exact hT
  have hW0 : s.WarmedH s'.vm := by rw [hvm]; exact State.WarmedH.refl s
  have hat' : ∀ w ∈ vx_atS own ic cls names, w.before args s' = true := fun w hw => vx_ot_at hW0 hvm.symm (hgood w (List.mem_cons_of_mem _ (List.mem_cons_of_mem _ hw))) (hat w hw)
  have hk' : (Cond.classLink own ik cls).before args s' = true := vx_ot_at hW0 hvm.symm (hgood _ List.mem_cons_self) hk
  have hini' : (Cond.initialized cls).before args s' = true := vx_ot_at hW0 hvm.symm (hgood _ (List.mem_cons_of_mem _ List.mem_cons_self)) hini
  have hU' : vx_Zq Bundle.tN "UNASSIGNED_STACK" Bundle.steD A s' s'.heap := by rw [hhp]; exact vx_Zq.moved hW0.alike (hU.kept hS.2.1)
  have hN' : vx_Zq Bundle.tN "SUPPRESSED_SENTINEL" Bundle.listD A s' s'.heap := by rw [hhp]; exact vx_Zq.moved hW0.alike (hN.kept hS.2.1)
  have h : ∀ w ∈ Bundle.ownAtoms own ic cls names, w.before args s' = true := vx_own hat' (vx_isRefq hU'.1) (vx_isRefq hN'.1) hU'.2.word hN'.2.word
  have hown' : s'.vm.findClass own = some m.cls := by rw [hvm]; exact hown
  have hins : (Cond.instantiable cls 6).before args s' = true := h _ (by simp [Bundle.ownAtoms])
  obtain ⟨vm₁, cX, kX, hfX, hkX, -, -, X₁, st1⟩ := Y.newCold hexec (own := own) (C := cls) (index := ik) (n := 6) hown' hk' hins hini'
    (g := F0 m pc ls rest) rfl (by rw [hb]; exact d0) (Nat.le_refl _) (Nat.le_refl _)
  generalize hT1 : (T.setVm vm₁).pushCell { cls := cX, slots := kX.instanceTypes.map defaultValue, vm := .none } = T1 at X₁ st1
  have hcat : (Value.ref T.heap.size).category = 1 := rfl
  have hcellA : T1.heap[T.heap.size]? = some (freshCell cX kX) := by rw [← hT1]; exact State.heap_pushCell_size _ _
  have d3' : decode c.code (pc + 3) = .ok (.dup, 1) := by rw [hb]; exact d3
  have d4' : decode c.code (pc + 4) = .ok (.ldc_w is, 3) := by rw [hb]; exact d4
  have hstr' : vk_R own is text sa s' := vk_R.warm hW0 hstr
  obtain ⟨U, hsteps, hrun, hend, hW, hsame, ce, hce, hO⟩ := X₁.ctorThrowS hexec htr (own := own) (cls := cls) (names := names) (ic := ic) hown' hcls hnames h (fun x hx => nomatch hx) hfX hkX hcellA (by rw [hhp, hT]; exact Nat.le_refl _) (msg := .ref sa) rfl
    (g := { method := m, pc := pc + 7, locals := ls, stack := .ref sa :: .ref T.heap.size :: .ref T.heap.size :: rest, locked := none }) rfl hsize rfl rfl (rest := rest) rfl
    (by rw [hb]; exact d7) (by rw [hb]; exact d10) hout hRframes (by simp only [List.map_cons, List.sum_cons, hcat]; omega) hlocks
  obtain ⟨f1, f2⟩ := vx_frame hsame
  rw [hhp] at f1 f2
  have hWs : s.WarmedH U.vm := State.WarmedH.trans hW0 hW
  have hcl : s.vm.findClass cls = some ce.cls := by
    have h9 := hO.cls
    rw [hvm] at h9
    exact h9
  have hall : s.sameButNew ({ U with vm := s.vm } : State) locs mc ms := by
    subst hA
    obtain ⟨e1, e2⟩ := hsame
    rw [State.setFrames_setFrames] at e1
    have h2 : (T.setVm s.vm).sameButNew ({ U with vm := s.vm } : State) [] (0 + 1) (0 + 6) := ⟨e1, e2⟩
    have h3 := X.same.trans h2
    rw [List.append_nil] at h3
    exact h3.mono hc hs
  refine ⟨U, ?_, .threw T.heap.size, hrun, hend, Or.inr ⟨T.heap.size, rfl, cls, ce, locs, hx U hWs.alike f1 (fun q hq => f2 q hq (fun z hz => nomatch hz)), hce, hO.vm, hcl, hWs, hall, hf⟩⟩
  refine st1 _ ?_
  show Steps p.tables e below (T1.setTop { method := m, pc := pc + 3, locals := ls, stack := .ref T.heap.size :: rest, locked := none }) _
  jvm_step X₁.here [X₁.here.top, hexec, d3', Value.category]
  exact X₁.ldcStringW hexec (own := own) (text := text) (index := is) (a := sa) hown' hstr'.1 hstr'.2
    (g := { method := m, pc := pc + 4, locals := ls, stack := .ref T.heap.size :: .ref T.heap.size :: rest, locked := none }) rfl d4' _ hsteps
end Ends
section Bodies
variable {l : Launch}
theorem vx_ofW {y : MethodName} {ws ws' : List Cond} {rm : Room} {Pc : Array Value → State → Prop} {Qc : Array Value → State → Outcome → State → Prop} {XC : String → State → State → Prop} {mc ms : Nat} {free : Addr → Prop} {cc : ByteArray} {maxL : Nat} {ret : Option FieldType}
    (hy : plainName y.cls = true) (hw : ws = Cond.code y cc maxL ret :: ws')
    (body : ∀ p e s m args below meth c s₁, BodyLoose p l y (headSpec ws rm) cc maxL ret e s m args below meth c s₁ → c.maxLocals = maxL → (∀ x ∈ c.exceptionTable.toList, False) → Pc args s →
      W p l e (headSpec ws rm).room s m args below meth c s.heap [] 0 0 (vx_MQ below Qc XC args s mc ms free) (entryFrame m args maxL)) : vx_Met l y ws rm Pc Qc XC mc ms free := by
  refine MetFree.of_bodyS (code := cc) (maxLocals := maxL) (ret := ret) hy ?_ ?_
  · intro args s m h hn
    obtain ⟨meth, c, h1, h2, h3, h4, h5, h6, -, -⟩ := Cond.code_spec hn (atoms_spec (ws := ws) h _ (by rw [hw]; exact List.mem_cons_self))
    exact ⟨meth, c, h1, h2, h3, h4, h5, h6⟩
  · intro p e s m args below meth c s₁ B hml hP _
    have hh0 : s₁.heap = s.heap := by rw [B.state]; rfl
    have ht : ∀ x ∈ c.exceptionTable.toList, False := by
      obtain ⟨meth9, c9, h1, h2, -, -, -, -, h7, -⟩ := Cond.code_spec B.named (atoms_spec (ws := ws) B.pre _ (by rw [hw]; exact List.mem_cons_self))
      cases Option.some.inj (h1.symm.trans B.method)
      cases Option.some.inj (h2.symm.trans (Stand.of_body B).code)
      intro x hx
      rw [Array.isEmpty_iff.mp h7] at hx
      cases hx
    obtain ⟨t, a1, o, b1, b2, b3⟩ := body p e s m args below meth c s₁ B hml ht hP s₁ hh0 (Stand.of_body B)
    exact ⟨t, o, a1, b1, b2, b3⟩
/-- the table of a body with handlers -/
theorem vx_table {p : Program} {x y : MethodName} {S : Spec} {cc bytes : ByteArray} {maxL maxL' : Nat} {ret ret' : Option FieldType} {e : Env} {s s₁ : State} {m : MethodId} {args : Array Value} {below : List Frame} {meth : Method} {c : Code} {hh : List (Nat × Nat × Nat × Nat)}
    (B : BodyLoose p l y S cc maxL ret e s m args below meth c s₁) (h : (Cond.codeWith y bytes maxL' ret' hh).before args s = true) : c.exceptionTable.toList = tableOf hh := by
  obtain ⟨m9, meth9, c9, hn9, h1, h2, -, -, h6, -⟩ := Cond.codeWith_spec h
  cases Option.some.inj (hn9.symm.trans B.named)
  cases Option.some.inj (h1.symm.trans B.method)
  cases Option.some.inj (h2.symm.trans (Stand.of_body B).code)
  rw [← h6, table_eq]
end Bodies
end VXA
/-! ===== END ===== -/
/-! ===== BEGIN a static call of a method with an exception table ===== -/
section VXS
variable {p : Program} {l : Launch} {e : Env} {R : Room} {s : State} {m : MethodId} {args : Array Value} {below : List Frame} {meth : Method} {c : Code} {T : State} {H : Heap} {locs : List Loc} {cells slots : Nat}
abbrev vx_CSW (R : Room) (s : State) (args : Array Value) (own : String) (index : Nat) (y : MethodName) (bytes : ByteArray) (maxL : Nat) (ret : Option FieldType) (hh : List (Nat × Nat × Nat × Nat)) (ws : List Cond) (rm : Room) (mc ms n : Nat) : Prop :=
  (rm.cells = mc ∧ rm.slots = ms ∧ rm.frames + 1 ≤ R.frames ∧ 8 + (maxL + 11) + rm.locals ≤ R.locals ∧ (∀ w ∈ ws, ∀ (a' : Array Value) (U : State), s.WarmedH U.vm → w.before a' U = true) ∧ Cond.codeWith y bytes maxL ret hh ∈ ws) ∧
  (Cond.codeWith y bytes maxL ret hh).before args s = true ∧ (Cond.initialized y.cls).before args s = true ∧ (y.cls ≠ "java/lang/invoke/MethodHandle" ∧ y.cls ≠ "java/lang/invoke/VarHandle") ∧
  (∀ sig, parseMethodDescriptor y.desc = some sig → n = sig.parameters.length) ∧ (Cond.methodLink own index y).before args s = true ∧ (Cond.static y).before args s = true
theorem vx_cwSW {own : String} {index maxL mc ms : Nat} {y : MethodName} {bytes : ByteArray} {ret : Option FieldType} {hh : List (Nat × Nat × Nat × Nat)} {Ts ws ws' : List Cond} {rm : Room} (n : Nat) (ht : ∀ w ∈ Ts, w.before args s = true) (hT : GoodIn Ts (va_wsS own index y ws)) (hw : ws = Cond.codeWith y bytes maxL ret hh :: ws') (hrc : rm.cells = mc) (hrs : rm.slots = ms)
    (hd : y.cls ≠ "java/lang/invoke/MethodHandle" ∧ y.cls ≠ "java/lang/invoke/VarHandle" ∧ (parseMethodDescriptor y.desc).map (fun d => d.parameters.length) = some n) (hR : rm.frames + 1 ≤ R.frames ∧ 8 + (maxL + 11) + rm.locals ≤ R.locals) :
    vx_CSW R s args own index y bytes maxL ret hh ws rm mc ms n := by
  have ok : ∀ w ∈ va_wsS own index y ws, w.before args s = true := fun w h => ht w (hT w h).1
  have hG : GoodIn Ts ws := fun w h => hT w (by unfold va_wsS; exact List.mem_append_right _ h)
  have hc : Cond.codeWith y bytes maxL ret hh ∈ ws := by rw [hw]; exact List.mem_cons_self
  refine ⟨⟨hrc, hrs, hR.1, hR.2, pay_in ht hG, hc⟩, ht _ (hG _ hc).1, ok _ (by simp [va_wsS]), ⟨hd.1, hd.2.1⟩, fun sig h => ?_, ok _ (by simp [va_wsS]), ok _ (by simp [va_wsS])⟩
  have h2 := hd.2.2
  rw [h] at h2
  exact (Option.some.inj h2).symm
theorem vx_callSW (X : Stand p l e R s m args below meth c T locs cells slots) (hexec : p.tables.exec = Jvm.exec) {own : String} {index : Nat} {y : MethodName} {bytes : ByteArray} {maxL : Nat} {ret : Option FieldType} {hh : List (Nat × Nat × Nat × Nat)}
    (hown : s.vm.findClass own = some m.cls) (hlink : (Cond.methodLink own index y).before args s = true) (hstat : (Cond.static y).before args s = true) (hinit : (Cond.initialized y.cls).before args s = true)
    (hcode : (Cond.codeWith y bytes maxL ret hh).before args s = true) (hy : y.cls ≠ "java/lang/invoke/MethodHandle" ∧ y.cls ≠ "java/lang/invoke/VarHandle")
    {W9 : Nat} {Pre : Pt → Array Value → Prop} {Post : Pt → Array Value → Option Value → Pt → Prop} (hK : Back l R p e below s args y 3 W9 Pre Post)
    {g : JFrame} (hg : g.method = m) (hsize : g.locals.size = c.maxLocals) {argsL rest : List Value} (hlen : ∀ sig, parseMethodDescriptor y.desc = some sig → argsL.length = sig.parameters.length)
    (hstack : g.stack = argsL.reverse ++ rest) (hW : 2 * g.monitorRoom + (rest.map fun v => v.category).sum ≤ W9) (hdg : decode c.code g.pc = .ok (.invokestatic index, 3))
    (hpre : ∀ vm₁, s.WarmedH vm₁ → Pre ⟨T.setVm vm₁, locs, cells, slots⟩ argsL.toArray) :
    ∃ (v : Option Value) (vm₁ : Vm) (B : Pt), s.WarmedH vm₁ ∧ Stand p l e R s m args below meth c B.U B.locs B.cells B.slots ∧ Post ⟨T.setVm vm₁, locs, cells, slots⟩ argsL.toArray v B ∧
      ∀ target, Steps p.tables e below (B.U.setTop { g with pc := g.pc + 3, stack := v.toList ++ rest }) target → Steps p.tables e below (T.setTop g) target := by
  obtain ⟨mk, methM, cM, hnamed, hmethM, -, -, -, -, -, -, hsigM⟩ := Cond.codeWith_spec hcode
  have hstatic : methM.isStatic = true := Cond.static_spec hnamed hmethM hstat
  obtain ⟨kP, hkP, -⟩ := className_of_methodNamed hnamed
  have hinitP : kP.init = .initialized := Cond.initialized_spec (findClass_of_methodNamed hnamed) hkP hinit
  obtain ⟨vm₁, X₁, hstep₁⟩ := X.invokestatic hexec hown hlink hnamed hmethM hstatic hkP hinitP hy (g := g) hg (argsL := argsL) (rest := rest) (hlen _ hsigM) hstack hdg
  obtain ⟨v, B, X', hpost, hsteps⟩ := hK m meth c ⟨T.setVm vm₁, locs, cells, slots⟩ { g with stack := rest } (.invokestatic index) mk argsL.toArray X₁ hg hsize hdg hW (X₁.named hnamed) (hpre vm₁ X₁.warmed)
  exact ⟨v, vm₁, B, X₁.warmed, X', hpost, fun target h => hstep₁ _ fun acts => by rw [doInvoke_state]; exact hsteps.trans h⟩
theorem vx_runSW {y : MethodName} {bytes cc : ByteArray} {maxL nL mc ms n index : Nat} {ret : Option FieldType} {hh : List (Nat × Nat × Nat × Nat)} {ws : List Cond} {rm : Room} {Pc : Array Value → State → Prop} {Qc : Array Value → State → Outcome → State → Prop} {free : Addr → Prop} {Ts : List Cond} {own : String} {As rest : List Value} {g : JFrame}
    (S : CallFix p m c cc nL s args Ts own) (hM : Met l y ws rm Pc Qc mc ms free) (cw : vx_CSW R s args own index y bytes maxL ret hh ws rm mc ms n) (hp : PreS s H Pc As)
    (hg : g.method = m) (hn : As.length = n) (hsize : g.locals.size = nL) (hstack : g.stack = As.reverse ++ rest) (hW : 2 * g.monitorRoom + (rest.map fun v => v.category).sum ≤ 8) (hdg : decode cc g.pc = .ok (.invokestatic index, 3)) (hf : cells + mc ≤ R.cells ∧ slots + ms ≤ R.slots) :
    va_Run p l e R s m args below meth c H locs cells slots mc ms g rest (Qc As.toArray) (free) := by
  obtain ⟨⟨hrc, hrs, hfr, hlo, hws, hcw⟩, hcode, hini, hy, hlen, hl, hstt⟩ := cw
  have hK : Back l R p e below s args y 3 8 (PreOf R mc ms Pc) (PostOf Qc mc ms free) := va_backW (hh := hh) (bytes := bytes) (maxL := maxL) (ret := ret) hM hp.1 hrc hrs hfr hlo hws hcw (fun a' U hW => word_at hW (Or.inl (by first | rfl | simp [Cond.onTables, Cond.keeps, Cond.steady])) hini)
  obtain ⟨hx, hb, hml, ho, -⟩ := S
  intro T hT X
  obtain ⟨v, vm₁, ⟨U', l2, c2, s2⟩, hW₁, X', ⟨g', mk, t, L, e1, e2, hq, h1, hL, h2, h3⟩, st⟩ := vx_callSW X hx (hh := hh) (bytes := bytes) (maxL := maxL) (ret := ret) ho hl hstt hini hcode hy hK hg (hsize.trans hml.symm) (argsL := As) (rest := rest) (fun sig h => hn.trans (hlen sig h)) hstack hW (by rw [hb]; exact hdg)
    (fun vm₁ hW₁ => ⟨hf.1, hf.2, hp.2 (T.setVm vm₁) hT hW₁⟩)
  dsimp only [Pt.U, Pt.locs, Pt.cells, Pt.slots] at X' e1 e2 h1 h2 h3 st
  subst h1; subst h2; subst h3
  exact ⟨v, (T.setVm vm₁).calling g' mk As.toArray, t, U', L, hT, X', hL, e1, e2, hq, st⟩
/-- not caught here, past rows that name other classes: it goes on to the caller -/
theorem vx_outP {p : Program} {l : Launch} {e : Env} {R : Room} {s : State} {m : MethodId} {args : Array Value} {below : List Frame} {meth : Method} {c : Code} {H : Heap} {locs : List Loc} {cells slots : Nat} {free : Addr → Prop} {ls : Array Slot} {rest : List Value} {Qc : Array Value → State → Outcome → State → Prop} {XC : String → State → State → Prop}
    {pc : Nat} {own E : String} {ce : Cell} {q : Addr} {mc ms : Nat} (hown : s.vm.findClass own = some m.cls) (hlocks : meth.locks = false)
    (hpass : ∀ z ∈ c.exceptionTable.toList, covers z pc = false ∨ (z.catchType ≠ 0 ∧ ∃ nm : String, (Cond.classLink own z.catchType nm).before args s = true ∧ va_Nc E nm s)) (hcell : H[q]? = some ce) (hv : ce.vm = .none) (hcl : s.vm.findClass E = some ce.cls)
    (hx : ∀ t : State, t.heap = H → s.vm.Alike t.vm → XC E s t) (hf : ∀ z ∈ locs, free z.base) (hc : cells ≤ mc) (hs : slots ≤ ms) :
    vx_W p l e R s m args below meth c H locs cells slots (vx_MQ below Qc XC args s mc ms free) (F0 m pc ls rest) q := by
  intro T hT X
  have hpl : e.platform.magicAccessors = ({} : Platform).magicAccessors := by rw [X.admits.platform]
  obtain ⟨vm', hW', X', st⟩ := X.outThrough hlocks q (g := F0 m pc ls rest) rfl rfl rfl (cell := ce) (by rw [hT]; exact hcell) (by rw [hv]; rfl)
    (by obtain ⟨k9, h9, -⟩ := Vm.findClass_spec hcl; exact ⟨k9, h9⟩) (fun z hz => by
      rcases hpass z hz with h | ⟨hz0, nm, hl1, hn1⟩
      · exact Or.inl h
      · obtain ⟨c6, hc6, hcl6⟩ := Cond.classLink_spec hown hl1 e.platform hpl
        obtain ⟨a8, b8, h1, h2, h3⟩ := hn1
        cases Option.some.inj (h1.symm.trans hcl)
        cases Option.some.inj (h2.symm.trans hc6)
        exact Or.inr ⟨hz0, _, hcl6, h3⟩)
  obtain ⟨g₀, hfr⟩ := X'.frames_eq
  have hcell9 : ((T.setVm vm').setFrames (.throwing q :: below)).heap[q]? = some ce := by
    show T.heap[q]? = some ce
    rw [hT]; exact hcell
  have hend : Ended ((T.setVm vm').setFrames (.throwing q :: below)) below (.threw q) := State.frames_setFrames _ (State.cur_lt_of_frames hfr)
  refine ⟨(T.setVm vm').setFrames (.throwing q :: below), ?_, .threw q, X'.here.running, hend, Or.inr ⟨q, rfl, E, ce, locs, hx _ hT (X'.ends _).1.alike, hcell9, hv, hcl, (X'.ends _).1, (X'.ends _).2.mono hc hs, hf⟩⟩
  rw [X.pushThrowing_eq]
  exact st
/-- a thing of a world lies in the heap -/
theorem vx_lt {D : va_G} {cl : List vw_C} {ws : va_W} {H1 : Heap} (h : va_P D cl ws H1) {k : Nat} {q : Nat × va_E} (hk : ws[k]? = some q) : q.1 < H1.size := (h k q hk).lt
end VXS
/-! ===== END ===== -/
/-! ===== BEGIN methods with a table of their own: called by a name, returning or throwing ===== -/
section VXH
/-! vx_backW, vx_callVX, vx_callSX, vx_callVW, vx_runVW, vx_runVX, vx_runSX, vx_ofWH follow the same proofs as their sisters above (Free/Laws.lean, Shelf42/LK1.lean); vx_outP calls Shelf42/NT130.lean (outThrough). -/
section
variable {l : Launch} {R : Room} {p : Program} {e : Env} {below : List Frame} {s : State} {sargs : Array Value} {y : MethodName} {len W9 : Nat}
theorem vx_backW {ws : List Cond} {rm : Room} {Pc : Array Value → State → Prop} {Qc : Array Value → State → Outcome → State → Prop} {XC : String → State → State → Prop} {mc ms : Nat} {free : Addr → Prop} {bytes : ByteArray} {maxL : Nat} {ret : Option FieldType} {hh : List (Nat × Nat × Nat × Nat)}
    (hM : vx_Met l y ws rm Pc Qc XC mc ms free) (hblind : FrameBlind Pc) (hrc : rm.cells = mc) (hrs : rm.slots = ms)
    (hframes : rm.frames + 1 ≤ R.frames) (hlocals : W9 + (maxL + 11) + rm.locals ≤ R.locals)
    (hws : ∀ w ∈ ws, ∀ a' U, s.WarmedH U.vm → w.before a' U = true) (hcode : Cond.codeWith y bytes maxL ret hh ∈ ws) (hinit : ∀ a' U, s.WarmedH U.vm → (Cond.initialized y.cls).before a' U = true) :
    vx_Back l R p e below s sargs y len W9 (PreOf R mc ms Pc) (PostOf Qc mc ms free) (vx_Post XC mc ms free) := by
  intro m meth c A g ig mk a X hg hsize hdg hW hn hp
  have h1 : (headSpec ws rm).pre.before a A.U = true := atoms_intro fun w hw => hws w hw _ _ X.warmed
  have h2 : (Cond.codeWith y bytes maxL ret hh).before a A.U = true := hws _ hcode _ _ X.warmed
  have h3 : (Cond.initialized y.cls).before a A.U = true := hinit _ _ X.warmed
  have h4 : A.cells + (headSpec ws rm).room.cells ≤ R.cells := by rw [show (headSpec ws rm).room.cells = mc from hrc]; exact hp.1
  have h5 : A.slots + (headSpec ws rm).room.slots ≤ R.slots := by rw [show (headSpec ws rm).room.slots = ms from hrs]; exact hp.2.1
  have hPc : Pc a (A.U.calling g mk a) := hblind _ _ _ _ hp.2.2
  obtain ⟨U, Ls, c0, s0⟩ := A
  dsimp only [Pt.U, Pt.locs, Pt.cells, Pt.slots] at h1 h2 h3 h4 h5 X hn hPc ⊢
  obtain ⟨m9, methY, cY, hn9, hmY, hcY, -, hlY, -⟩ := Cond.codeWith_spec h2
  cases Option.some.inj (hn9.symm.trans hn)
  obtain ⟨kY, hkY, -⟩ := className_of_methodNamed hn
  have hinitY : kY.init = .initialized := Cond.initialized_spec (findClass_of_methodNamed hn) hkY h3
  have h : At U g.method c below := by rw [hg]; exact X.here
  have hlocals9 : W9 + (maxL + 11) + (headSpec ws rm).room.locals ≤ R.locals := hlocals
  have happ : (headSpec ws rm).appliesLoose y e.platform (U.calling g mk a) = true :=
    Spec.appliesLoose_calling (g := g) h hdg hn hkY hinitY
      (X.room_calling (g := g) (R' := (headSpec ws rm).room) hsize hmY hcY hframes (by rw [hlY]; omega) h4 h5) h1
  obtain ⟨mid, hmid⟩ := h.above
  have hfr : (U.setTop g).frames = (.java g :: mid) ++ below := by rw [State.frames_setTop' g h.top, hmid]; rfl
  obtain ⟨o, s₂, hsteps, -, hend, hq⟩ := Steps.callFree hM p X.admits X.cas X.clock (acts := []) hfr happ hPc trivial
  have hq' : vx_Q Qc XC mc ms free a (U.calling g mk a) o s₂ := hq
  rw [State.frames_setTop' g h.top] at hend
  obtain ⟨g₀, hg0⟩ := Option.isSome_iff_exists.mp h.top
  obtain ⟨r, hr⟩ := State.topJava?_eq_some.mp hg0
  have hr' : (({ U with heap := s₂.heap, slotsUsed := s₂.slotsUsed } : State).setVm s₂.vm).frames = .java g₀ :: r := hr
  rcases hq' with ⟨hqc, L, hfe, hL⟩ | ⟨q, rfl, E, ce, L, hx, hce, hcv, hcl, hW₂, hsm, hL⟩
  · obtain ⟨⟨v, rfl⟩, hW₂, e2, q2, q3, q4, q5, q6⟩ := id hfe
    have e3 : s₂ = ({ (U.calling g mk a).setFrames s₂.frames with heap := s₂.heap, slotsUsed := s₂.slotsUsed } : State).setVm s₂.vm := by
      have : s₂ = ({ s₂ with vm := (U.calling g mk a).vm } : State).setVm s₂.vm := rfl
      rw [e2] at this
      exact this
    obtain ⟨c₂, i₂, len₂, hc₂, hd₂, hf₂⟩ := hend
    have hW' : U.WarmedH s₂.vm := hW₂
    have hcc : c₂ = c := by
      have h1 : s₂.code? g.method = U.code? g.method := by
        rw [State.code?_eq, State.code?_eq, hW'.alike.method?]
      exact Option.some.inj (hc₂.symm.trans (h1.trans h.code))
    subst hcc
    have hlen : len₂ = len := by rw [hdg] at hd₂; cases hd₂; rfl
    subst hlen
    have hs₂ : s₂ = (({ U with heap := s₂.heap, slotsUsed := s₂.slotsUsed } : State).setVm s₂.vm).setTop { g with pc := g.pc + len₂, stack := v.toList ++ g.stack } := by
      refine e3.trans ?_
      rw [hf₂, State.calling_eq h.top, State.setFrames_setFrames, State.setTop_of_frames _ hr', hr]
      rfl
    have hsame : U.sameButNew ({ U with heap := s₂.heap, slotsUsed := s₂.slotsUsed } : State) L mc ms := by
      refine ⟨?_, q2, q3, q4, q5, q6⟩
      obtain ⟨t, ht, -⟩ := State.frames_cons hr
      show ({ U with heap := s₂.heap, slotsUsed := s₂.slotsUsed } : State) = { U.setFrames U.frames with heap := s₂.heap, slotsUsed := s₂.slotsUsed }
      rw [State.setFrames_self ht]
    subst hg
    refine Or.inl ⟨v, ⟨(({ U with heap := s₂.heap, slotsUsed := s₂.slotsUsed } : State).setVm s₂.vm), Ls ++ L, c0 + mc, s0 + ms⟩,
      ⟨X.admits, X.cas, X.clock, X.frames, X.room, X.hears, X.method, X.code, (X.here.setHeapUsed s₂.heap s₂.slotsUsed).setVm hW'.alike, X.tail, State.WarmedH.trans X.warmed hW', X.limits, X.bytes, X.same.trans (hsame.setVm s.vm)⟩,
      ⟨g, mk, s₂, L, rfl, rfl, hqc, rfl, hL, rfl, rfl⟩, ?_⟩
    show Steps p.tables e below _ ((({ U with heap := s₂.heap, slotsUsed := s₂.slotsUsed } : State).setVm s₂.vm).setTop { g with pc := g.pc + len₂, stack := v.toList ++ g.stack })
    rw [← hs₂]
    exact hsteps
  · obtain ⟨e2, q2, q3, q4, q5, q6⟩ := id hsm
    have e3 : s₂ = ({ (U.calling g mk a).setFrames s₂.frames with heap := s₂.heap, slotsUsed := s₂.slotsUsed } : State).setVm s₂.vm := by
      have : s₂ = ({ s₂ with vm := (U.calling g mk a).vm } : State).setVm s₂.vm := rfl
      rw [e2] at this
      exact this
    have hf₂ : s₂.frames = .throwing q :: .java g :: U.frames.tail := hend
    have hW' : U.WarmedH s₂.vm := hW₂
    have hs₂ : s₂ = ((({ U with heap := s₂.heap, slotsUsed := s₂.slotsUsed } : State).setVm s₂.vm).setTop g).pushFrame (.throwing q) := by
      refine e3.trans ?_
      rw [hf₂, State.calling_eq h.top, State.setFrames_setFrames, State.pushFrame, State.frames_setTop _ hr', State.setTop_of_frames _ hr', State.setFrames_setFrames, hr]
      rfl
    have hsame : U.sameButNew ({ U with heap := s₂.heap, slotsUsed := s₂.slotsUsed } : State) L mc ms := by
      refine ⟨?_, q2, q3, q4, q5, q6⟩
      obtain ⟨t, ht, -⟩ := State.frames_cons hr
      show ({ U with heap := s₂.heap, slotsUsed := s₂.slotsUsed } : State) = { U.setFrames U.frames with heap := s₂.heap, slotsUsed := s₂.slotsUsed }
      rw [State.setFrames_self ht]
    subst hg
    refine Or.inr ⟨q, ⟨(({ U with heap := s₂.heap, slotsUsed := s₂.slotsUsed } : State).setVm s₂.vm), Ls ++ L, c0 + mc, s0 + ms⟩,
      ⟨X.admits, X.cas, X.clock, X.frames, X.room, X.hears, X.method, X.code, (X.here.setHeapUsed s₂.heap s₂.slotsUsed).setVm hW'.alike, X.tail, State.WarmedH.trans X.warmed hW', X.limits, X.bytes, X.same.trans (hsame.setVm s.vm)⟩,
      ⟨g, mk, s₂, L, E, ce, rfl, rfl, hx, hce, hcv, hcl, rfl, hL, rfl, rfl⟩, ?_⟩
    show Steps p.tables e below _ (((({ U with heap := s₂.heap, slotsUsed := s₂.slotsUsed } : State).setVm s₂.vm).setTop g).pushFrame (.throwing q))
    rw [← hs₂]
    exact hsteps
end
variable {p : Program} {l : Launch} {e : Env} {R : Room} {s : State} {m : MethodId} {args : Array Value} {below : List Frame} {meth : Method} {c : Code} {T : State} {H : Heap} {locs : List Loc} {cells slots : Nat}
theorem vx_callVX (X : Stand p l e R s m args below meth c T locs cells slots) (hexec : p.tables.exec = Jvm.exec) {own C : String} {index : Nat} {y : MethodName} {bytes : ByteArray} {maxL : Nat} {ret : Option FieldType} {hh : List (Nat × Nat × Nat × Nat)}
    (hown : s.vm.findClass own = some m.cls) (hlink : (Cond.methodLink own index y).before args s = true) (hinst : (Cond.instanceMethod y).before args s = true) (hsel : (Cond.selects C y y).before args s = true)
    (hcode : (Cond.codeWith y bytes maxL ret hh).before args s = true) (hy : y.cls ≠ "java/lang/invoke/MethodHandle" ∧ y.cls ≠ "java/lang/invoke/VarHandle")
    {W9 : Nat} {Pre : Pt → Array Value → Prop} {Post : Pt → Array Value → Option Value → Pt → Prop} {PostX : Pt → Array Value → Addr → Pt → Prop} (hK : vx_Back l R p e below s args y 3 W9 Pre Post PostX)
    {b : Addr} {cellB : Cell} (hcell : T.heap[b]? = some cellB) (hobj : cellB.vm.isStatics = false) (hcls : s.vm.findClass C = some cellB.cls)
    {g : JFrame} (hg : g.method = m) (hsize : g.locals.size = c.maxLocals) {argsL rest : List Value} (hlen : ∀ sig, parseMethodDescriptor y.desc = some sig → argsL.length = sig.parameters.length)
    (hstack : g.stack = argsL.reverse ++ .ref b :: rest) (hW : 2 * g.monitorRoom + (rest.map fun v => v.category).sum ≤ W9) (hdg : decode c.code g.pc = .ok (.invokevirtual index, 3))
    (hpre : ∀ vm₁, s.WarmedH vm₁ → Pre ⟨T.setVm vm₁, locs, cells, slots⟩ (Value.ref b :: argsL).toArray) :
    (∃ (v : Option Value) (vm₁ : Vm) (B : Pt), s.WarmedH vm₁ ∧ Stand p l e R s m args below meth c B.U B.locs B.cells B.slots ∧ Post ⟨T.setVm vm₁, locs, cells, slots⟩ (Value.ref b :: argsL).toArray v B ∧
      ∀ target, Steps p.tables e below (B.U.setTop { g with pc := g.pc + 3, stack := v.toList ++ rest }) target → Steps p.tables e below (T.setTop g) target) ∨
    (∃ (q : Addr) (vm₁ : Vm) (B : Pt), s.WarmedH vm₁ ∧ Stand p l e R s m args below meth c B.U B.locs B.cells B.slots ∧ PostX ⟨T.setVm vm₁, locs, cells, slots⟩ (Value.ref b :: argsL).toArray q B ∧
      Steps p.tables e below (T.setTop g) ((B.U.setTop { g with stack := rest }).pushFrame (.throwing q))) := by
  obtain ⟨mk, methM, hnamed, hmethM, hstM, habM⟩ := Cond.instanceMethod_spec hinst
  obtain ⟨m8, methM', cM, hn8, hmethM', -, -, -, -, -, -, hsigM⟩ := Cond.codeWith_spec hcode
  cases Option.some.inj (hn8.symm.trans hnamed)
  cases hmethM.symm.trans hmethM'
  obtain ⟨c2, r2, m2, q1, q2, q3, q4, kP, hkP, hkPi⟩ := Cond.selects_spec hsel
  cases hcls.symm.trans q1
  cases (State.methodFound?_of_named hnamed hy).symm.trans q2
  cases hnamed.symm.trans q3
  have hselP : selectMethod e.platform s.vm cellB.cls mk = .method mk := by rw [Launch.admits_selectMethod X.admits]; exact q4
  obtain ⟨vm₁, X₁, hstep₁⟩ := X.invokevirtual hexec hown hlink hnamed hmethM hstM hkP hkPi hy (a := b) (cell := cellB) hcell
    (fun z h => by rw [h] at hobj; cases hobj) hselP hmethM habM hkP hkPi (g := g) hg (argsL := argsL) (rest := rest) (hlen _ hsigM) hstack hdg
  rcases hK m meth c ⟨T.setVm vm₁, locs, cells, slots⟩ { g with stack := rest } (.invokevirtual index) mk (Value.ref b :: argsL).toArray X₁ hg hsize hdg hW (X₁.named hnamed) (hpre vm₁ X₁.warmed) with ⟨v, B, X', hpost, hsteps⟩ | ⟨q, B, X', hpost, hsteps⟩
  · exact Or.inl ⟨v, vm₁, B, X₁.warmed, X', hpost, fun target h => hstep₁ _ fun acts => by rw [doInvoke_state]; exact hsteps.trans h⟩
  · exact Or.inr ⟨q, vm₁, B, X₁.warmed, X', hpost, hstep₁ _ fun acts => by rw [doInvoke_state]; exact hsteps⟩
theorem vx_callSX (X : Stand p l e R s m args below meth c T locs cells slots) (hexec : p.tables.exec = Jvm.exec) {own : String} {index : Nat} {y : MethodName} {bytes : ByteArray} {maxL : Nat} {ret : Option FieldType} {hh : List (Nat × Nat × Nat × Nat)}
    (hown : s.vm.findClass own = some m.cls) (hlink : (Cond.methodLink own index y).before args s = true) (hstat : (Cond.static y).before args s = true) (hinit : (Cond.initialized y.cls).before args s = true)
    (hcode : (Cond.codeWith y bytes maxL ret hh).before args s = true) (hy : y.cls ≠ "java/lang/invoke/MethodHandle" ∧ y.cls ≠ "java/lang/invoke/VarHandle")
    {W9 : Nat} {Pre : Pt → Array Value → Prop} {Post : Pt → Array Value → Option Value → Pt → Prop} {PostX : Pt → Array Value → Addr → Pt → Prop} (hK : vx_Back l R p e below s args y 3 W9 Pre Post PostX)
    {g : JFrame} (hg : g.method = m) (hsize : g.locals.size = c.maxLocals) {argsL rest : List Value} (hlen : ∀ sig, parseMethodDescriptor y.desc = some sig → argsL.length = sig.parameters.length)
    (hstack : g.stack = argsL.reverse ++ rest) (hW : 2 * g.monitorRoom + (rest.map fun v => v.category).sum ≤ W9) (hdg : decode c.code g.pc = .ok (.invokestatic index, 3))
    (hpre : ∀ vm₁, s.WarmedH vm₁ → Pre ⟨T.setVm vm₁, locs, cells, slots⟩ argsL.toArray) :
    (∃ (v : Option Value) (vm₁ : Vm) (B : Pt), s.WarmedH vm₁ ∧ Stand p l e R s m args below meth c B.U B.locs B.cells B.slots ∧ Post ⟨T.setVm vm₁, locs, cells, slots⟩ argsL.toArray v B ∧
      ∀ target, Steps p.tables e below (B.U.setTop { g with pc := g.pc + 3, stack := v.toList ++ rest }) target → Steps p.tables e below (T.setTop g) target) ∨
    (∃ (q : Addr) (vm₁ : Vm) (B : Pt), s.WarmedH vm₁ ∧ Stand p l e R s m args below meth c B.U B.locs B.cells B.slots ∧ PostX ⟨T.setVm vm₁, locs, cells, slots⟩ argsL.toArray q B ∧
      Steps p.tables e below (T.setTop g) ((B.U.setTop { g with stack := rest }).pushFrame (.throwing q))) := by
  obtain ⟨mk, methM, cM, hnamed, hmethM, -, -, -, -, -, -, hsigM⟩ := Cond.codeWith_spec hcode
  have hstatic : methM.isStatic = true := Cond.static_spec hnamed hmethM hstat
  obtain ⟨kP, hkP, -⟩ := className_of_methodNamed hnamed
  have hinitP : kP.init = .initialized := Cond.initialized_spec (findClass_of_methodNamed hnamed) hkP hinit
  obtain ⟨vm₁, X₁, hstep₁⟩ := X.invokestatic hexec hown hlink hnamed hmethM hstatic hkP hinitP hy (g := g) hg (argsL := argsL) (rest := rest) (hlen _ hsigM) hstack hdg
  rcases hK m meth c ⟨T.setVm vm₁, locs, cells, slots⟩ { g with stack := rest } (.invokestatic index) mk argsL.toArray X₁ hg hsize hdg hW (X₁.named hnamed) (hpre vm₁ X₁.warmed) with ⟨v, B, X', hpost, hsteps⟩ | ⟨q, B, X', hpost, hsteps⟩
  · exact Or.inl ⟨v, vm₁, B, X₁.warmed, X', hpost, fun target h => hstep₁ _ fun acts => by rw [doInvoke_state]; exact hsteps.trans h⟩
  · exact Or.inr ⟨q, vm₁, B, X₁.warmed, X', hpost, hstep₁ _ fun acts => by rw [doInvoke_state]; exact hsteps⟩
theorem vx_callVW (X : Stand p l e R s m args below meth c T locs cells slots) (hexec : p.tables.exec = Jvm.exec) {own C : String} {index : Nat} {y : MethodName} {bytes : ByteArray} {maxL : Nat} {ret : Option FieldType} {hh : List (Nat × Nat × Nat × Nat)}
    (hown : s.vm.findClass own = some m.cls) (hlink : (Cond.methodLink own index y).before args s = true) (hinst : (Cond.instanceMethod y).before args s = true) (hsel : (Cond.selects C y y).before args s = true)
    (hcode : (Cond.codeWith y bytes maxL ret hh).before args s = true) (hy : y.cls ≠ "java/lang/invoke/MethodHandle" ∧ y.cls ≠ "java/lang/invoke/VarHandle")
    {W9 : Nat} {Pre : Pt → Array Value → Prop} {Post : Pt → Array Value → Option Value → Pt → Prop} (hK : Back l R p e below s args y 3 W9 Pre Post)
    {b : Addr} {cellB : Cell} (hcell : T.heap[b]? = some cellB) (hobj : cellB.vm.isStatics = false) (hcls : s.vm.findClass C = some cellB.cls)
    {g : JFrame} (hg : g.method = m) (hsize : g.locals.size = c.maxLocals) {argsL rest : List Value} (hlen : ∀ sig, parseMethodDescriptor y.desc = some sig → argsL.length = sig.parameters.length)
    (hstack : g.stack = argsL.reverse ++ .ref b :: rest) (hW : 2 * g.monitorRoom + (rest.map fun v => v.category).sum ≤ W9) (hdg : decode c.code g.pc = .ok (.invokevirtual index, 3))
    (hpre : ∀ vm₁, s.WarmedH vm₁ → Pre ⟨T.setVm vm₁, locs, cells, slots⟩ (Value.ref b :: argsL).toArray) :
    ∃ (v : Option Value) (vm₁ : Vm) (B : Pt), s.WarmedH vm₁ ∧ Stand p l e R s m args below meth c B.U B.locs B.cells B.slots ∧ Post ⟨T.setVm vm₁, locs, cells, slots⟩ (Value.ref b :: argsL).toArray v B ∧
      ∀ target, Steps p.tables e below (B.U.setTop { g with pc := g.pc + 3, stack := v.toList ++ rest }) target → Steps p.tables e below (T.setTop g) target := by
  obtain ⟨mk, methM, hnamed, hmethM, hstM, habM⟩ := Cond.instanceMethod_spec hinst
  obtain ⟨m8, methM', cM, hn8, hmethM', -, -, -, -, -, -, hsigM⟩ := Cond.codeWith_spec hcode
  cases Option.some.inj (hn8.symm.trans hnamed)
  cases hmethM.symm.trans hmethM'
  obtain ⟨c2, r2, m2, q1, q2, q3, q4, kP, hkP, hkPi⟩ := Cond.selects_spec hsel
  cases hcls.symm.trans q1
  cases (State.methodFound?_of_named hnamed hy).symm.trans q2
  cases hnamed.symm.trans q3
  have hselP : selectMethod e.platform s.vm cellB.cls mk = .method mk := by rw [Launch.admits_selectMethod X.admits]; exact q4
  obtain ⟨vm₁, X₁, hstep₁⟩ := X.invokevirtual hexec hown hlink hnamed hmethM hstM hkP hkPi hy (a := b) (cell := cellB) hcell
    (fun z h => by rw [h] at hobj; cases hobj) hselP hmethM habM hkP hkPi (g := g) hg (argsL := argsL) (rest := rest) (hlen _ hsigM) hstack hdg
  obtain ⟨v, B, X', hpost, hsteps⟩ := hK m meth c ⟨T.setVm vm₁, locs, cells, slots⟩ { g with stack := rest } (.invokevirtual index) mk (Value.ref b :: argsL).toArray X₁ hg hsize hdg hW (X₁.named hnamed) (hpre vm₁ X₁.warmed)
  exact ⟨v, vm₁, B, X₁.warmed, X', hpost, fun target h => hstep₁ _ fun acts => by rw [doInvoke_state]; exact hsteps.trans h⟩
abbrev vx_CVW (R : Room) (s : State) (args : Array Value) (own C : String) (index : Nat) (y : MethodName) (bytes : ByteArray) (maxL : Nat) (ret : Option FieldType) (hh : List (Nat × Nat × Nat × Nat)) (ws : List Cond) (rm : Room) (mc ms n : Nat) : Prop :=
  (rm.cells = mc ∧ rm.slots = ms ∧ rm.frames + 1 ≤ R.frames ∧ 8 + (maxL + 11) + rm.locals ≤ R.locals ∧ (∀ w ∈ ws, ∀ (a' : Array Value) (U : State), s.WarmedH U.vm → w.before a' U = true) ∧ Cond.codeWith y bytes maxL ret hh ∈ ws) ∧
  (Cond.codeWith y bytes maxL ret hh).before args s = true ∧ (Cond.initialized y.cls).before args s = true ∧ (y.cls ≠ "java/lang/invoke/MethodHandle" ∧ y.cls ≠ "java/lang/invoke/VarHandle") ∧
  (∀ sig, parseMethodDescriptor y.desc = some sig → n = sig.parameters.length) ∧ (Cond.methodLink own index y).before args s = true ∧ (Cond.instanceMethod y).before args s = true ∧ (Cond.selects C y y).before args s = true
theorem vx_cwVW {own C : String} {index maxL mc ms : Nat} {y : MethodName} {bytes : ByteArray} {ret : Option FieldType} {hh : List (Nat × Nat × Nat × Nat)} {Ts ws ws' : List Cond} {rm : Room} (n : Nat) (ht : ∀ w ∈ Ts, w.before args s = true) (hT : GoodIn Ts (wsV own index C y ws)) (hw : ws = Cond.codeWith y bytes maxL ret hh :: ws') (hrc : rm.cells = mc) (hrs : rm.slots = ms)
    (hd : y.cls = C ∧ y.cls ≠ "java/lang/invoke/MethodHandle" ∧ y.cls ≠ "java/lang/invoke/VarHandle" ∧ (parseMethodDescriptor y.desc).map (fun d => d.parameters.length) = some n) (hR : rm.frames + 1 ≤ R.frames ∧ 8 + (maxL + 11) + rm.locals ≤ R.locals) :
    vx_CVW R s args own C index y bytes maxL ret hh ws rm mc ms n := by
  obtain ⟨hC, hd⟩ := hd
  subst hC
  have ok : ∀ w ∈ wsV own index y.cls y ws, w.before args s = true := fun w h => ht w (hT w h).1
  have hG : GoodIn Ts ws := fun w h => hT w (by unfold wsV; exact List.mem_append_right _ h)
  have hc : Cond.codeWith y bytes maxL ret hh ∈ ws := by rw [hw]; exact List.mem_cons_self
  refine ⟨⟨hrc, hrs, hR.1, hR.2, pay_in ht hG, hc⟩, ht _ (hG _ hc).1, ok _ (by simp [wsV]), ⟨hd.1, hd.2.1⟩, fun sig h => ?_, ok _ (by simp [wsV]), ok _ (by simp [wsV]), ok _ (by simp [wsV])⟩
  have h2 := hd.2.2
  rw [h] at h2
  exact (Option.some.inj h2).symm
theorem vx_runVW {y : MethodName} {bytes cc : ByteArray} {maxL nL mc ms n index : Nat} {ret : Option FieldType} {hh : List (Nat × Nat × Nat × Nat)} {ws : List Cond} {rm : Room} {Pc : Array Value → State → Prop} {Qc : Array Value → State → Outcome → State → Prop} {free : Addr → Prop} {Ts : List Cond} {own C : String} {b : Addr} {As rest : List Value} {g : JFrame}
    (S : CallFix p m c cc nL s args Ts own) (hM : Met l y ws rm Pc Qc mc ms free) (cw : vx_CVW R s args own C index y bytes maxL ret hh ws rm mc ms n) (hp : PreV s H C b Pc As)
    (hg : g.method = m) (hn : As.length = n) (hsize : g.locals.size = nL) (hstack : g.stack = As.reverse ++ .ref b :: rest) (hW : 2 * g.monitorRoom + (rest.map fun v => v.category).sum ≤ 8) (hdg : decode cc g.pc = .ok (.invokevirtual index, 3)) (hf : cells + mc ≤ R.cells ∧ slots + ms ≤ R.slots) :
    va_Run p l e R s m args below meth c H locs cells slots mc ms g rest (Qc (Value.ref b :: As).toArray) free := by
  obtain ⟨⟨hrc, hrs, hfr, hlo, hws, hcw⟩, hcode, hini, hy, hlen, hl, hin, hse⟩ := cw
  have hK : Back l R p e below s args y 3 8 (PreOf R mc ms Pc) (PostOf Qc mc ms free) := va_backW (hh := hh) (bytes := bytes) (maxL := maxL) (ret := ret) hM hp.1 hrc hrs hfr hlo hws hcw (fun a' U hW => word_at hW (Or.inl (by first | rfl | simp [Cond.onTables, Cond.keeps, Cond.steady])) hini)
  obtain ⟨hx, hb, hml, ho, -⟩ := S
  obtain ⟨-, ⟨cellB, hcB, hoB, hclB⟩, hPc⟩ := hp
  intro T hT X
  obtain ⟨v, vm₁, ⟨U', l2, c2, s2⟩, hW₁, X', ⟨g', mk, t, L, e1, e2, hq, h1, hL, h2, h3⟩, st⟩ := vx_callVW X hx (C := C) (hh := hh) (bytes := bytes) (maxL := maxL) (ret := ret) ho hl hin hse hcode hy hK (by rw [hT]; exact hcB) hoB hclB hg (hsize.trans hml.symm) (argsL := As) (rest := rest) (fun sig h => hn.trans (hlen sig h)) hstack hW (by rw [hb]; exact hdg)
    (fun vm₁ hW₁ => ⟨hf.1, hf.2, hPc (T.setVm vm₁) hT hW₁⟩)
  dsimp only [Pt.U, Pt.locs, Pt.cells, Pt.slots] at X' e1 e2 h1 h2 h3 st
  subst h1; subst h2; subst h3
  exact ⟨v, (T.setVm vm₁).calling g' mk (Value.ref b :: As).toArray, t, U', L, hT, X', hL, e1, e2, hq, st⟩
section
variable {y : MethodName} {bytes cc : ByteArray} {maxL nL mc ms n index : Nat} {ret : Option FieldType} {ws : List Cond} {rm : Room} {Pc : Array Value → State → Prop} {Qc : Array Value → State → Outcome → State → Prop} {XC : String → State → State → Prop} {free : Addr → Prop} {Ts : List Cond} {own C : String} {b : Addr} {As rest : List Value} {g : JFrame}
theorem vx_runVX {hh : List (Nat × Nat × Nat × Nat)} (S : CallFix p m c cc nL s args Ts own) (hM : vx_Met l y ws rm Pc Qc XC mc ms free) (cw : vx_CVW R s args own C index y bytes maxL ret hh ws rm mc ms n) (hp : PreV s H C b Pc As)
    (hg : g.method = m) (hn : As.length = n) (hsize : g.locals.size = nL) (hstack : g.stack = As.reverse ++ .ref b :: rest) (hW : 2 * g.monitorRoom + (rest.map fun v => v.category).sum ≤ 8) (hdg : decode cc g.pc = .ok (.invokevirtual index, 3)) (hf : cells + mc ≤ R.cells ∧ slots + ms ≤ R.slots) :
    vx_Run p l e R s m args below meth c H locs cells slots mc ms g rest (Qc (Value.ref b :: As).toArray) XC free := by
  obtain ⟨⟨hrc, hrs, hfr, hlo, hws, hcw⟩, hcode, hini, hy, hlen, hl, hin, hse⟩ := cw
  have hK : vx_Back l R p e below s args y 3 8 (PreOf R mc ms Pc) (PostOf Qc mc ms free) (vx_Post XC mc ms free) := vx_backW (hh := hh) (bytes := bytes) (maxL := maxL) (ret := ret) hM hp.1 hrc hrs hfr hlo hws hcw (fun a' U hW => word_at hW (Or.inl (by first | rfl | simp [Cond.onTables, Cond.keeps, Cond.steady])) hini)
  obtain ⟨hx, hb, hml, ho, -⟩ := S
  obtain ⟨-, ⟨cellB, hcB, hoB, hclB⟩, hPc⟩ := hp
  intro T hT X
  rcases vx_callVX X hx (C := C) (hh := hh) (bytes := bytes) (maxL := maxL) (ret := ret) ho hl hin hse hcode hy hK (by rw [hT]; exact hcB) hoB hclB hg (hsize.trans hml.symm) (argsL := As) (rest := rest) (fun sig h => hn.trans (hlen sig h)) hstack hW (by rw [hb]; exact hdg)
    (fun vm₁ hW₁ => ⟨hf.1, hf.2, hPc (T.setVm vm₁) hT hW₁⟩) with ⟨v, vm₁, ⟨U', l2, c2, s2⟩, hW₁, X', ⟨g', mk, t, L, e1, e2, hq, h1, hL, h2, h3⟩, st⟩ | ⟨q, vm₁, ⟨U', l2, c2, s2⟩, hW₁, X', ⟨g', mk, t, L, E, ce, e1, e2, hq, hce, hcv, hcl, h1, hL, h2, h3⟩, st⟩
  · dsimp only [Pt.U, Pt.locs, Pt.cells, Pt.slots] at X' e1 e2 h1 h2 h3 st
    subst h1; subst h2; subst h3
    exact Or.inl ⟨v, (T.setVm vm₁).calling g' mk (Value.ref b :: As).toArray, t, U', L, hT, X', hL, e1, e2, hq, st⟩
  · dsimp only [Pt.U, Pt.locs, Pt.cells, Pt.slots] at X' e1 e2 h1 h2 h3 st hcl
    subst h1; subst h2; subst h3
    exact Or.inr ⟨q, (T.setVm vm₁).calling g' mk (Value.ref b :: As).toArray, t, U', L, E, ce, hT, X', hL, e1, e2, hq, hce, hcv, vx_cls hW₁ hcl, st⟩
theorem vx_runSX {hh : List (Nat × Nat × Nat × Nat)} (S : CallFix p m c cc nL s args Ts own) (hM : vx_Met l y ws rm Pc Qc XC mc ms free) (cw : vx_CSW R s args own index y bytes maxL ret hh ws rm mc ms n) (hp : PreS s H Pc As)
    (hg : g.method = m) (hn : As.length = n) (hsize : g.locals.size = nL) (hstack : g.stack = As.reverse ++ rest) (hW : 2 * g.monitorRoom + (rest.map fun v => v.category).sum ≤ 8) (hdg : decode cc g.pc = .ok (.invokestatic index, 3)) (hf : cells + mc ≤ R.cells ∧ slots + ms ≤ R.slots) :
    vx_Run p l e R s m args below meth c H locs cells slots mc ms g rest (Qc As.toArray) XC free := by
  obtain ⟨⟨hrc, hrs, hfr, hlo, hws, hcw⟩, hcode, hini, hy, hlen, hl, hstt⟩ := cw
  have hK : vx_Back l R p e below s args y 3 8 (PreOf R mc ms Pc) (PostOf Qc mc ms free) (vx_Post XC mc ms free) := vx_backW (hh := hh) (bytes := bytes) (maxL := maxL) (ret := ret) hM hp.1 hrc hrs hfr hlo hws hcw (fun a' U hW => word_at hW (Or.inl (by first | rfl | simp [Cond.onTables, Cond.keeps, Cond.steady])) hini)
  obtain ⟨hx, hb, hml, ho, -⟩ := S
  intro T hT X
  rcases vx_callSX X hx (hh := hh) (bytes := bytes) (maxL := maxL) (ret := ret) ho hl hstt hini hcode hy hK hg (hsize.trans hml.symm) (argsL := As) (rest := rest) (fun sig h => hn.trans (hlen sig h)) hstack hW (by rw [hb]; exact hdg)
    (fun vm₁ hW₁ => ⟨hf.1, hf.2, hp.2 (T.setVm vm₁) hT hW₁⟩) with ⟨v, vm₁, ⟨U', l2, c2, s2⟩, hW₁, X', ⟨g', mk, t, L, e1, e2, hq, h1, hL, h2, h3⟩, st⟩ | ⟨q, vm₁, ⟨U', l2, c2, s2⟩, hW₁, X', ⟨g', mk, t, L, E, ce, e1, e2, hq, hce, hcv, hcl, h1, hL, h2, h3⟩, st⟩
  · dsimp only [Pt.U, Pt.locs, Pt.cells, Pt.slots] at X' e1 e2 h1 h2 h3 st
    subst h1; subst h2; subst h3
    exact Or.inl ⟨v, (T.setVm vm₁).calling g' mk As.toArray, t, U', L, hT, X', hL, e1, e2, hq, st⟩
  · dsimp only [Pt.U, Pt.locs, Pt.cells, Pt.slots] at X' e1 e2 h1 h2 h3 st hcl
    subst h1; subst h2; subst h3
    exact Or.inr ⟨q, (T.setVm vm₁).calling g' mk As.toArray, t, U', L, E, ce, hT, X', hL, e1, e2, hq, hce, hcv, vx_cls hW₁ hcl, st⟩
end
end VXH
theorem vx_ofWH {l : Launch} {y : MethodName} {ws ws' : List Cond} {rm : Room} {Pc : Array Value → State → Prop} {Qc : Array Value → State → Outcome → State → Prop} {XC : String → State → State → Prop} {mc ms : Nat} {free : Addr → Prop} {cc : ByteArray} {maxL : Nat} {ret : Option FieldType} {hh : List (Nat × Nat × Nat × Nat)}
    (hy : plainName y.cls = true) (hw : ws = Cond.codeWith y cc maxL ret hh :: ws')
    (body : ∀ p e s m args below meth c s₁, BodyLoose p l y (headSpec ws rm) cc maxL ret e s m args below meth c s₁ → c.maxLocals = maxL → Pc args s →
      W p l e (headSpec ws rm).room s m args below meth c s.heap [] 0 0 (vx_MQ below Qc XC args s mc ms free) (entryFrame m args maxL)) : vx_Met l y ws rm Pc Qc XC mc ms free := by
  refine MetFree.of_bodyS (code := cc) (maxLocals := maxL) (ret := ret) hy ?_ ?_
  · intro args s m h hn
    obtain ⟨m9, meth, c, hn9, h1, h2, h3, h4, -, h5, h6, -⟩ := Cond.codeWith_spec (atoms_spec (ws := ws) h _ (by rw [hw]; exact List.mem_cons_self))
    cases hn.symm.trans hn9
    exact ⟨meth, c, h1, h2, h3, h4, h5, h6⟩
  · intro p e s m args below meth c s₁ B hml hP _
    have hh0 : s₁.heap = s.heap := by rw [B.state]; rfl
    obtain ⟨t, a1, o, b1, b2, b3⟩ := body p e s m args below meth c s₁ B hml hP s₁ hh0 (Stand.of_body B)
    exact ⟨t, o, a1, b1, b2, b3⟩
/-! ===== END ===== -/
end
section
/-! ===== BEGIN printed: names, fields, word lists, decode rows ===== -/
def RX0 : String := "SlipLevels$Binder"
def TX0 : u_T := fun k => match k with
  | 0 => ("SlipLevels$Binder", "rows", "[LSlipLevels$Slips;", true)
  | 1 => ("SlipLevels$Binder", "runs", "[I", true)
  | 2 => ("SlipLevels$Binder", "merged", "LSlipLevels$Slips;", true)
  | 3 => ("SlipLevels$Binder", "moves", "I", false)
  | _ => ("SlipLevels$Binder", "mergings", "I", false)
def tyX0 : Nat → FieldType := fun k => match k with
  | 0 => .array (.object "SlipLevels$Slips")
  | 1 => .array .int
  | 2 => .object "SlipLevels$Slips"
  | 3 => .int
  | _ => .int
abbrev wsX00 : List Cond := u_ws RX0 TX0 5
theorem nmX0 : ∀ a, a < 5 → ∀ b, b < 5 → a ≠ b → (TX0 a).2.1 ≠ (TX0 b).2.1 := by decide +kernel
theorem tyX0_ok : ∀ k, k < 5 → parseFieldDescriptor (TX0 k).2.2.1 = some (tyX0 k) := by decide +kernel
abbrev cX0_init : ByteArray := prog_2_method_1_code
def yX0_init : MethodName := ⟨RX0, "<init>", "()V"⟩
abbrev cX0_moves : ByteArray := prog_2_method_2_code
def yX0_moves : MethodName := ⟨RX0, "moves", "()I"⟩
abbrev cX0_mergings : ByteArray := prog_2_method_3_code
def yX0_mergings : MethodName := ⟨RX0, "mergings", "()I"⟩
abbrev cX0_runsOf : ByteArray := prog_2_method_4_code
def yX0_runsOf : MethodName := ⟨RX0, "runsOf", "(I)I"⟩
abbrev cX0_runAt : ByteArray := prog_2_method_5_code
def yX0_runAt : MethodName := ⟨RX0, "runAt", "(II)LSlipLevels$Slips;"⟩
abbrev cX0_rowAt : ByteArray := prog_2_method_6_code
def yX0_rowAt : MethodName := ⟨RX0, "rowAt", "(II)LSlipLevels$Slips;"⟩
abbrev cX0_slipsOf : ByteArray := prog_2_method_7_code
def yX0_slipsOf : MethodName := ⟨RX0, "slipsOf", "(I)I"⟩
abbrev cX0_tombsOf : ByteArray := prog_2_method_8_code
def yX0_tombsOf : MethodName := ⟨RX0, "tombsOf", "(I)I"⟩
abbrev cX0_slips : ByteArray := prog_2_method_9_code
def yX0_slips : MethodName := ⟨RX0, "slips", "()I"⟩
abbrev cX0_firstWordIn : ByteArray := prog_2_method_10_code
def yX0_firstWordIn : MethodName := ⟨RX0, "firstWordIn", "(II)I"⟩
abbrev cX0_firstWord : ByteArray := prog_2_method_11_code
def yX0_firstWord : MethodName := ⟨RX0, "firstWord", "(I)I"⟩
abbrev cX0_isFirst : ByteArray := prog_2_method_12_code
def yX0_isFirst : MethodName := ⟨RX0, "isFirst", "(III)Z"⟩
abbrev cX0_detoursTo : ByteArray := prog_2_method_13_code
def yX0_detoursTo : MethodName := ⟨RX0, "detoursTo", "(I)I"⟩
abbrev cX0_settle : ByteArray := prog_2_method_14_code
def yX0_settle : MethodName := ⟨RX0, "settle", "()V"⟩
abbrev cX0_mergeLevel : ByteArray := prog_2_method_15_code
def yX0_mergeLevel : MethodName := ⟨RX0, "mergeLevel", "(I)V"⟩
abbrev cX0_nothingBehind : ByteArray := prog_2_method_16_code
def yX0_nothingBehind : MethodName := ⟨RX0, "nothingBehind", "(I)Z"⟩
abbrev cX0_gather : ByteArray := prog_2_method_17_code
def yX0_gather : MethodName := ⟨RX0, "gather", "(IZ)V"⟩
abbrev cX0_addRun : ByteArray := prog_2_method_18_code
def yX0_addRun : MethodName := ⟨RX0, "addRun", "(ILSlipLevels$Slips;)V"⟩
abbrev cX0_copyRuns : ByteArray := prog_2_method_19_code
def yX0_copyRuns : MethodName := ⟨RX0, "copyRuns", "(LSlipLevels$Binder;)V"⟩
def RX1 : String := "SlipLevels$Slips"
def TX1 : u_T := fun k => match k with
  | 0 => ("SlipLevels$Slips", "words", "[I", true)
  | 1 => ("SlipLevels$Slips", "size", "I", false)
  | 2 => ("SlipLevels$Slips", "tombs", "I", false)
  | 3 => ("SlipLevels$Slips", "least", "I", false)
  | 4 => ("SlipLevels$Slips", "greatest", "I", false)
  | _ => ("SlipLevels$Slips", "sieve", "I", false)
def tyX1 : Nat → FieldType := fun k => match k with
  | 0 => .array .int
  | 1 => .int
  | 2 => .int
  | 3 => .int
  | 4 => .int
  | _ => .int
abbrev wsX10 : List Cond := u_ws RX1 TX1 6
theorem nmX1 : ∀ a, a < 6 → ∀ b, b < 6 → a ≠ b → (TX1 a).2.1 ≠ (TX1 b).2.1 := by decide +kernel
theorem tyX1_ok : ∀ k, k < 6 → parseFieldDescriptor (TX1 k).2.2.1 = some (tyX1 k) := by decide +kernel
abbrev cX1_init : ByteArray := prog_3_method_1_code
def yX1_init : MethodName := ⟨RX1, "<init>", "()V"⟩
abbrev cX1_clear : ByteArray := prog_3_method_2_code
def yX1_clear : MethodName := ⟨RX1, "clear", "()V"⟩
abbrev cX1_copy : ByteArray := prog_3_method_3_code
def yX1_copy : MethodName := ⟨RX1, "copy", "(LSlipLevels$Slips;)V"⟩
abbrev cX1_put : ByteArray := prog_3_method_4_code
def yX1_put : MethodName := ⟨RX1, "put", "(II)V"⟩
abbrev cX1_size : ByteArray := prog_3_method_5_code
def yX1_size : MethodName := ⟨RX1, "size", "()I"⟩
abbrev cX1_tombs : ByteArray := prog_3_method_6_code
def yX1_tombs : MethodName := ⟨RX1, "tombs", "()I"⟩
abbrev cX1_wordAt : ByteArray := prog_3_method_7_code
def yX1_wordAt : MethodName := ⟨RX1, "wordAt", "(I)I"⟩
abbrev cX1_has : ByteArray := prog_3_method_8_code
def yX1_has : MethodName := ⟨RX1, "has", "(I)Z"⟩
abbrev cX1_opensFor : ByteArray := prog_3_method_9_code
def yX1_opensFor : MethodName := ⟨RX1, "opensFor", "(I)Z"⟩
abbrev cX1_numberAt : ByteArray := prog_3_method_10_code
def yX1_numberAt : MethodName := ⟨RX1, "numberAt", "(I)I"⟩
abbrev cX1_told : ByteArray := prog_3_method_11_code
def yX1_told : MethodName := ⟨RX1, "told", "(I)I"⟩
abbrev cX1_fact : ByteArray := prog_3_method_12_code
def yX1_fact : MethodName := ⟨RX1, "fact", "(I)I"⟩
def RX2 : String := "SlipLevels"
def TX2 : u_T := fun k => match k with
  | 0 => ("SlipLevels", "deskSlips", "LSlipLevels$Slips;", true)
  | 1 => ("SlipLevels", "binder", "LSlipLevels$Binder;", true)
  | 2 => ("SlipLevels", "trial", "LSlipLevels$Binder;", true)
  | 3 => ("SlipLevels", "deskRoom", "I", false)
  | _ => ("SlipLevels", "detoursRead", "I", false)
def tyX2 : Nat → FieldType := fun k => match k with
  | 0 => .object "SlipLevels$Slips"
  | 1 => .object "SlipLevels$Binder"
  | 2 => .object "SlipLevels$Binder"
  | 3 => .int
  | _ => .int
abbrev wsX20 : List Cond := u_ws RX2 TX2 5
theorem nmX2 : ∀ a, a < 5 → ∀ b, b < 5 → a ≠ b → (TX2 a).2.1 ≠ (TX2 b).2.1 := by decide +kernel
theorem tyX2_ok : ∀ k, k < 5 → parseFieldDescriptor (TX2 k).2.2.1 = some (tyX2 k) := by decide +kernel
abbrev cX2_init : ByteArray := prog_1_method_1_code
def yX2_init : MethodName := ⟨RX2, "<init>", "()V"⟩
abbrev cX2_write : ByteArray := prog_1_method_2_code
def yX2_write : MethodName := ⟨RX2, "write", "(II)Z"⟩
abbrev cX2_strike : ByteArray := prog_1_method_3_code
def yX2_strike : MethodName := ⟨RX2, "strike", "(I)Z"⟩
abbrev cX2_bind : ByteArray := prog_1_method_4_code
def yX2_bind : MethodName := ⟨RX2, "bind", "()I"⟩
abbrev cX2_merge : ByteArray := prog_1_method_5_code
def yX2_merge : MethodName := ⟨RX2, "merge", "(I)I"⟩
abbrev cX2_setRoom : ByteArray := prog_1_method_6_code
def yX2_setRoom : MethodName := ⟨RX2, "setRoom", "(I)I"⟩
abbrev cX2_read : ByteArray := prog_1_method_7_code
def yX2_read : MethodName := ⟨RX2, "read", "(I)I"⟩
abbrev cX2_detours : ByteArray := prog_1_method_8_code
def yX2_detours : MethodName := ⟨RX2, "detours", "(I)I"⟩
abbrev cX2_next : ByteArray := prog_1_method_9_code
def yX2_next : MethodName := ⟨RX2, "next", "(I)I"⟩
abbrev cX2_sum : ByteArray := prog_1_method_10_code
def yX2_sum : MethodName := ⟨RX2, "sum", "(II)I"⟩
abbrev cX2_run : ByteArray := prog_1_method_11_code
def yX2_run : MethodName := ⟨RX2, "run", "(III)I"⟩
abbrev cX2_slip : ByteArray := prog_1_method_12_code
def yX2_slip : MethodName := ⟨RX2, "slip", "(III)I"⟩
abbrev cX2_desk : ByteArray := prog_1_method_13_code
def yX2_desk : MethodName := ⟨RX2, "desk", "(I)I"⟩
abbrev cX2_level : ByteArray := prog_1_method_14_code
def yX2_level : MethodName := ⟨RX2, "level", "(II)I"⟩
abbrev cX2_count : ByteArray := prog_1_method_15_code
def yX2_count : MethodName := ⟨RX2, "count", "(I)I"⟩
abbrev cX2_spares : ByteArray := prog_1_method_16_code
def yX2_spares : MethodName := ⟨RX2, "spares", "(I)I"⟩
abbrev cX2_advise : ByteArray := prog_1_method_17_code
def yX2_advise : MethodName := ⟨RX2, "advise", "()I"⟩
abbrev cX2_mean : ByteArray := prog_1_method_18_code
def yX2_mean : MethodName := ⟨RX2, "mean", "()D"⟩
abbrev cX2_digest : ByteArray := prog_1_method_19_code
def yX2_digest : MethodName := ⟨RX2, "digest", "()J"⟩
abbrev cX2_needNumber : ByteArray := prog_1_method_20_code
def yX2_needNumber : MethodName := ⟨RX2, "needNumber", "(I)V"⟩
abbrev cX2_needLevel : ByteArray := prog_1_method_21_code
def yX2_needLevel : MethodName := ⟨RX2, "needLevel", "(I)V"⟩
abbrev cX2_slipAt : ByteArray := prog_1_method_22_code
def yX2_slipAt : MethodName := ⟨RX2, "slipAt", "(LSlipLevels$Slips;I)I"⟩
abbrev cX2_bindFrom : ByteArray := prog_1_method_23_code
def yX2_bindFrom : MethodName := ⟨RX2, "bindFrom", "(I)I"⟩
abbrev cX2_wordOf : ByteArray := prog_1_method_24_code
def yX2_wordOf : MethodName := ⟨RX2, "wordOf", "(I)I"⟩
abbrev cX2_detoursIn : ByteArray := prog_1_method_25_code
def yX2_detoursIn : MethodName := ⟨RX2, "detoursIn", "(LSlipLevels$Binder;I)I"⟩
abbrev cX2_allDetoursIn : ByteArray := prog_1_method_26_code
def yX2_allDetoursIn : MethodName := ⟨RX2, "allDetoursIn", "(LSlipLevels$Binder;)I"⟩
abbrev cX2_standingIn : ByteArray := prog_1_method_27_code
def yX2_standingIn : MethodName := ⟨RX2, "standingIn", "(II)I"⟩
abbrev cX2_wordsStanding : ByteArray := prog_1_method_28_code
def yX2_wordsStanding : MethodName := ⟨RX2, "wordsStanding", "()I"⟩
abbrev cX2_tally : ByteArray := prog_1_method_29_code
def yX2_tally : MethodName := ⟨RX2, "tally", "(I)I"⟩
abbrev cX2_tryMerging : ByteArray := prog_1_method_30_code
def yX2_tryMerging : MethodName := ⟨RX2, "tryMerging", "(I)V"⟩
abbrev cX2_digestLevel : ByteArray := prog_1_method_31_code
def yX2_digestLevel : MethodName := ⟨RX2, "digestLevel", "(JI)J"⟩
abbrev cX2_digestSlips : ByteArray := prog_1_method_32_code
def yX2_digestSlips : MethodName := ⟨RX2, "digestSlips", "(JLSlipLevels$Slips;)J"⟩
def RX3 : String := "SlipLevelsModel"
def TX3 : u_T := fun k => match k with
  | 0 => ("SlipLevelsModel", "thrown", "I", false)
  | 1 => ("SlipLevelsModel", "desk", "[I", false)
  | 2 => ("SlipLevelsModel", "levels", "[[[I", false)
  | _ => ("SlipLevelsModel", "numbers", "[I", false)
def tyX3 : Nat → FieldType := fun k => match k with
  | 0 => .int
  | 1 => .array .int
  | 2 => .array (.array (.array .int))
  | _ => .array .int
abbrev wsX30 : List Cond := u_ws RX3 TX3 4
theorem nmX3 : ∀ a, a < 4 → ∀ b, b < 4 → a ≠ b → (TX3 a).2.1 ≠ (TX3 b).2.1 := by decide +kernel
theorem tyX3_ok : ∀ k, k < 4 → parseFieldDescriptor (TX3 k).2.2.1 = some (tyX3 k) := by decide +kernel
abbrev cX3_init : ByteArray := prog_5_method_1_code
def yX3_init : MethodName := ⟨RX3, "<init>", "()V"⟩
abbrev cX3_thrown : ByteArray := prog_5_method_2_code
def yX3_thrown : MethodName := ⟨RX3, "thrown", "()I"⟩
abbrev cX3_fail : ByteArray := prog_5_method_3_code
def yX3_fail : MethodName := ⟨RX3, "fail", "(I)I"⟩
abbrev cX3_isIn : ByteArray := prog_5_method_4_code
def yX3_isIn : MethodName := ⟨RX3, "isIn", "(III)Z"⟩
abbrev cX3_isNumber : ByteArray := prog_5_method_5_code
def yX3_isNumber : MethodName := ⟨RX3, "isNumber", "(I)Z"⟩
abbrev cX3_isLevel : ByteArray := prog_5_method_6_code
def yX3_isLevel : MethodName := ⟨RX3, "isLevel", "(I)Z"⟩
abbrev cX3_isRun : ByteArray := prog_5_method_7_code
def yX3_isRun : MethodName := ⟨RX3, "isRun", "(II)Z"⟩
abbrev cX3_empty : ByteArray := prog_5_method_8_code
def yX3_empty : MethodName := ⟨RX3, "empty", "()[I"⟩
abbrev cX3_size : ByteArray := prog_5_method_9_code
def yX3_size : MethodName := ⟨RX3, "size", "([I)I"⟩
abbrev cX3_tombs : ByteArray := prog_5_method_10_code
def yX3_tombs : MethodName := ⟨RX3, "tombs", "([I)I"⟩
abbrev cX3_end : ByteArray := prog_5_method_11_code
def yX3_end : MethodName := ⟨RX3, "end", "([III)I"⟩
abbrev cX3_isOpen : ByteArray := prog_5_method_12_code
def yX3_isOpen : MethodName := ⟨RX3, "isOpen", "([II)Z"⟩
abbrev cX3_come : ByteArray := prog_5_method_13_code
def yX3_come : MethodName := ⟨RX3, "come", "(I[I)V"⟩
abbrev cX3_mergeOne : ByteArray := prog_5_method_14_code
def yX3_mergeOne : MethodName := ⟨RX3, "mergeOne", "(I)V"⟩
abbrev cX3_settle : ByteArray := prog_5_method_15_code
def yX3_settle : MethodName := ⟨RX3, "settle", "()V"⟩
abbrev cX3_bound : ByteArray := prog_5_method_16_code
def yX3_bound : MethodName := ⟨RX3, "bound", "()I"⟩
abbrev cX3_put : ByteArray := prog_5_method_17_code
def yX3_put : MethodName := ⟨RX3, "put", "(II)Z"⟩
abbrev cX3_write : ByteArray := prog_5_method_18_code
def yX3_write : MethodName := ⟨RX3, "write", "(II)Z"⟩
abbrev cX3_strike : ByteArray := prog_5_method_19_code
def yX3_strike : MethodName := ⟨RX3, "strike", "(I)Z"⟩
abbrev cX3_bind : ByteArray := prog_5_method_20_code
def yX3_bind : MethodName := ⟨RX3, "bind", "()I"⟩
abbrev cX3_merge : ByteArray := prog_5_method_21_code
def yX3_merge : MethodName := ⟨RX3, "merge", "(I)I"⟩
abbrev cX3_setRoom : ByteArray := prog_5_method_22_code
def yX3_setRoom : MethodName := ⟨RX3, "setRoom", "(I)I"⟩
abbrev cX3_said : ByteArray := prog_5_method_23_code
def yX3_said : MethodName := ⟨RX3, "said", "(I)I"⟩
abbrev cX3_word : ByteArray := prog_5_method_24_code
def yX3_word : MethodName := ⟨RX3, "word", "(I)I"⟩
abbrev cX3_opened : ByteArray := prog_5_method_25_code
def yX3_opened : MethodName := ⟨RX3, "opened", "(I)I"⟩
abbrev cX3_read : ByteArray := prog_5_method_26_code
def yX3_read : MethodName := ⟨RX3, "read", "(I)I"⟩
abbrev cX3_detours : ByteArray := prog_5_method_27_code
def yX3_detours : MethodName := ⟨RX3, "detours", "(I)I"⟩
abbrev cX3_next : ByteArray := prog_5_method_28_code
def yX3_next : MethodName := ⟨RX3, "next", "(I)I"⟩
abbrev cX3_sum : ByteArray := prog_5_method_29_code
def yX3_sum : MethodName := ⟨RX3, "sum", "(II)I"⟩
abbrev cX3_standing : ByteArray := prog_5_method_30_code
def yX3_standing : MethodName := ⟨RX3, "standing", "(II)I"⟩
abbrev cX3_runTold : ByteArray := prog_5_method_31_code
def yX3_runTold : MethodName := ⟨RX3, "runTold", "(III)I"⟩
abbrev cX3_run : ByteArray := prog_5_method_32_code
def yX3_run : MethodName := ⟨RX3, "run", "(III)I"⟩
abbrev cX3_slipTold : ByteArray := prog_5_method_33_code
def yX3_slipTold : MethodName := ⟨RX3, "slipTold", "([II)I"⟩
abbrev cX3_slip : ByteArray := prog_5_method_34_code
def yX3_slip : MethodName := ⟨RX3, "slip", "(III)I"⟩
abbrev cX3_desk : ByteArray := prog_5_method_35_code
def yX3_desk : MethodName := ⟨RX3, "desk", "(I)I"⟩
abbrev cX3_levelTold : ByteArray := prog_5_method_36_code
def yX3_levelTold : MethodName := ⟨RX3, "levelTold", "(II)I"⟩
abbrev cX3_level : ByteArray := prog_5_method_37_code
def yX3_level : MethodName := ⟨RX3, "level", "(II)I"⟩
abbrev cX3_slips : ByteArray := prog_5_method_38_code
def yX3_slips : MethodName := ⟨RX3, "slips", "()I"⟩
abbrev cX3_counted : ByteArray := prog_5_method_39_code
def yX3_counted : MethodName := ⟨RX3, "counted", "(I)I"⟩
abbrev cX3_count : ByteArray := prog_5_method_40_code
def yX3_count : MethodName := ⟨RX3, "count", "(I)I"⟩
abbrev cX3_allOpened : ByteArray := prog_5_method_41_code
def yX3_allOpened : MethodName := ⟨RX3, "allOpened", "()I"⟩
abbrev cX3_tried : ByteArray := prog_5_method_42_code
def yX3_tried : MethodName := ⟨RX3, "tried", "(IZ)I"⟩
abbrev cX3_spares : ByteArray := prog_5_method_43_code
def yX3_spares : MethodName := ⟨RX3, "spares", "(I)I"⟩
abbrev cX3_advise : ByteArray := prog_5_method_44_code
def yX3_advise : MethodName := ⟨RX3, "advise", "()I"⟩
abbrev cX3_mean : ByteArray := prog_5_method_45_code
def yX3_mean : MethodName := ⟨RX3, "mean", "()D"⟩
abbrev cX3_digest : ByteArray := prog_5_method_46_code
def yX3_digest : MethodName := ⟨RX3, "digest", "()J"⟩
def RJx145de : String := "java/io/Serializable"
def TJx145de : u_T := fun k => match k with
  | _ => ("", "", "", false)
def tyJx145de : Nat → FieldType := fun k => match k with
  | _ => .int
abbrev wsJx145de0 : List Cond := u_ws RJx145de TJx145de 0
theorem nmJx145de : ∀ a, a < 0 → ∀ b, b < 0 → a ≠ b → (TJx145de a).2.1 ≠ (TJx145de b).2.1 := by decide +kernel
theorem tyJx145de_ok : ∀ k, k < 0 → parseFieldDescriptor (TJx145de k).2.2.1 = some (tyJx145de k) := by decide +kernel
def RJx8e188 : String := "java/lang/Cloneable"
def TJx8e188 : u_T := fun k => match k with
  | _ => ("", "", "", false)
def tyJx8e188 : Nat → FieldType := fun k => match k with
  | _ => .int
abbrev wsJx8e1880 : List Cond := u_ws RJx8e188 TJx8e188 0
theorem nmJx8e188 : ∀ a, a < 0 → ∀ b, b < 0 → a ≠ b → (TJx8e188 a).2.1 ≠ (TJx8e188 b).2.1 := by decide +kernel
theorem tyJx8e188_ok : ∀ k, k < 0 → parseFieldDescriptor (TJx8e188 k).2.2.1 = some (tyJx8e188 k) := by decide +kernel
def RJ9 : String := "java/lang/Math"
def TJ9 : u_T := fun k => match k with
  | _ => ("", "", "", false)
def tyJ9 : Nat → FieldType := fun k => match k with
  | _ => .int
abbrev wsJ90 : List Cond := u_ws RJ9 TJ9 0
theorem nmJ9 : ∀ a, a < 0 → ∀ b, b < 0 → a ≠ b → (TJ9 a).2.1 ≠ (TJ9 b).2.1 := by decide +kernel
theorem tyJ9_ok : ∀ k, k < 0 → parseFieldDescriptor (TJ9 k).2.2.1 = some (tyJ9 k) := by decide +kernel
abbrev cJ9_max_7cf53 : ByteArray := prog_11_method_65_code
def yJ9_max_7cf53 : MethodName := ⟨RJ9, "max", "(II)I"⟩
abbrev cJ9_min_7cf53 : ByteArray := prog_11_method_69_code
def yJ9_min_7cf53 : MethodName := ⟨RJ9, "min", "(II)I"⟩
def RJ0 : String := "java/lang/String"
def TJ0 : u_T := fun k => match k with
  | _ => ("", "", "", false)
def tyJ0 : Nat → FieldType := fun k => match k with
  | _ => .int
abbrev wsJ00 : List Cond := u_ws RJ0 TJ0 0
theorem nmJ0 : ∀ a, a < 0 → ∀ b, b < 0 → a ≠ b → (TJ0 a).2.1 ≠ (TJ0 b).2.1 := by decide +kernel
theorem tyJ0_ok : ∀ k, k < 0 → parseFieldDescriptor (TJ0 k).2.2.1 = some (tyJ0 k) := by decide +kernel
def RJ10 : String := "java/lang/System"
def TJ10 : u_T := fun k => match k with
  | _ => ("", "", "", false)
def tyJ10 : Nat → FieldType := fun k => match k with
  | _ => .int
abbrev wsJ100 : List Cond := u_ws RJ10 TJ10 0
theorem nmJ10 : ∀ a, a < 0 → ∀ b, b < 0 → a ≠ b → (TJ10 a).2.1 ≠ (TJ10 b).2.1 := by decide +kernel
theorem tyJ10_ok : ∀ k, k < 0 → parseFieldDescriptor (TJ10 k).2.2.1 = some (tyJ10 k) := by decide +kernel
def RJ7 : String := "java/util/Arrays"
def TJ7 : u_T := fun k => match k with
  | _ => ("", "", "", false)
def tyJ7 : Nat → FieldType := fun k => match k with
  | _ => .int
abbrev wsJ70 : List Cond := u_ws RJ7 TJ7 0
theorem nmJ7 : ∀ a, a < 0 → ∀ b, b < 0 → a ≠ b → (TJ7 a).2.1 ≠ (TJ7 b).2.1 := by decide +kernel
theorem tyJ7_ok : ∀ k, k < 0 → parseFieldDescriptor (TJ7 k).2.2.1 = some (tyJ7 k) := by decide +kernel
abbrev cJ7_fill_53178 : ByteArray := prog_16_method_103_code
def yJ7_fill_53178 : MethodName := ⟨RJ7, "fill", "([II)V"⟩
def RL : String := "SlipLevelsLaw"
abbrev cL_write : ByteArray := method_3_code
def yL_write : MethodName := ⟨RL, "write", "(LSlipLevels;II[J)I"⟩
abbrev cL_strike : ByteArray := method_4_code
def yL_strike : MethodName := ⟨RL, "strike", "(LSlipLevels;I[J)I"⟩
abbrev cL_merge : ByteArray := method_5_code
def yL_merge : MethodName := ⟨RL, "merge", "(LSlipLevels;I[J)I"⟩
abbrev cL_setRoom : ByteArray := method_6_code
def yL_setRoom : MethodName := ⟨RL, "setRoom", "(LSlipLevels;I[J)I"⟩
abbrev cL_read : ByteArray := method_7_code
def yL_read : MethodName := ⟨RL, "read", "(LSlipLevels;I[J)I"⟩
abbrev cL_detours : ByteArray := method_8_code
def yL_detours : MethodName := ⟨RL, "detours", "(LSlipLevels;I[J)I"⟩
abbrev cL_next : ByteArray := method_9_code
def yL_next : MethodName := ⟨RL, "next", "(LSlipLevels;I[J)I"⟩
abbrev cL_sum : ByteArray := method_10_code
def yL_sum : MethodName := ⟨RL, "sum", "(LSlipLevels;II[J)I"⟩
abbrev cL_run : ByteArray := method_11_code
def yL_run : MethodName := ⟨RL, "run", "(LSlipLevels;III[J)I"⟩
abbrev cL_slip : ByteArray := method_12_code
def yL_slip : MethodName := ⟨RL, "slip", "(LSlipLevels;III[J)I"⟩
abbrev cL_desk : ByteArray := method_13_code
def yL_desk : MethodName := ⟨RL, "desk", "(LSlipLevels;I[J)I"⟩
abbrev cL_level : ByteArray := method_14_code
def yL_level : MethodName := ⟨RL, "level", "(LSlipLevels;II[J)I"⟩
abbrev cL_count : ByteArray := method_15_code
def yL_count : MethodName := ⟨RL, "count", "(LSlipLevels;I[J)I"⟩
abbrev cL_spares : ByteArray := method_16_code
def yL_spares : MethodName := ⟨RL, "spares", "(LSlipLevels;I[J)I"⟩
abbrev cL_law : ByteArray := code
def yL_law : MethodName := ⟨RL, "law", "([I)Z"⟩
def wsJ7_fill_53178 : List Cond := .code yJ7_fill_53178 cJ7_fill_53178 4 none :: ([])
def wsX1_clear : List Cond := .code yX1_clear cX1_clear 1 none :: ([.fieldLink RX1 9 "SlipLevels$Slips" "words" "[I", .fieldLink RX1 24 "SlipLevels$Slips" "size" "I", .fieldLink RX1 28 "SlipLevels$Slips" "tombs" "I", .fieldLink RX1 31 "SlipLevels$Slips" "least" "I", .fieldLink RX1 34 "SlipLevels$Slips" "greatest" "I", .fieldLink RX1 37 "SlipLevels$Slips" "sieve" "I", .methodLink RX1 18 yJ7_fill_53178, .static yJ7_fill_53178, .initialized RJ7, .code yJ7_fill_53178 cJ7_fill_53178 4 none] ++ wsX10)
def wsX1_init : List Cond := .code yX1_init cX1_init 1 none :: ([.methodLink RX1 3 objectInit, .instanceMethod objectInit, .code objectInit ⟨#[0xb1]⟩ 1 none, .arrayClass .int, .fieldLink RX1 9 "SlipLevels$Slips" "words" "[I", .methodLink RX1 15 yX1_clear, .instanceMethod yX1_clear, .selects RX1 yX1_clear yX1_clear, .initialized RX1, .code yX1_clear cX1_clear 1 none, .fieldLink RX1 24 "SlipLevels$Slips" "size" "I", .fieldLink RX1 28 "SlipLevels$Slips" "tombs" "I", .fieldLink RX1 31 "SlipLevels$Slips" "least" "I", .fieldLink RX1 34 "SlipLevels$Slips" "greatest" "I", .fieldLink RX1 37 "SlipLevels$Slips" "sieve" "I", .methodLink RX1 18 yJ7_fill_53178, .static yJ7_fill_53178, .initialized RJ7, .code yJ7_fill_53178 cJ7_fill_53178 4 none] ++ wsX10)
def wsX0_init_r1 : List Cond := [Cond.methodLink RX0 3 objectInit, Cond.instanceMethod objectInit, Cond.code objectInit ⟨#[0xb1]⟩ 1 none, Cond.classLink RX0 9 RX1, Cond.fieldLink RX0 11 "SlipLevels$Binder" "rows" "[LSlipLevels$Slips;", Cond.arrayClass .int, Cond.fieldLink RX0 17 "SlipLevels$Binder" "runs" "[I", Cond.instantiable RX1 6, Cond.initialized RX1, Cond.fieldLink RX0 22 "SlipLevels$Binder" "merged" "LSlipLevels$Slips;", Cond.fieldLink RX0 26 "SlipLevels$Binder" "moves" "I", Cond.fieldLink RX0 30 "SlipLevels$Binder" "mergings" "I", Cond.methodLink RX0 21 yX1_init, Cond.instanceMethod yX1_init, Cond.code yX1_init cX1_init 1 none, Cond.methodLink RX1 3 objectInit, Cond.fieldLink RX1 9 "SlipLevels$Slips" "words" "[I", Cond.methodLink RX1 15 yX1_clear, Cond.instanceMethod yX1_clear, Cond.selects RX1 yX1_clear yX1_clear, Cond.code yX1_clear cX1_clear 1 none, Cond.fieldLink RX1 24 "SlipLevels$Slips" "size" "I", Cond.fieldLink RX1 28 "SlipLevels$Slips" "tombs" "I", Cond.fieldLink RX1 31 "SlipLevels$Slips" "least" "I"]
def wsX0_init_r2 : List Cond := [Cond.fieldLink RX1 34 "SlipLevels$Slips" "greatest" "I", Cond.fieldLink RX1 37 "SlipLevels$Slips" "sieve" "I", Cond.methodLink RX1 18 yJ7_fill_53178, Cond.static yJ7_fill_53178, Cond.initialized RJ7, Cond.code yJ7_fill_53178 cJ7_fill_53178 4 none]
def wsX0_init : List Cond := .code yX0_init cX0_init 2 none :: ((wsX0_init_r1 ++ wsX0_init_r2) ++ wsX00 ++ wsX10)
def wsX0_moves : List Cond := .code yX0_moves cX0_moves 1 (some .int) :: ([.fieldLink RX0 26 "SlipLevels$Binder" "moves" "I"] ++ wsX00)
def wsX0_mergings : List Cond := .code yX0_mergings cX0_mergings 1 (some .int) :: ([.fieldLink RX0 30 "SlipLevels$Binder" "mergings" "I"] ++ wsX00)
def wsX0_runsOf : List Cond := .code yX0_runsOf cX0_runsOf 2 (some .int) :: ([.fieldLink RX0 17 "SlipLevels$Binder" "runs" "[I"] ++ wsX00)
def wsX0_runAt : List Cond := .code yX0_runAt cX0_runAt 4 (some (.object "SlipLevels$Slips")) :: ([.fieldLink RX0 17 "SlipLevels$Binder" "runs" "[I", .fieldLink RX0 11 "SlipLevels$Binder" "rows" "[LSlipLevels$Slips;"] ++ wsX00)
def wsX0_rowAt : List Cond := .code yX0_rowAt cX0_rowAt 3 (some (.object "SlipLevels$Slips")) :: ([.fieldLink RX0 11 "SlipLevels$Binder" "rows" "[LSlipLevels$Slips;"] ++ wsX00)
def wsX1_size : List Cond := .code yX1_size cX1_size 1 (some .int) :: ([.fieldLink RX1 24 "SlipLevels$Slips" "size" "I"] ++ wsX10)
def wsX0_slipsOf : List Cond := .code yX0_slipsOf cX0_slipsOf 5 (some .int) :: ([.methodLink RX0 33 yX0_runsOf, .instanceMethod yX0_runsOf, .selects RX0 yX0_runsOf yX0_runsOf, .initialized RX0, .code yX0_runsOf cX0_runsOf 2 (some .int), .fieldLink RX0 17 "SlipLevels$Binder" "runs" "[I", .methodLink RX0 37 yX0_runAt, .instanceMethod yX0_runAt, .selects RX0 yX0_runAt yX0_runAt, .code yX0_runAt cX0_runAt 4 (some (.object "SlipLevels$Slips")), .fieldLink RX0 11 "SlipLevels$Binder" "rows" "[LSlipLevels$Slips;", .methodLink RX0 41 yX1_size, .instanceMethod yX1_size, .selects RX1 yX1_size yX1_size, .initialized RX1, .code yX1_size cX1_size 1 (some .int), .fieldLink RX1 24 "SlipLevels$Slips" "size" "I"] ++ wsX00 ++ wsX10)
def wsX1_tombs : List Cond := .code yX1_tombs cX1_tombs 1 (some .int) :: ([.fieldLink RX1 28 "SlipLevels$Slips" "tombs" "I"] ++ wsX10)
def wsX0_tombsOf : List Cond := .code yX0_tombsOf cX0_tombsOf 5 (some .int) :: ([.methodLink RX0 33 yX0_runsOf, .instanceMethod yX0_runsOf, .selects RX0 yX0_runsOf yX0_runsOf, .initialized RX0, .code yX0_runsOf cX0_runsOf 2 (some .int), .fieldLink RX0 17 "SlipLevels$Binder" "runs" "[I", .methodLink RX0 37 yX0_runAt, .instanceMethod yX0_runAt, .selects RX0 yX0_runAt yX0_runAt, .code yX0_runAt cX0_runAt 4 (some (.object "SlipLevels$Slips")), .fieldLink RX0 11 "SlipLevels$Binder" "rows" "[LSlipLevels$Slips;", .methodLink RX0 45 yX1_tombs, .instanceMethod yX1_tombs, .selects RX1 yX1_tombs yX1_tombs, .initialized RX1, .code yX1_tombs cX1_tombs 1 (some .int), .fieldLink RX1 28 "SlipLevels$Slips" "tombs" "I"] ++ wsX00 ++ wsX10)
def wsX0_slips : List Cond := .code yX0_slips cX0_slips 3 (some .int) :: ([.methodLink RX0 48 yX0_slipsOf, .instanceMethod yX0_slipsOf, .selects RX0 yX0_slipsOf yX0_slipsOf, .initialized RX0, .code yX0_slipsOf cX0_slipsOf 5 (some .int), .methodLink RX0 33 yX0_runsOf, .instanceMethod yX0_runsOf, .selects RX0 yX0_runsOf yX0_runsOf, .code yX0_runsOf cX0_runsOf 2 (some .int), .fieldLink RX0 17 "SlipLevels$Binder" "runs" "[I", .methodLink RX0 37 yX0_runAt, .instanceMethod yX0_runAt, .selects RX0 yX0_runAt yX0_runAt, .code yX0_runAt cX0_runAt 4 (some (.object "SlipLevels$Slips")), .fieldLink RX0 11 "SlipLevels$Binder" "rows" "[LSlipLevels$Slips;", .methodLink RX0 41 yX1_size, .instanceMethod yX1_size, .selects RX1 yX1_size yX1_size, .initialized RX1, .code yX1_size cX1_size 1 (some .int), .fieldLink RX1 24 "SlipLevels$Slips" "size" "I"] ++ wsX00 ++ wsX10)
def wsX1_wordAt : List Cond := .code yX1_wordAt cX1_wordAt 2 (some .int) :: ([.fieldLink RX1 9 "SlipLevels$Slips" "words" "[I"] ++ wsX10)
def wsX0_firstWordIn : List Cond := .code yX0_firstWordIn cX0_firstWordIn 5 (some .int) :: ([.methodLink RX0 37 yX0_runAt, .instanceMethod yX0_runAt, .selects RX0 yX0_runAt yX0_runAt, .initialized RX0, .code yX0_runAt cX0_runAt 4 (some (.object "SlipLevels$Slips")), .fieldLink RX0 17 "SlipLevels$Binder" "runs" "[I", .fieldLink RX0 11 "SlipLevels$Binder" "rows" "[LSlipLevels$Slips;", .methodLink RX0 51 yX1_wordAt, .instanceMethod yX1_wordAt, .selects RX1 yX1_wordAt yX1_wordAt, .initialized RX1, .code yX1_wordAt cX1_wordAt 2 (some .int), .fieldLink RX1 9 "SlipLevels$Slips" "words" "[I"] ++ wsX00 ++ wsX10)
def wsX0_firstWord : List Cond := .code yX0_firstWord cX0_firstWord 4 (some .int) :: ([.methodLink RX0 54 yX0_firstWordIn, .instanceMethod yX0_firstWordIn, .selects RX0 yX0_firstWordIn yX0_firstWordIn, .initialized RX0, .code yX0_firstWordIn cX0_firstWordIn 5 (some .int), .methodLink RX0 37 yX0_runAt, .instanceMethod yX0_runAt, .selects RX0 yX0_runAt yX0_runAt, .code yX0_runAt cX0_runAt 4 (some (.object "SlipLevels$Slips")), .fieldLink RX0 17 "SlipLevels$Binder" "runs" "[I", .fieldLink RX0 11 "SlipLevels$Binder" "rows" "[LSlipLevels$Slips;", .methodLink RX0 51 yX1_wordAt, .instanceMethod yX1_wordAt, .selects RX1 yX1_wordAt yX1_wordAt, .initialized RX1, .code yX1_wordAt cX1_wordAt 2 (some .int), .fieldLink RX1 9 "SlipLevels$Slips" "words" "[I"] ++ wsX00 ++ wsX10)
def wsX1_has : List Cond := .code yX1_has cX1_has 2 (some .boolean) :: ([.methodLink RX1 55 yX1_wordAt, .instanceMethod yX1_wordAt, .selects RX1 yX1_wordAt yX1_wordAt, .initialized RX1, .code yX1_wordAt cX1_wordAt 2 (some .int), .fieldLink RX1 9 "SlipLevels$Slips" "words" "[I"] ++ wsX10)
def wsX0_isFirst : List Cond := .code yX0_isFirst cX0_isFirst 6 (some .boolean) :: ([.methodLink RX0 54 yX0_firstWordIn, .instanceMethod yX0_firstWordIn, .selects RX0 yX0_firstWordIn yX0_firstWordIn, .initialized RX0, .code yX0_firstWordIn cX0_firstWordIn 5 (some .int), .methodLink RX0 37 yX0_runAt, .instanceMethod yX0_runAt, .selects RX0 yX0_runAt yX0_runAt, .code yX0_runAt cX0_runAt 4 (some (.object "SlipLevels$Slips")), .fieldLink RX0 17 "SlipLevels$Binder" "runs" "[I", .fieldLink RX0 11 "SlipLevels$Binder" "rows" "[LSlipLevels$Slips;", .methodLink RX0 51 yX1_wordAt, .instanceMethod yX1_wordAt, .selects RX1 yX1_wordAt yX1_wordAt, .initialized RX1, .code yX1_wordAt cX1_wordAt 2 (some .int), .fieldLink RX1 9 "SlipLevels$Slips" "words" "[I", .methodLink RX0 58 yX1_has, .instanceMethod yX1_has, .selects RX1 yX1_has yX1_has, .code yX1_has cX1_has 2 (some .boolean), .methodLink RX1 55 yX1_wordAt] ++ wsX00 ++ wsX10)
def wsX1_opensFor : List Cond := .code yX1_opensFor cX1_opensFor 2 (some .boolean) :: ([.fieldLink RX1 31 "SlipLevels$Slips" "least" "I", .fieldLink RX1 34 "SlipLevels$Slips" "greatest" "I", .fieldLink RX1 37 "SlipLevels$Slips" "sieve" "I"] ++ wsX10)
def wsX0_detoursTo_r1 : List Cond := [Cond.methodLink RX0 33 yX0_runsOf, Cond.instanceMethod yX0_runsOf, Cond.selects RX0 yX0_runsOf yX0_runsOf, Cond.initialized RX0, Cond.code yX0_runsOf cX0_runsOf 2 (some .int), Cond.fieldLink RX0 17 "SlipLevels$Binder" "runs" "[I", Cond.methodLink RX0 37 yX0_runAt, Cond.instanceMethod yX0_runAt, Cond.selects RX0 yX0_runAt yX0_runAt, Cond.code yX0_runAt cX0_runAt 4 (some (.object "SlipLevels$Slips")), Cond.fieldLink RX0 11 "SlipLevels$Binder" "rows" "[LSlipLevels$Slips;", Cond.methodLink RX0 62 yX1_opensFor, Cond.instanceMethod yX1_opensFor, Cond.selects RX1 yX1_opensFor yX1_opensFor, Cond.initialized RX1, Cond.code yX1_opensFor cX1_opensFor 2 (some .boolean), Cond.fieldLink RX1 31 "SlipLevels$Slips" "least" "I", Cond.fieldLink RX1 34 "SlipLevels$Slips" "greatest" "I", Cond.fieldLink RX1 37 "SlipLevels$Slips" "sieve" "I", Cond.methodLink RX0 58 yX1_has, Cond.instanceMethod yX1_has, Cond.selects RX1 yX1_has yX1_has, Cond.code yX1_has cX1_has 2 (some .boolean), Cond.methodLink RX1 55 yX1_wordAt]
def wsX0_detoursTo_r2 : List Cond := [Cond.instanceMethod yX1_wordAt, Cond.selects RX1 yX1_wordAt yX1_wordAt, Cond.code yX1_wordAt cX1_wordAt 2 (some .int), Cond.fieldLink RX1 9 "SlipLevels$Slips" "words" "[I"]
def wsX0_detoursTo : List Cond := .code yX0_detoursTo cX0_detoursTo 6 (some .int) :: ((wsX0_detoursTo_r1 ++ wsX0_detoursTo_r2) ++ wsX00 ++ wsX10)
def wsX0_nothingBehind : List Cond := .code yX0_nothingBehind cX0_nothingBehind 3 (some .boolean) :: ([.methodLink RX0 33 yX0_runsOf, .instanceMethod yX0_runsOf, .selects RX0 yX0_runsOf yX0_runsOf, .initialized RX0, .code yX0_runsOf cX0_runsOf 2 (some .int), .fieldLink RX0 17 "SlipLevels$Binder" "runs" "[I"] ++ wsX00)
def wsX1_put : List Cond := .code yX1_put cX1_put 4 none :: ([.fieldLink RX1 9 "SlipLevels$Slips" "words" "[I", .fieldLink RX1 24 "SlipLevels$Slips" "size" "I", .fieldLink RX1 28 "SlipLevels$Slips" "tombs" "I", .fieldLink RX1 31 "SlipLevels$Slips" "least" "I", .methodLink RX1 46 Lib.Math.min.name, .static Lib.Math.min.name, .initialized "java/lang/Math", .code Lib.Math.min.name Lib.Math.min.code 2 (some .int), .fieldLink RX1 34 "SlipLevels$Slips" "greatest" "I", .methodLink RX1 52 Lib.Math.max.name, .static Lib.Math.max.name, .code Lib.Math.max.name Lib.Math.max.code 2 (some .int), .fieldLink RX1 37 "SlipLevels$Slips" "sieve" "I"] ++ wsX10)
def wsX0_gather_r1 : List Cond := [Cond.fieldLink RX0 22 "SlipLevels$Binder" "merged" "LSlipLevels$Slips;", Cond.methodLink RX0 85 yX1_clear, Cond.instanceMethod yX1_clear, Cond.selects RX1 yX1_clear yX1_clear, Cond.initialized RX1, Cond.code yX1_clear cX1_clear 1 none, Cond.fieldLink RX1 9 "SlipLevels$Slips" "words" "[I", Cond.fieldLink RX1 24 "SlipLevels$Slips" "size" "I", Cond.fieldLink RX1 28 "SlipLevels$Slips" "tombs" "I", Cond.fieldLink RX1 31 "SlipLevels$Slips" "least" "I", Cond.fieldLink RX1 34 "SlipLevels$Slips" "greatest" "I", Cond.fieldLink RX1 37 "SlipLevels$Slips" "sieve" "I", Cond.methodLink RX1 18 yJ7_fill_53178, Cond.static yJ7_fill_53178, Cond.initialized RJ7, Cond.code yJ7_fill_53178 cJ7_fill_53178 4 none, Cond.methodLink RX0 54 yX0_firstWordIn, Cond.instanceMethod yX0_firstWordIn, Cond.selects RX0 yX0_firstWordIn yX0_firstWordIn, Cond.initialized RX0, Cond.code yX0_firstWordIn cX0_firstWordIn 5 (some .int), Cond.methodLink RX0 37 yX0_runAt, Cond.instanceMethod yX0_runAt, Cond.selects RX0 yX0_runAt yX0_runAt]
def wsX0_gather_r2 : List Cond := [Cond.code yX0_runAt cX0_runAt 4 (some (.object "SlipLevels$Slips")), Cond.fieldLink RX0 17 "SlipLevels$Binder" "runs" "[I", Cond.fieldLink RX0 11 "SlipLevels$Binder" "rows" "[LSlipLevels$Slips;", Cond.methodLink RX0 51 yX1_wordAt, Cond.instanceMethod yX1_wordAt, Cond.selects RX1 yX1_wordAt yX1_wordAt, Cond.code yX1_wordAt cX1_wordAt 2 (some .int), Cond.methodLink RX0 88 yX1_put, Cond.instanceMethod yX1_put, Cond.selects RX1 yX1_put yX1_put, Cond.code yX1_put cX1_put 4 none, Cond.methodLink RX1 46 Lib.Math.min.name, Cond.static Lib.Math.min.name, Cond.initialized "java/lang/Math", Cond.code Lib.Math.min.name Lib.Math.min.code 2 (some .int), Cond.methodLink RX1 52 Lib.Math.max.name, Cond.static Lib.Math.max.name, Cond.code Lib.Math.max.name Lib.Math.max.code 2 (some .int)]
def wsX0_gather : List Cond := .code yX0_gather cX0_gather 5 none :: ((wsX0_gather_r1 ++ wsX0_gather_r2) ++ wsX00 ++ wsX10)
def wsX1_copy : List Cond := .code yX1_copy cX1_copy 2 none :: ([.fieldLink RX1 9 "SlipLevels$Slips" "words" "[I", .methodLink RX1 40 arraycopyName, .native arraycopyName, .static arraycopyName, .initialized "java/lang/System", .fieldLink RX1 24 "SlipLevels$Slips" "size" "I", .fieldLink RX1 28 "SlipLevels$Slips" "tombs" "I", .fieldLink RX1 31 "SlipLevels$Slips" "least" "I", .fieldLink RX1 34 "SlipLevels$Slips" "greatest" "I", .fieldLink RX1 37 "SlipLevels$Slips" "sieve" "I"] ++ wsX10)
def wsX0_addRun_r1 : List Cond := [Cond.fieldLink RX0 17 "SlipLevels$Binder" "runs" "[I", Cond.fieldLink RX0 26 "SlipLevels$Binder" "moves" "I", Cond.methodLink RX0 33 yX0_runsOf, Cond.instanceMethod yX0_runsOf, Cond.selects RX0 yX0_runsOf yX0_runsOf, Cond.initialized RX0, Cond.code yX0_runsOf cX0_runsOf 2 (some .int), Cond.methodLink RX0 92 yX0_rowAt, Cond.instanceMethod yX0_rowAt, Cond.selects RX0 yX0_rowAt yX0_rowAt, Cond.code yX0_rowAt cX0_rowAt 3 (some (.object "SlipLevels$Slips")), Cond.fieldLink RX0 11 "SlipLevels$Binder" "rows" "[LSlipLevels$Slips;", Cond.methodLink RX0 41 yX1_size, Cond.instanceMethod yX1_size, Cond.selects RX1 yX1_size yX1_size, Cond.initialized RX1, Cond.code yX1_size cX1_size 1 (some .int), Cond.fieldLink RX1 24 "SlipLevels$Slips" "size" "I", Cond.methodLink RX0 95 yX1_copy, Cond.instanceMethod yX1_copy, Cond.selects RX1 yX1_copy yX1_copy, Cond.code yX1_copy cX1_copy 2 none, Cond.fieldLink RX1 9 "SlipLevels$Slips" "words" "[I", Cond.methodLink RX1 40 arraycopyName]
def wsX0_addRun_r2 : List Cond := [Cond.native arraycopyName, Cond.static arraycopyName, Cond.initialized "java/lang/System", Cond.fieldLink RX1 28 "SlipLevels$Slips" "tombs" "I", Cond.fieldLink RX1 31 "SlipLevels$Slips" "least" "I", Cond.fieldLink RX1 34 "SlipLevels$Slips" "greatest" "I", Cond.fieldLink RX1 37 "SlipLevels$Slips" "sieve" "I"]
def wsX0_addRun : List Cond := .code yX0_addRun cX0_addRun 4 none :: ((wsX0_addRun_r1 ++ wsX0_addRun_r2) ++ wsX00 ++ wsX10)
def wsX0_mergeLevel_r1 : List Cond := [Cond.fieldLink RX0 17 "SlipLevels$Binder" "runs" "[I", Cond.methodLink RX0 76 Lib.Math.min.name, Cond.static Lib.Math.min.name, Cond.initialized "java/lang/Math", Cond.code Lib.Math.min.name Lib.Math.min.code 2 (some .int), Cond.fieldLink RX0 22 "SlipLevels$Binder" "merged" "LSlipLevels$Slips;", Cond.fieldLink RX0 30 "SlipLevels$Binder" "mergings" "I", Cond.methodLink RX0 69 yX0_nothingBehind, Cond.instanceMethod yX0_nothingBehind, Cond.selects RX0 yX0_nothingBehind yX0_nothingBehind, Cond.initialized RX0, Cond.code yX0_nothingBehind cX0_nothingBehind 3 (some .boolean), Cond.methodLink RX0 33 yX0_runsOf, Cond.instanceMethod yX0_runsOf, Cond.selects RX0 yX0_runsOf yX0_runsOf, Cond.code yX0_runsOf cX0_runsOf 2 (some .int), Cond.methodLink RX0 72 yX0_gather, Cond.instanceMethod yX0_gather, Cond.selects RX0 yX0_gather yX0_gather, Cond.code yX0_gather cX0_gather 5 none, Cond.methodLink RX0 85 yX1_clear, Cond.instanceMethod yX1_clear, Cond.selects RX1 yX1_clear yX1_clear, Cond.initialized RX1]
def wsX0_mergeLevel_r2 : List Cond := [Cond.code yX1_clear cX1_clear 1 none, Cond.fieldLink RX1 9 "SlipLevels$Slips" "words" "[I", Cond.fieldLink RX1 24 "SlipLevels$Slips" "size" "I", Cond.fieldLink RX1 28 "SlipLevels$Slips" "tombs" "I", Cond.fieldLink RX1 31 "SlipLevels$Slips" "least" "I", Cond.fieldLink RX1 34 "SlipLevels$Slips" "greatest" "I", Cond.fieldLink RX1 37 "SlipLevels$Slips" "sieve" "I", Cond.methodLink RX1 18 yJ7_fill_53178, Cond.static yJ7_fill_53178, Cond.initialized RJ7, Cond.code yJ7_fill_53178 cJ7_fill_53178 4 none, Cond.methodLink RX0 54 yX0_firstWordIn, Cond.instanceMethod yX0_firstWordIn, Cond.selects RX0 yX0_firstWordIn yX0_firstWordIn, Cond.code yX0_firstWordIn cX0_firstWordIn 5 (some .int), Cond.methodLink RX0 37 yX0_runAt, Cond.instanceMethod yX0_runAt, Cond.selects RX0 yX0_runAt yX0_runAt, Cond.code yX0_runAt cX0_runAt 4 (some (.object "SlipLevels$Slips")), Cond.fieldLink RX0 11 "SlipLevels$Binder" "rows" "[LSlipLevels$Slips;", Cond.methodLink RX0 51 yX1_wordAt, Cond.instanceMethod yX1_wordAt, Cond.selects RX1 yX1_wordAt yX1_wordAt, Cond.code yX1_wordAt cX1_wordAt 2 (some .int)]
def wsX0_mergeLevel_r3 : List Cond := [Cond.methodLink RX0 88 yX1_put, Cond.instanceMethod yX1_put, Cond.selects RX1 yX1_put yX1_put, Cond.code yX1_put cX1_put 4 none, Cond.methodLink RX1 46 Lib.Math.min.name, Cond.methodLink RX1 52 Lib.Math.max.name, Cond.static Lib.Math.max.name, Cond.code Lib.Math.max.name Lib.Math.max.code 2 (some .int), Cond.methodLink RX0 81 yX0_addRun, Cond.instanceMethod yX0_addRun, Cond.selects RX0 yX0_addRun yX0_addRun, Cond.code yX0_addRun cX0_addRun 4 none, Cond.fieldLink RX0 26 "SlipLevels$Binder" "moves" "I", Cond.methodLink RX0 92 yX0_rowAt, Cond.instanceMethod yX0_rowAt, Cond.selects RX0 yX0_rowAt yX0_rowAt, Cond.code yX0_rowAt cX0_rowAt 3 (some (.object "SlipLevels$Slips")), Cond.methodLink RX0 41 yX1_size, Cond.instanceMethod yX1_size, Cond.selects RX1 yX1_size yX1_size, Cond.code yX1_size cX1_size 1 (some .int), Cond.methodLink RX0 95 yX1_copy, Cond.instanceMethod yX1_copy, Cond.selects RX1 yX1_copy yX1_copy]
def wsX0_mergeLevel_r4 : List Cond := [Cond.code yX1_copy cX1_copy 2 none, Cond.methodLink RX1 40 arraycopyName, Cond.native arraycopyName, Cond.static arraycopyName, Cond.initialized "java/lang/System"]
def wsX0_mergeLevel : List Cond := .code yX0_mergeLevel cX0_mergeLevel 2 none :: ((wsX0_mergeLevel_r1 ++ (wsX0_mergeLevel_r2 ++ (wsX0_mergeLevel_r3 ++ wsX0_mergeLevel_r4))) ++ wsX00 ++ wsX10)
def wsX0_settle_r1 : List Cond := [Cond.methodLink RX0 33 yX0_runsOf, Cond.instanceMethod yX0_runsOf, Cond.selects RX0 yX0_runsOf yX0_runsOf, Cond.initialized RX0, Cond.code yX0_runsOf cX0_runsOf 2 (some .int), Cond.fieldLink RX0 17 "SlipLevels$Binder" "runs" "[I", Cond.methodLink RX0 65 yX0_mergeLevel, Cond.instanceMethod yX0_mergeLevel, Cond.selects RX0 yX0_mergeLevel yX0_mergeLevel, Cond.code yX0_mergeLevel cX0_mergeLevel 2 none, Cond.methodLink RX0 76 Lib.Math.min.name, Cond.static Lib.Math.min.name, Cond.initialized "java/lang/Math", Cond.code Lib.Math.min.name Lib.Math.min.code 2 (some .int), Cond.fieldLink RX0 22 "SlipLevels$Binder" "merged" "LSlipLevels$Slips;", Cond.fieldLink RX0 30 "SlipLevels$Binder" "mergings" "I", Cond.methodLink RX0 69 yX0_nothingBehind, Cond.instanceMethod yX0_nothingBehind, Cond.selects RX0 yX0_nothingBehind yX0_nothingBehind, Cond.code yX0_nothingBehind cX0_nothingBehind 3 (some .boolean), Cond.methodLink RX0 72 yX0_gather, Cond.instanceMethod yX0_gather, Cond.selects RX0 yX0_gather yX0_gather, Cond.code yX0_gather cX0_gather 5 none]
def wsX0_settle_r2 : List Cond := [Cond.methodLink RX0 85 yX1_clear, Cond.instanceMethod yX1_clear, Cond.selects RX1 yX1_clear yX1_clear, Cond.initialized RX1, Cond.code yX1_clear cX1_clear 1 none, Cond.fieldLink RX1 9 "SlipLevels$Slips" "words" "[I", Cond.fieldLink RX1 24 "SlipLevels$Slips" "size" "I", Cond.fieldLink RX1 28 "SlipLevels$Slips" "tombs" "I", Cond.fieldLink RX1 31 "SlipLevels$Slips" "least" "I", Cond.fieldLink RX1 34 "SlipLevels$Slips" "greatest" "I", Cond.fieldLink RX1 37 "SlipLevels$Slips" "sieve" "I", Cond.methodLink RX1 18 yJ7_fill_53178, Cond.static yJ7_fill_53178, Cond.initialized RJ7, Cond.code yJ7_fill_53178 cJ7_fill_53178 4 none, Cond.methodLink RX0 54 yX0_firstWordIn, Cond.instanceMethod yX0_firstWordIn, Cond.selects RX0 yX0_firstWordIn yX0_firstWordIn, Cond.code yX0_firstWordIn cX0_firstWordIn 5 (some .int), Cond.methodLink RX0 37 yX0_runAt, Cond.instanceMethod yX0_runAt, Cond.selects RX0 yX0_runAt yX0_runAt, Cond.code yX0_runAt cX0_runAt 4 (some (.object "SlipLevels$Slips")), Cond.fieldLink RX0 11 "SlipLevels$Binder" "rows" "[LSlipLevels$Slips;"]
def wsX0_settle_r3 : List Cond := [Cond.methodLink RX0 51 yX1_wordAt, Cond.instanceMethod yX1_wordAt, Cond.selects RX1 yX1_wordAt yX1_wordAt, Cond.code yX1_wordAt cX1_wordAt 2 (some .int), Cond.methodLink RX0 88 yX1_put, Cond.instanceMethod yX1_put, Cond.selects RX1 yX1_put yX1_put, Cond.code yX1_put cX1_put 4 none, Cond.methodLink RX1 46 Lib.Math.min.name, Cond.methodLink RX1 52 Lib.Math.max.name, Cond.static Lib.Math.max.name, Cond.code Lib.Math.max.name Lib.Math.max.code 2 (some .int), Cond.methodLink RX0 81 yX0_addRun, Cond.instanceMethod yX0_addRun, Cond.selects RX0 yX0_addRun yX0_addRun, Cond.code yX0_addRun cX0_addRun 4 none, Cond.fieldLink RX0 26 "SlipLevels$Binder" "moves" "I", Cond.methodLink RX0 92 yX0_rowAt, Cond.instanceMethod yX0_rowAt, Cond.selects RX0 yX0_rowAt yX0_rowAt, Cond.code yX0_rowAt cX0_rowAt 3 (some (.object "SlipLevels$Slips")), Cond.methodLink RX0 41 yX1_size, Cond.instanceMethod yX1_size, Cond.selects RX1 yX1_size yX1_size]
def wsX0_settle_r4 : List Cond := [Cond.code yX1_size cX1_size 1 (some .int), Cond.methodLink RX0 95 yX1_copy, Cond.instanceMethod yX1_copy, Cond.selects RX1 yX1_copy yX1_copy, Cond.code yX1_copy cX1_copy 2 none, Cond.methodLink RX1 40 arraycopyName, Cond.native arraycopyName, Cond.static arraycopyName, Cond.initialized "java/lang/System"]
def wsX0_settle : List Cond := .code yX0_settle cX0_settle 2 none :: ((wsX0_settle_r1 ++ (wsX0_settle_r2 ++ (wsX0_settle_r3 ++ wsX0_settle_r4))) ++ wsX00 ++ wsX10)
def wsX0_copyRuns : List Cond := .code yX0_copyRuns cX0_copyRuns 5 none :: ([.fieldLink RX0 17 "SlipLevels$Binder" "runs" "[I", .methodLink RX0 92 yX0_rowAt, .instanceMethod yX0_rowAt, .selects RX0 yX0_rowAt yX0_rowAt, .initialized RX0, .code yX0_rowAt cX0_rowAt 3 (some (.object "SlipLevels$Slips")), .fieldLink RX0 11 "SlipLevels$Binder" "rows" "[LSlipLevels$Slips;", .methodLink RX0 95 yX1_copy, .instanceMethod yX1_copy, .selects RX1 yX1_copy yX1_copy, .initialized RX1, .code yX1_copy cX1_copy 2 none, .fieldLink RX1 9 "SlipLevels$Slips" "words" "[I", .methodLink RX1 40 arraycopyName, .native arraycopyName, .static arraycopyName, .initialized "java/lang/System", .fieldLink RX1 24 "SlipLevels$Slips" "size" "I", .fieldLink RX1 28 "SlipLevels$Slips" "tombs" "I", .fieldLink RX1 31 "SlipLevels$Slips" "least" "I", .fieldLink RX1 34 "SlipLevels$Slips" "greatest" "I", .fieldLink RX1 37 "SlipLevels$Slips" "sieve" "I"] ++ wsX00 ++ wsX10)
def wsX1_numberAt : List Cond := .code yX1_numberAt cX1_numberAt 4 (some .int) :: ([.fieldLink RX1 24 "SlipLevels$Slips" "size" "I", .methodLink RX1 59 yX1_has, .instanceMethod yX1_has, .selects RX1 yX1_has yX1_has, .initialized RX1, .code yX1_has cX1_has 2 (some .boolean), .methodLink RX1 55 yX1_wordAt, .instanceMethod yX1_wordAt, .selects RX1 yX1_wordAt yX1_wordAt, .code yX1_wordAt cX1_wordAt 2 (some .int), .fieldLink RX1 9 "SlipLevels$Slips" "words" "[I"] ++ wsX10)
def wsX1_told : List Cond := .code yX1_told cX1_told 3 (some .int) :: ([.methodLink RX1 55 yX1_wordAt, .instanceMethod yX1_wordAt, .selects RX1 yX1_wordAt yX1_wordAt, .initialized RX1, .code yX1_wordAt cX1_wordAt 2 (some .int), .fieldLink RX1 9 "SlipLevels$Slips" "words" "[I"] ++ wsX10)
def wsX1_fact : List Cond := .code yX1_fact cX1_fact 2 (some .int) :: ([.fieldLink RX1 24 "SlipLevels$Slips" "size" "I", .fieldLink RX1 31 "SlipLevels$Slips" "least" "I", .fieldLink RX1 34 "SlipLevels$Slips" "greatest" "I", .fieldLink RX1 37 "SlipLevels$Slips" "sieve" "I", .fieldLink RX1 28 "SlipLevels$Slips" "tombs" "I"] ++ wsX10)
def wsX2_init_r1 : List Cond := [Cond.methodLink RX2 1 objectInit, Cond.instanceMethod objectInit, Cond.code objectInit ⟨#[0xb1]⟩ 1 none, Cond.classLink RX2 7 RX1, Cond.instantiable RX1 6, Cond.initialized RX1, Cond.fieldLink RX2 10 "SlipLevels" "deskSlips" "LSlipLevels$Slips;", Cond.classLink RX2 16 RX0, Cond.instantiable RX0 5, Cond.initialized RX0, Cond.fieldLink RX2 19 "SlipLevels" "binder" "LSlipLevels$Binder;", Cond.fieldLink RX2 23 "SlipLevels" "trial" "LSlipLevels$Binder;", Cond.fieldLink RX2 26 "SlipLevels" "deskRoom" "I", Cond.fieldLink RX2 30 "SlipLevels" "detoursRead" "I", Cond.methodLink RX2 9 yX1_init, Cond.instanceMethod yX1_init, Cond.code yX1_init cX1_init 1 none, Cond.methodLink RX1 3 objectInit, Cond.arrayClass .int, Cond.fieldLink RX1 9 "SlipLevels$Slips" "words" "[I", Cond.methodLink RX1 15 yX1_clear, Cond.instanceMethod yX1_clear, Cond.selects RX1 yX1_clear yX1_clear, Cond.code yX1_clear cX1_clear 1 none]
def wsX2_init_r2 : List Cond := [Cond.fieldLink RX1 24 "SlipLevels$Slips" "size" "I", Cond.fieldLink RX1 28 "SlipLevels$Slips" "tombs" "I", Cond.fieldLink RX1 31 "SlipLevels$Slips" "least" "I", Cond.fieldLink RX1 34 "SlipLevels$Slips" "greatest" "I", Cond.fieldLink RX1 37 "SlipLevels$Slips" "sieve" "I", Cond.methodLink RX1 18 yJ7_fill_53178, Cond.static yJ7_fill_53178, Cond.initialized RJ7, Cond.code yJ7_fill_53178 cJ7_fill_53178 4 none, Cond.methodLink RX2 18 yX0_init, Cond.instanceMethod yX0_init, Cond.code yX0_init cX0_init 2 none, Cond.methodLink RX0 3 objectInit, Cond.classLink RX0 9 RX1, Cond.fieldLink RX0 11 "SlipLevels$Binder" "rows" "[LSlipLevels$Slips;", Cond.fieldLink RX0 17 "SlipLevels$Binder" "runs" "[I", Cond.fieldLink RX0 22 "SlipLevels$Binder" "merged" "LSlipLevels$Slips;", Cond.fieldLink RX0 26 "SlipLevels$Binder" "moves" "I", Cond.fieldLink RX0 30 "SlipLevels$Binder" "mergings" "I", Cond.methodLink RX0 21 yX1_init]
def wsX2_init : List Cond := .code yX2_init cX2_init 1 none :: ((wsX2_init_r1 ++ wsX2_init_r2) ++ wsX10 ++ wsX20 ++ wsX00)
def wsX2_needNumber : List Cond := .code yX2_needNumber cX2_needNumber 1 none :: ([.classLink RX2 94 "java/lang/IndexOutOfBoundsException", .initialized "java/lang/IndexOutOfBoundsException"] ++ (vx_atS RX2 98 "java/lang/IndexOutOfBoundsException" ["java/lang/RuntimeException", "java/lang/Exception"]).filter goodWord)
def wsX2_bindFrom_r1 : List Cond := [Cond.fieldLink RX2 10 "SlipLevels" "deskSlips" "LSlipLevels$Slips;", Cond.fieldLink RX2 19 "SlipLevels" "binder" "LSlipLevels$Binder;", Cond.methodLink RX2 160 yX1_size, Cond.instanceMethod yX1_size, Cond.selects RX1 yX1_size yX1_size, Cond.initialized RX1, Cond.code yX1_size cX1_size 1 (some .int), Cond.fieldLink RX1 24 "SlipLevels$Slips" "size" "I", Cond.methodLink RX2 63 yX0_moves, Cond.instanceMethod yX0_moves, Cond.selects RX0 yX0_moves yX0_moves, Cond.initialized RX0, Cond.code yX0_moves cX0_moves 1 (some .int), Cond.fieldLink RX0 26 "SlipLevels$Binder" "moves" "I", Cond.methodLink RX2 163 yX0_addRun, Cond.instanceMethod yX0_addRun, Cond.selects RX0 yX0_addRun yX0_addRun, Cond.code yX0_addRun cX0_addRun 4 none, Cond.fieldLink RX0 17 "SlipLevels$Binder" "runs" "[I", Cond.methodLink RX0 33 yX0_runsOf, Cond.instanceMethod yX0_runsOf, Cond.selects RX0 yX0_runsOf yX0_runsOf, Cond.code yX0_runsOf cX0_runsOf 2 (some .int), Cond.methodLink RX0 92 yX0_rowAt]
def wsX2_bindFrom_r2 : List Cond := [Cond.instanceMethod yX0_rowAt, Cond.selects RX0 yX0_rowAt yX0_rowAt, Cond.code yX0_rowAt cX0_rowAt 3 (some (.object "SlipLevels$Slips")), Cond.fieldLink RX0 11 "SlipLevels$Binder" "rows" "[LSlipLevels$Slips;", Cond.methodLink RX0 41 yX1_size, Cond.methodLink RX0 95 yX1_copy, Cond.instanceMethod yX1_copy, Cond.selects RX1 yX1_copy yX1_copy, Cond.code yX1_copy cX1_copy 2 none, Cond.fieldLink RX1 9 "SlipLevels$Slips" "words" "[I", Cond.methodLink RX1 40 arraycopyName, Cond.native arraycopyName, Cond.static arraycopyName, Cond.initialized "java/lang/System", Cond.fieldLink RX1 28 "SlipLevels$Slips" "tombs" "I", Cond.fieldLink RX1 31 "SlipLevels$Slips" "least" "I", Cond.fieldLink RX1 34 "SlipLevels$Slips" "greatest" "I", Cond.fieldLink RX1 37 "SlipLevels$Slips" "sieve" "I", Cond.methodLink RX2 167 yX1_clear, Cond.instanceMethod yX1_clear, Cond.selects RX1 yX1_clear yX1_clear, Cond.code yX1_clear cX1_clear 1 none, Cond.methodLink RX1 18 yJ7_fill_53178, Cond.static yJ7_fill_53178]
def wsX2_bindFrom_r3 : List Cond := [Cond.initialized RJ7, Cond.code yJ7_fill_53178 cJ7_fill_53178 4 none, Cond.methodLink RX2 70 yX0_settle, Cond.instanceMethod yX0_settle, Cond.selects RX0 yX0_settle yX0_settle, Cond.code yX0_settle cX0_settle 2 none, Cond.methodLink RX0 65 yX0_mergeLevel, Cond.instanceMethod yX0_mergeLevel, Cond.selects RX0 yX0_mergeLevel yX0_mergeLevel, Cond.code yX0_mergeLevel cX0_mergeLevel 2 none, Cond.methodLink RX0 76 Lib.Math.min.name, Cond.static Lib.Math.min.name, Cond.initialized "java/lang/Math", Cond.code Lib.Math.min.name Lib.Math.min.code 2 (some .int), Cond.fieldLink RX0 22 "SlipLevels$Binder" "merged" "LSlipLevels$Slips;", Cond.fieldLink RX0 30 "SlipLevels$Binder" "mergings" "I", Cond.methodLink RX0 69 yX0_nothingBehind, Cond.instanceMethod yX0_nothingBehind, Cond.selects RX0 yX0_nothingBehind yX0_nothingBehind, Cond.code yX0_nothingBehind cX0_nothingBehind 3 (some .boolean), Cond.methodLink RX0 72 yX0_gather, Cond.instanceMethod yX0_gather, Cond.selects RX0 yX0_gather yX0_gather, Cond.code yX0_gather cX0_gather 5 none]
def wsX2_bindFrom_r4 : List Cond := [Cond.methodLink RX0 85 yX1_clear, Cond.methodLink RX0 54 yX0_firstWordIn, Cond.instanceMethod yX0_firstWordIn, Cond.selects RX0 yX0_firstWordIn yX0_firstWordIn, Cond.code yX0_firstWordIn cX0_firstWordIn 5 (some .int), Cond.methodLink RX0 37 yX0_runAt, Cond.instanceMethod yX0_runAt, Cond.selects RX0 yX0_runAt yX0_runAt, Cond.code yX0_runAt cX0_runAt 4 (some (.object "SlipLevels$Slips")), Cond.methodLink RX0 51 yX1_wordAt, Cond.instanceMethod yX1_wordAt, Cond.selects RX1 yX1_wordAt yX1_wordAt, Cond.code yX1_wordAt cX1_wordAt 2 (some .int), Cond.methodLink RX0 88 yX1_put, Cond.instanceMethod yX1_put, Cond.selects RX1 yX1_put yX1_put, Cond.code yX1_put cX1_put 4 none, Cond.methodLink RX1 46 Lib.Math.min.name, Cond.methodLink RX1 52 Lib.Math.max.name, Cond.static Lib.Math.max.name, Cond.code Lib.Math.max.name Lib.Math.max.code 2 (some .int), Cond.methodLink RX0 81 yX0_addRun]
def wsX2_bindFrom : List Cond := .code yX2_bindFrom cX2_bindFrom 3 (some .int) :: ((wsX2_bindFrom_r1 ++ (wsX2_bindFrom_r2 ++ (wsX2_bindFrom_r3 ++ wsX2_bindFrom_r4))) ++ wsX20 ++ wsX10 ++ wsX00)
def wsX2_write_r1 : List Cond := [Cond.classLink RX2 37 "java/lang/IllegalArgumentException", Cond.initialized "java/lang/IllegalArgumentException", Cond.fieldLink RX2 10 "SlipLevels" "deskSlips" "LSlipLevels$Slips;", Cond.fieldLink RX2 26 "SlipLevels" "deskRoom" "I", Cond.methodLink RX2 33 yX2_needNumber, Cond.static yX2_needNumber, Cond.initialized RX2, Cond.code yX2_needNumber cX2_needNumber 1 none, Cond.classLink RX2 94 "java/lang/IndexOutOfBoundsException", Cond.initialized "java/lang/IndexOutOfBoundsException", Cond.methodLink RX2 44 yX1_put, Cond.instanceMethod yX1_put, Cond.selects RX1 yX1_put yX1_put, Cond.initialized RX1, Cond.code yX1_put cX1_put 4 none, Cond.fieldLink RX1 9 "SlipLevels$Slips" "words" "[I", Cond.fieldLink RX1 24 "SlipLevels$Slips" "size" "I", Cond.fieldLink RX1 28 "SlipLevels$Slips" "tombs" "I", Cond.fieldLink RX1 31 "SlipLevels$Slips" "least" "I", Cond.methodLink RX1 46 Lib.Math.min.name, Cond.static Lib.Math.min.name, Cond.initialized "java/lang/Math", Cond.code Lib.Math.min.name Lib.Math.min.code 2 (some .int), Cond.fieldLink RX1 34 "SlipLevels$Slips" "greatest" "I"]
def wsX2_write_r2 : List Cond := [Cond.methodLink RX1 52 Lib.Math.max.name, Cond.static Lib.Math.max.name, Cond.code Lib.Math.max.name Lib.Math.max.code 2 (some .int), Cond.fieldLink RX1 37 "SlipLevels$Slips" "sieve" "I", Cond.methodLink RX2 48 yX2_bindFrom, Cond.instanceMethod yX2_bindFrom, Cond.selects RX2 yX2_bindFrom yX2_bindFrom, Cond.code yX2_bindFrom cX2_bindFrom 3 (some .int), Cond.fieldLink RX2 19 "SlipLevels" "binder" "LSlipLevels$Binder;", Cond.methodLink RX2 160 yX1_size, Cond.instanceMethod yX1_size, Cond.selects RX1 yX1_size yX1_size, Cond.code yX1_size cX1_size 1 (some .int), Cond.methodLink RX2 63 yX0_moves, Cond.instanceMethod yX0_moves, Cond.selects RX0 yX0_moves yX0_moves, Cond.initialized RX0, Cond.code yX0_moves cX0_moves 1 (some .int), Cond.fieldLink RX0 26 "SlipLevels$Binder" "moves" "I", Cond.methodLink RX2 163 yX0_addRun, Cond.instanceMethod yX0_addRun, Cond.selects RX0 yX0_addRun yX0_addRun, Cond.code yX0_addRun cX0_addRun 4 none, Cond.fieldLink RX0 17 "SlipLevels$Binder" "runs" "[I"]
def wsX2_write_r3 : List Cond := [Cond.methodLink RX0 33 yX0_runsOf, Cond.instanceMethod yX0_runsOf, Cond.selects RX0 yX0_runsOf yX0_runsOf, Cond.code yX0_runsOf cX0_runsOf 2 (some .int), Cond.methodLink RX0 92 yX0_rowAt, Cond.instanceMethod yX0_rowAt, Cond.selects RX0 yX0_rowAt yX0_rowAt, Cond.code yX0_rowAt cX0_rowAt 3 (some (.object "SlipLevels$Slips")), Cond.fieldLink RX0 11 "SlipLevels$Binder" "rows" "[LSlipLevels$Slips;", Cond.methodLink RX0 41 yX1_size, Cond.methodLink RX0 95 yX1_copy, Cond.instanceMethod yX1_copy, Cond.selects RX1 yX1_copy yX1_copy, Cond.code yX1_copy cX1_copy 2 none, Cond.methodLink RX1 40 arraycopyName, Cond.native arraycopyName, Cond.static arraycopyName, Cond.initialized "java/lang/System", Cond.methodLink RX2 167 yX1_clear, Cond.instanceMethod yX1_clear, Cond.selects RX1 yX1_clear yX1_clear, Cond.code yX1_clear cX1_clear 1 none, Cond.methodLink RX1 18 yJ7_fill_53178, Cond.static yJ7_fill_53178]
def wsX2_write_r4 : List Cond := [Cond.initialized RJ7, Cond.code yJ7_fill_53178 cJ7_fill_53178 4 none, Cond.methodLink RX2 70 yX0_settle, Cond.instanceMethod yX0_settle, Cond.selects RX0 yX0_settle yX0_settle, Cond.code yX0_settle cX0_settle 2 none, Cond.methodLink RX0 65 yX0_mergeLevel, Cond.instanceMethod yX0_mergeLevel, Cond.selects RX0 yX0_mergeLevel yX0_mergeLevel, Cond.code yX0_mergeLevel cX0_mergeLevel 2 none, Cond.methodLink RX0 76 Lib.Math.min.name, Cond.fieldLink RX0 22 "SlipLevels$Binder" "merged" "LSlipLevels$Slips;", Cond.fieldLink RX0 30 "SlipLevels$Binder" "mergings" "I", Cond.methodLink RX0 69 yX0_nothingBehind, Cond.instanceMethod yX0_nothingBehind, Cond.selects RX0 yX0_nothingBehind yX0_nothingBehind, Cond.code yX0_nothingBehind cX0_nothingBehind 3 (some .boolean), Cond.methodLink RX0 72 yX0_gather, Cond.instanceMethod yX0_gather, Cond.selects RX0 yX0_gather yX0_gather, Cond.code yX0_gather cX0_gather 5 none, Cond.methodLink RX0 85 yX1_clear, Cond.methodLink RX0 54 yX0_firstWordIn, Cond.instanceMethod yX0_firstWordIn]
def wsX2_write_r5 : List Cond := [Cond.selects RX0 yX0_firstWordIn yX0_firstWordIn, Cond.code yX0_firstWordIn cX0_firstWordIn 5 (some .int), Cond.methodLink RX0 37 yX0_runAt, Cond.instanceMethod yX0_runAt, Cond.selects RX0 yX0_runAt yX0_runAt, Cond.code yX0_runAt cX0_runAt 4 (some (.object "SlipLevels$Slips")), Cond.methodLink RX0 51 yX1_wordAt, Cond.instanceMethod yX1_wordAt, Cond.selects RX1 yX1_wordAt yX1_wordAt, Cond.code yX1_wordAt cX1_wordAt 2 (some .int), Cond.methodLink RX0 88 yX1_put, Cond.methodLink RX0 81 yX0_addRun]
def wsX2_write : List Cond := .code yX2_write cX2_write 3 (some .boolean) :: ((wsX2_write_r1 ++ (wsX2_write_r2 ++ (wsX2_write_r3 ++ (wsX2_write_r4 ++ wsX2_write_r5)))) ++ wsX20 ++ wsX10 ++ wsX00 ++ (vx_atS RX2 41 "java/lang/IllegalArgumentException" ["java/lang/RuntimeException", "java/lang/Exception"]).filter goodWord ++ (vx_atS RX2 98 "java/lang/IndexOutOfBoundsException" ["java/lang/RuntimeException", "java/lang/Exception"]).filter goodWord)
def wsX2_strike_r1 : List Cond := [Cond.fieldLink RX2 10 "SlipLevels" "deskSlips" "LSlipLevels$Slips;", Cond.fieldLink RX2 26 "SlipLevels" "deskRoom" "I", Cond.methodLink RX2 33 yX2_needNumber, Cond.static yX2_needNumber, Cond.initialized RX2, Cond.code yX2_needNumber cX2_needNumber 1 none, Cond.classLink RX2 94 "java/lang/IndexOutOfBoundsException", Cond.initialized "java/lang/IndexOutOfBoundsException", Cond.methodLink RX2 44 yX1_put, Cond.instanceMethod yX1_put, Cond.selects RX1 yX1_put yX1_put, Cond.initialized RX1, Cond.code yX1_put cX1_put 4 none, Cond.fieldLink RX1 9 "SlipLevels$Slips" "words" "[I", Cond.fieldLink RX1 24 "SlipLevels$Slips" "size" "I", Cond.fieldLink RX1 28 "SlipLevels$Slips" "tombs" "I", Cond.fieldLink RX1 31 "SlipLevels$Slips" "least" "I", Cond.methodLink RX1 46 Lib.Math.min.name, Cond.static Lib.Math.min.name, Cond.initialized "java/lang/Math", Cond.code Lib.Math.min.name Lib.Math.min.code 2 (some .int), Cond.fieldLink RX1 34 "SlipLevels$Slips" "greatest" "I", Cond.methodLink RX1 52 Lib.Math.max.name, Cond.static Lib.Math.max.name]
def wsX2_strike_r2 : List Cond := [Cond.code Lib.Math.max.name Lib.Math.max.code 2 (some .int), Cond.fieldLink RX1 37 "SlipLevels$Slips" "sieve" "I", Cond.methodLink RX2 48 yX2_bindFrom, Cond.instanceMethod yX2_bindFrom, Cond.selects RX2 yX2_bindFrom yX2_bindFrom, Cond.code yX2_bindFrom cX2_bindFrom 3 (some .int), Cond.fieldLink RX2 19 "SlipLevels" "binder" "LSlipLevels$Binder;", Cond.methodLink RX2 160 yX1_size, Cond.instanceMethod yX1_size, Cond.selects RX1 yX1_size yX1_size, Cond.code yX1_size cX1_size 1 (some .int), Cond.methodLink RX2 63 yX0_moves, Cond.instanceMethod yX0_moves, Cond.selects RX0 yX0_moves yX0_moves, Cond.initialized RX0, Cond.code yX0_moves cX0_moves 1 (some .int), Cond.fieldLink RX0 26 "SlipLevels$Binder" "moves" "I", Cond.methodLink RX2 163 yX0_addRun, Cond.instanceMethod yX0_addRun, Cond.selects RX0 yX0_addRun yX0_addRun, Cond.code yX0_addRun cX0_addRun 4 none, Cond.fieldLink RX0 17 "SlipLevels$Binder" "runs" "[I", Cond.methodLink RX0 33 yX0_runsOf, Cond.instanceMethod yX0_runsOf]
def wsX2_strike_r3 : List Cond := [Cond.selects RX0 yX0_runsOf yX0_runsOf, Cond.code yX0_runsOf cX0_runsOf 2 (some .int), Cond.methodLink RX0 92 yX0_rowAt, Cond.instanceMethod yX0_rowAt, Cond.selects RX0 yX0_rowAt yX0_rowAt, Cond.code yX0_rowAt cX0_rowAt 3 (some (.object "SlipLevels$Slips")), Cond.fieldLink RX0 11 "SlipLevels$Binder" "rows" "[LSlipLevels$Slips;", Cond.methodLink RX0 41 yX1_size, Cond.methodLink RX0 95 yX1_copy, Cond.instanceMethod yX1_copy, Cond.selects RX1 yX1_copy yX1_copy, Cond.code yX1_copy cX1_copy 2 none, Cond.methodLink RX1 40 arraycopyName, Cond.native arraycopyName, Cond.static arraycopyName, Cond.initialized "java/lang/System", Cond.methodLink RX2 167 yX1_clear, Cond.instanceMethod yX1_clear, Cond.selects RX1 yX1_clear yX1_clear, Cond.code yX1_clear cX1_clear 1 none, Cond.methodLink RX1 18 yJ7_fill_53178, Cond.static yJ7_fill_53178, Cond.initialized RJ7, Cond.code yJ7_fill_53178 cJ7_fill_53178 4 none]
def wsX2_strike_r4 : List Cond := [Cond.methodLink RX2 70 yX0_settle, Cond.instanceMethod yX0_settle, Cond.selects RX0 yX0_settle yX0_settle, Cond.code yX0_settle cX0_settle 2 none, Cond.methodLink RX0 65 yX0_mergeLevel, Cond.instanceMethod yX0_mergeLevel, Cond.selects RX0 yX0_mergeLevel yX0_mergeLevel, Cond.code yX0_mergeLevel cX0_mergeLevel 2 none, Cond.methodLink RX0 76 Lib.Math.min.name, Cond.fieldLink RX0 22 "SlipLevels$Binder" "merged" "LSlipLevels$Slips;", Cond.fieldLink RX0 30 "SlipLevels$Binder" "mergings" "I", Cond.methodLink RX0 69 yX0_nothingBehind, Cond.instanceMethod yX0_nothingBehind, Cond.selects RX0 yX0_nothingBehind yX0_nothingBehind, Cond.code yX0_nothingBehind cX0_nothingBehind 3 (some .boolean), Cond.methodLink RX0 72 yX0_gather, Cond.instanceMethod yX0_gather, Cond.selects RX0 yX0_gather yX0_gather, Cond.code yX0_gather cX0_gather 5 none, Cond.methodLink RX0 85 yX1_clear, Cond.methodLink RX0 54 yX0_firstWordIn, Cond.instanceMethod yX0_firstWordIn, Cond.selects RX0 yX0_firstWordIn yX0_firstWordIn, Cond.code yX0_firstWordIn cX0_firstWordIn 5 (some .int)]
def wsX2_strike_r5 : List Cond := [Cond.methodLink RX0 37 yX0_runAt, Cond.instanceMethod yX0_runAt, Cond.selects RX0 yX0_runAt yX0_runAt, Cond.code yX0_runAt cX0_runAt 4 (some (.object "SlipLevels$Slips")), Cond.methodLink RX0 51 yX1_wordAt, Cond.instanceMethod yX1_wordAt, Cond.selects RX1 yX1_wordAt yX1_wordAt, Cond.code yX1_wordAt cX1_wordAt 2 (some .int), Cond.methodLink RX0 88 yX1_put, Cond.methodLink RX0 81 yX0_addRun]
def wsX2_strike : List Cond := .code yX2_strike cX2_strike 2 (some .boolean) :: ((wsX2_strike_r1 ++ (wsX2_strike_r2 ++ (wsX2_strike_r3 ++ (wsX2_strike_r4 ++ wsX2_strike_r5)))) ++ wsX20 ++ wsX10 ++ wsX00 ++ (vx_atS RX2 98 "java/lang/IndexOutOfBoundsException" ["java/lang/RuntimeException", "java/lang/Exception"]).filter goodWord)
def wsX2_bind_r1 : List Cond := [Cond.methodLink RX2 48 yX2_bindFrom, Cond.instanceMethod yX2_bindFrom, Cond.selects RX2 yX2_bindFrom yX2_bindFrom, Cond.initialized RX2, Cond.code yX2_bindFrom cX2_bindFrom 3 (some .int), Cond.fieldLink RX2 10 "SlipLevels" "deskSlips" "LSlipLevels$Slips;", Cond.fieldLink RX2 19 "SlipLevels" "binder" "LSlipLevels$Binder;", Cond.methodLink RX2 160 yX1_size, Cond.instanceMethod yX1_size, Cond.selects RX1 yX1_size yX1_size, Cond.initialized RX1, Cond.code yX1_size cX1_size 1 (some .int), Cond.fieldLink RX1 24 "SlipLevels$Slips" "size" "I", Cond.methodLink RX2 63 yX0_moves, Cond.instanceMethod yX0_moves, Cond.selects RX0 yX0_moves yX0_moves, Cond.initialized RX0, Cond.code yX0_moves cX0_moves 1 (some .int), Cond.fieldLink RX0 26 "SlipLevels$Binder" "moves" "I", Cond.methodLink RX2 163 yX0_addRun, Cond.instanceMethod yX0_addRun, Cond.selects RX0 yX0_addRun yX0_addRun, Cond.code yX0_addRun cX0_addRun 4 none, Cond.fieldLink RX0 17 "SlipLevels$Binder" "runs" "[I"]
def wsX2_bind_r2 : List Cond := [Cond.methodLink RX0 33 yX0_runsOf, Cond.instanceMethod yX0_runsOf, Cond.selects RX0 yX0_runsOf yX0_runsOf, Cond.code yX0_runsOf cX0_runsOf 2 (some .int), Cond.methodLink RX0 92 yX0_rowAt, Cond.instanceMethod yX0_rowAt, Cond.selects RX0 yX0_rowAt yX0_rowAt, Cond.code yX0_rowAt cX0_rowAt 3 (some (.object "SlipLevels$Slips")), Cond.fieldLink RX0 11 "SlipLevels$Binder" "rows" "[LSlipLevels$Slips;", Cond.methodLink RX0 41 yX1_size, Cond.methodLink RX0 95 yX1_copy, Cond.instanceMethod yX1_copy, Cond.selects RX1 yX1_copy yX1_copy, Cond.code yX1_copy cX1_copy 2 none, Cond.fieldLink RX1 9 "SlipLevels$Slips" "words" "[I", Cond.methodLink RX1 40 arraycopyName, Cond.native arraycopyName, Cond.static arraycopyName, Cond.initialized "java/lang/System", Cond.fieldLink RX1 28 "SlipLevels$Slips" "tombs" "I", Cond.fieldLink RX1 31 "SlipLevels$Slips" "least" "I", Cond.fieldLink RX1 34 "SlipLevels$Slips" "greatest" "I", Cond.fieldLink RX1 37 "SlipLevels$Slips" "sieve" "I", Cond.methodLink RX2 167 yX1_clear]
def wsX2_bind_r3 : List Cond := [Cond.instanceMethod yX1_clear, Cond.selects RX1 yX1_clear yX1_clear, Cond.code yX1_clear cX1_clear 1 none, Cond.methodLink RX1 18 yJ7_fill_53178, Cond.static yJ7_fill_53178, Cond.initialized RJ7, Cond.code yJ7_fill_53178 cJ7_fill_53178 4 none, Cond.methodLink RX2 70 yX0_settle, Cond.instanceMethod yX0_settle, Cond.selects RX0 yX0_settle yX0_settle, Cond.code yX0_settle cX0_settle 2 none, Cond.methodLink RX0 65 yX0_mergeLevel, Cond.instanceMethod yX0_mergeLevel, Cond.selects RX0 yX0_mergeLevel yX0_mergeLevel, Cond.code yX0_mergeLevel cX0_mergeLevel 2 none, Cond.methodLink RX0 76 Lib.Math.min.name, Cond.static Lib.Math.min.name, Cond.initialized "java/lang/Math", Cond.code Lib.Math.min.name Lib.Math.min.code 2 (some .int), Cond.fieldLink RX0 22 "SlipLevels$Binder" "merged" "LSlipLevels$Slips;", Cond.fieldLink RX0 30 "SlipLevels$Binder" "mergings" "I", Cond.methodLink RX0 69 yX0_nothingBehind, Cond.instanceMethod yX0_nothingBehind, Cond.selects RX0 yX0_nothingBehind yX0_nothingBehind]
def wsX2_bind_r4 : List Cond := [Cond.code yX0_nothingBehind cX0_nothingBehind 3 (some .boolean), Cond.methodLink RX0 72 yX0_gather, Cond.instanceMethod yX0_gather, Cond.selects RX0 yX0_gather yX0_gather, Cond.code yX0_gather cX0_gather 5 none, Cond.methodLink RX0 85 yX1_clear, Cond.methodLink RX0 54 yX0_firstWordIn, Cond.instanceMethod yX0_firstWordIn, Cond.selects RX0 yX0_firstWordIn yX0_firstWordIn, Cond.code yX0_firstWordIn cX0_firstWordIn 5 (some .int), Cond.methodLink RX0 37 yX0_runAt, Cond.instanceMethod yX0_runAt, Cond.selects RX0 yX0_runAt yX0_runAt, Cond.code yX0_runAt cX0_runAt 4 (some (.object "SlipLevels$Slips")), Cond.methodLink RX0 51 yX1_wordAt, Cond.instanceMethod yX1_wordAt, Cond.selects RX1 yX1_wordAt yX1_wordAt, Cond.code yX1_wordAt cX1_wordAt 2 (some .int), Cond.methodLink RX0 88 yX1_put, Cond.instanceMethod yX1_put, Cond.selects RX1 yX1_put yX1_put, Cond.code yX1_put cX1_put 4 none, Cond.methodLink RX1 46 Lib.Math.min.name, Cond.methodLink RX1 52 Lib.Math.max.name]
def wsX2_bind_r5 : List Cond := [Cond.static Lib.Math.max.name, Cond.code Lib.Math.max.name Lib.Math.max.code 2 (some .int), Cond.methodLink RX0 81 yX0_addRun]
def wsX2_bind : List Cond := .code yX2_bind cX2_bind 1 (some .int) :: ((wsX2_bind_r1 ++ (wsX2_bind_r2 ++ (wsX2_bind_r3 ++ (wsX2_bind_r4 ++ wsX2_bind_r5)))) ++ wsX20 ++ wsX10 ++ wsX00)
def wsX2_needLevel : List Cond := .code yX2_needLevel cX2_needLevel 1 none :: ([.classLink RX2 94 "java/lang/IndexOutOfBoundsException", .initialized "java/lang/IndexOutOfBoundsException"] ++ (vx_atS RX2 98 "java/lang/IndexOutOfBoundsException" ["java/lang/RuntimeException", "java/lang/Exception"]).filter goodWord)
def wsX2_merge_r1 : List Cond := [Cond.classLink RX2 58 "java/lang/IllegalStateException", Cond.initialized "java/lang/IllegalStateException", Cond.fieldLink RX2 19 "SlipLevels" "binder" "LSlipLevels$Binder;", Cond.methodLink RX2 52 yX2_needLevel, Cond.static yX2_needLevel, Cond.initialized RX2, Cond.code yX2_needLevel cX2_needLevel 1 none, Cond.classLink RX2 94 "java/lang/IndexOutOfBoundsException", Cond.initialized "java/lang/IndexOutOfBoundsException", Cond.methodLink RX2 55 yX0_runsOf, Cond.instanceMethod yX0_runsOf, Cond.selects RX0 yX0_runsOf yX0_runsOf, Cond.initialized RX0, Cond.code yX0_runsOf cX0_runsOf 2 (some .int), Cond.fieldLink RX0 17 "SlipLevels$Binder" "runs" "[I", Cond.methodLink RX2 63 yX0_moves, Cond.instanceMethod yX0_moves, Cond.selects RX0 yX0_moves yX0_moves, Cond.code yX0_moves cX0_moves 1 (some .int), Cond.fieldLink RX0 26 "SlipLevels$Binder" "moves" "I", Cond.methodLink RX2 67 yX0_mergeLevel, Cond.instanceMethod yX0_mergeLevel, Cond.selects RX0 yX0_mergeLevel yX0_mergeLevel, Cond.code yX0_mergeLevel cX0_mergeLevel 2 none]
def wsX2_merge_r2 : List Cond := [Cond.methodLink RX0 76 Lib.Math.min.name, Cond.static Lib.Math.min.name, Cond.initialized "java/lang/Math", Cond.code Lib.Math.min.name Lib.Math.min.code 2 (some .int), Cond.fieldLink RX0 22 "SlipLevels$Binder" "merged" "LSlipLevels$Slips;", Cond.fieldLink RX0 30 "SlipLevels$Binder" "mergings" "I", Cond.methodLink RX0 69 yX0_nothingBehind, Cond.instanceMethod yX0_nothingBehind, Cond.selects RX0 yX0_nothingBehind yX0_nothingBehind, Cond.code yX0_nothingBehind cX0_nothingBehind 3 (some .boolean), Cond.methodLink RX0 33 yX0_runsOf, Cond.methodLink RX0 72 yX0_gather, Cond.instanceMethod yX0_gather, Cond.selects RX0 yX0_gather yX0_gather, Cond.code yX0_gather cX0_gather 5 none, Cond.methodLink RX0 85 yX1_clear, Cond.instanceMethod yX1_clear, Cond.selects RX1 yX1_clear yX1_clear, Cond.initialized RX1, Cond.code yX1_clear cX1_clear 1 none, Cond.fieldLink RX1 9 "SlipLevels$Slips" "words" "[I", Cond.fieldLink RX1 24 "SlipLevels$Slips" "size" "I", Cond.fieldLink RX1 28 "SlipLevels$Slips" "tombs" "I", Cond.fieldLink RX1 31 "SlipLevels$Slips" "least" "I"]
def wsX2_merge_r3 : List Cond := [Cond.fieldLink RX1 34 "SlipLevels$Slips" "greatest" "I", Cond.fieldLink RX1 37 "SlipLevels$Slips" "sieve" "I", Cond.methodLink RX1 18 yJ7_fill_53178, Cond.static yJ7_fill_53178, Cond.initialized RJ7, Cond.code yJ7_fill_53178 cJ7_fill_53178 4 none, Cond.methodLink RX0 54 yX0_firstWordIn, Cond.instanceMethod yX0_firstWordIn, Cond.selects RX0 yX0_firstWordIn yX0_firstWordIn, Cond.code yX0_firstWordIn cX0_firstWordIn 5 (some .int), Cond.methodLink RX0 37 yX0_runAt, Cond.instanceMethod yX0_runAt, Cond.selects RX0 yX0_runAt yX0_runAt, Cond.code yX0_runAt cX0_runAt 4 (some (.object "SlipLevels$Slips")), Cond.fieldLink RX0 11 "SlipLevels$Binder" "rows" "[LSlipLevels$Slips;", Cond.methodLink RX0 51 yX1_wordAt, Cond.instanceMethod yX1_wordAt, Cond.selects RX1 yX1_wordAt yX1_wordAt, Cond.code yX1_wordAt cX1_wordAt 2 (some .int), Cond.methodLink RX0 88 yX1_put, Cond.instanceMethod yX1_put, Cond.selects RX1 yX1_put yX1_put, Cond.code yX1_put cX1_put 4 none, Cond.methodLink RX1 46 Lib.Math.min.name]
def wsX2_merge_r4 : List Cond := [Cond.methodLink RX1 52 Lib.Math.max.name, Cond.static Lib.Math.max.name, Cond.code Lib.Math.max.name Lib.Math.max.code 2 (some .int), Cond.methodLink RX0 81 yX0_addRun, Cond.instanceMethod yX0_addRun, Cond.selects RX0 yX0_addRun yX0_addRun, Cond.code yX0_addRun cX0_addRun 4 none, Cond.methodLink RX0 92 yX0_rowAt, Cond.instanceMethod yX0_rowAt, Cond.selects RX0 yX0_rowAt yX0_rowAt, Cond.code yX0_rowAt cX0_rowAt 3 (some (.object "SlipLevels$Slips")), Cond.methodLink RX0 41 yX1_size, Cond.instanceMethod yX1_size, Cond.selects RX1 yX1_size yX1_size, Cond.code yX1_size cX1_size 1 (some .int), Cond.methodLink RX0 95 yX1_copy, Cond.instanceMethod yX1_copy, Cond.selects RX1 yX1_copy yX1_copy, Cond.code yX1_copy cX1_copy 2 none, Cond.methodLink RX1 40 arraycopyName, Cond.native arraycopyName, Cond.static arraycopyName, Cond.initialized "java/lang/System", Cond.methodLink RX2 70 yX0_settle]
def wsX2_merge_r5 : List Cond := [Cond.instanceMethod yX0_settle, Cond.selects RX0 yX0_settle yX0_settle, Cond.code yX0_settle cX0_settle 2 none, Cond.methodLink RX0 65 yX0_mergeLevel]
def wsX2_merge : List Cond := .code yX2_merge cX2_merge 3 (some .int) :: ((wsX2_merge_r1 ++ (wsX2_merge_r2 ++ (wsX2_merge_r3 ++ (wsX2_merge_r4 ++ wsX2_merge_r5)))) ++ wsX20 ++ wsX00 ++ wsX10 ++ (vx_atS RX2 62 "java/lang/IllegalStateException" ["java/lang/RuntimeException", "java/lang/Exception"]).filter goodWord ++ (vx_atS RX2 98 "java/lang/IndexOutOfBoundsException" ["java/lang/RuntimeException", "java/lang/Exception"]).filter goodWord)
def wsX2_setRoom_r1 : List Cond := [Cond.classLink RX2 37 "java/lang/IllegalArgumentException", Cond.initialized "java/lang/IllegalArgumentException", Cond.fieldLink RX2 26 "SlipLevels" "deskRoom" "I", Cond.methodLink RX2 48 yX2_bindFrom, Cond.instanceMethod yX2_bindFrom, Cond.selects RX2 yX2_bindFrom yX2_bindFrom, Cond.initialized RX2, Cond.code yX2_bindFrom cX2_bindFrom 3 (some .int), Cond.fieldLink RX2 10 "SlipLevels" "deskSlips" "LSlipLevels$Slips;", Cond.fieldLink RX2 19 "SlipLevels" "binder" "LSlipLevels$Binder;", Cond.methodLink RX2 160 yX1_size, Cond.instanceMethod yX1_size, Cond.selects RX1 yX1_size yX1_size, Cond.initialized RX1, Cond.code yX1_size cX1_size 1 (some .int), Cond.fieldLink RX1 24 "SlipLevels$Slips" "size" "I", Cond.methodLink RX2 63 yX0_moves, Cond.instanceMethod yX0_moves, Cond.selects RX0 yX0_moves yX0_moves, Cond.initialized RX0, Cond.code yX0_moves cX0_moves 1 (some .int), Cond.fieldLink RX0 26 "SlipLevels$Binder" "moves" "I", Cond.methodLink RX2 163 yX0_addRun, Cond.instanceMethod yX0_addRun]
def wsX2_setRoom_r2 : List Cond := [Cond.selects RX0 yX0_addRun yX0_addRun, Cond.code yX0_addRun cX0_addRun 4 none, Cond.fieldLink RX0 17 "SlipLevels$Binder" "runs" "[I", Cond.methodLink RX0 33 yX0_runsOf, Cond.instanceMethod yX0_runsOf, Cond.selects RX0 yX0_runsOf yX0_runsOf, Cond.code yX0_runsOf cX0_runsOf 2 (some .int), Cond.methodLink RX0 92 yX0_rowAt, Cond.instanceMethod yX0_rowAt, Cond.selects RX0 yX0_rowAt yX0_rowAt, Cond.code yX0_rowAt cX0_rowAt 3 (some (.object "SlipLevels$Slips")), Cond.fieldLink RX0 11 "SlipLevels$Binder" "rows" "[LSlipLevels$Slips;", Cond.methodLink RX0 41 yX1_size, Cond.methodLink RX0 95 yX1_copy, Cond.instanceMethod yX1_copy, Cond.selects RX1 yX1_copy yX1_copy, Cond.code yX1_copy cX1_copy 2 none, Cond.fieldLink RX1 9 "SlipLevels$Slips" "words" "[I", Cond.methodLink RX1 40 arraycopyName, Cond.native arraycopyName, Cond.static arraycopyName, Cond.initialized "java/lang/System", Cond.fieldLink RX1 28 "SlipLevels$Slips" "tombs" "I", Cond.fieldLink RX1 31 "SlipLevels$Slips" "least" "I"]
def wsX2_setRoom_r3 : List Cond := [Cond.fieldLink RX1 34 "SlipLevels$Slips" "greatest" "I", Cond.fieldLink RX1 37 "SlipLevels$Slips" "sieve" "I", Cond.methodLink RX2 167 yX1_clear, Cond.instanceMethod yX1_clear, Cond.selects RX1 yX1_clear yX1_clear, Cond.code yX1_clear cX1_clear 1 none, Cond.methodLink RX1 18 yJ7_fill_53178, Cond.static yJ7_fill_53178, Cond.initialized RJ7, Cond.code yJ7_fill_53178 cJ7_fill_53178 4 none, Cond.methodLink RX2 70 yX0_settle, Cond.instanceMethod yX0_settle, Cond.selects RX0 yX0_settle yX0_settle, Cond.code yX0_settle cX0_settle 2 none, Cond.methodLink RX0 65 yX0_mergeLevel, Cond.instanceMethod yX0_mergeLevel, Cond.selects RX0 yX0_mergeLevel yX0_mergeLevel, Cond.code yX0_mergeLevel cX0_mergeLevel 2 none, Cond.methodLink RX0 76 Lib.Math.min.name, Cond.static Lib.Math.min.name, Cond.initialized "java/lang/Math", Cond.code Lib.Math.min.name Lib.Math.min.code 2 (some .int), Cond.fieldLink RX0 22 "SlipLevels$Binder" "merged" "LSlipLevels$Slips;", Cond.fieldLink RX0 30 "SlipLevels$Binder" "mergings" "I"]
def wsX2_setRoom_r4 : List Cond := [Cond.methodLink RX0 69 yX0_nothingBehind, Cond.instanceMethod yX0_nothingBehind, Cond.selects RX0 yX0_nothingBehind yX0_nothingBehind, Cond.code yX0_nothingBehind cX0_nothingBehind 3 (some .boolean), Cond.methodLink RX0 72 yX0_gather, Cond.instanceMethod yX0_gather, Cond.selects RX0 yX0_gather yX0_gather, Cond.code yX0_gather cX0_gather 5 none, Cond.methodLink RX0 85 yX1_clear, Cond.methodLink RX0 54 yX0_firstWordIn, Cond.instanceMethod yX0_firstWordIn, Cond.selects RX0 yX0_firstWordIn yX0_firstWordIn, Cond.code yX0_firstWordIn cX0_firstWordIn 5 (some .int), Cond.methodLink RX0 37 yX0_runAt, Cond.instanceMethod yX0_runAt, Cond.selects RX0 yX0_runAt yX0_runAt, Cond.code yX0_runAt cX0_runAt 4 (some (.object "SlipLevels$Slips")), Cond.methodLink RX0 51 yX1_wordAt, Cond.instanceMethod yX1_wordAt, Cond.selects RX1 yX1_wordAt yX1_wordAt, Cond.code yX1_wordAt cX1_wordAt 2 (some .int), Cond.methodLink RX0 88 yX1_put, Cond.instanceMethod yX1_put, Cond.selects RX1 yX1_put yX1_put]
def wsX2_setRoom_r5 : List Cond := [Cond.code yX1_put cX1_put 4 none, Cond.methodLink RX1 46 Lib.Math.min.name, Cond.methodLink RX1 52 Lib.Math.max.name, Cond.static Lib.Math.max.name, Cond.code Lib.Math.max.name Lib.Math.max.code 2 (some .int), Cond.methodLink RX0 81 yX0_addRun]
def wsX2_setRoom : List Cond := .code yX2_setRoom cX2_setRoom 3 (some .int) :: ((wsX2_setRoom_r1 ++ (wsX2_setRoom_r2 ++ (wsX2_setRoom_r3 ++ (wsX2_setRoom_r4 ++ wsX2_setRoom_r5)))) ++ wsX20 ++ wsX10 ++ wsX00 ++ (vx_atS RX2 41 "java/lang/IllegalArgumentException" ["java/lang/RuntimeException", "java/lang/Exception"]).filter goodWord)
def wsX2_detoursIn_r1 : List Cond := [Cond.fieldLink RX2 10 "SlipLevels" "deskSlips" "LSlipLevels$Slips;", Cond.methodLink RX2 176 yX1_has, Cond.instanceMethod yX1_has, Cond.selects RX1 yX1_has yX1_has, Cond.initialized RX1, Cond.code yX1_has cX1_has 2 (some .boolean), Cond.methodLink RX1 55 yX1_wordAt, Cond.instanceMethod yX1_wordAt, Cond.selects RX1 yX1_wordAt yX1_wordAt, Cond.code yX1_wordAt cX1_wordAt 2 (some .int), Cond.fieldLink RX1 9 "SlipLevels$Slips" "words" "[I", Cond.methodLink RX2 180 yX0_detoursTo, Cond.instanceMethod yX0_detoursTo, Cond.selects RX0 yX0_detoursTo yX0_detoursTo, Cond.initialized RX0, Cond.code yX0_detoursTo cX0_detoursTo 6 (some .int), Cond.methodLink RX0 33 yX0_runsOf, Cond.instanceMethod yX0_runsOf, Cond.selects RX0 yX0_runsOf yX0_runsOf, Cond.code yX0_runsOf cX0_runsOf 2 (some .int), Cond.fieldLink RX0 17 "SlipLevels$Binder" "runs" "[I", Cond.methodLink RX0 37 yX0_runAt, Cond.instanceMethod yX0_runAt, Cond.selects RX0 yX0_runAt yX0_runAt]
def wsX2_detoursIn_r2 : List Cond := [Cond.code yX0_runAt cX0_runAt 4 (some (.object "SlipLevels$Slips")), Cond.fieldLink RX0 11 "SlipLevels$Binder" "rows" "[LSlipLevels$Slips;", Cond.methodLink RX0 62 yX1_opensFor, Cond.instanceMethod yX1_opensFor, Cond.selects RX1 yX1_opensFor yX1_opensFor, Cond.code yX1_opensFor cX1_opensFor 2 (some .boolean), Cond.fieldLink RX1 31 "SlipLevels$Slips" "least" "I", Cond.fieldLink RX1 34 "SlipLevels$Slips" "greatest" "I", Cond.fieldLink RX1 37 "SlipLevels$Slips" "sieve" "I", Cond.methodLink RX0 58 yX1_has]
def wsX2_detoursIn : List Cond := .code yX2_detoursIn cX2_detoursIn 3 (some .int) :: ((wsX2_detoursIn_r1 ++ wsX2_detoursIn_r2) ++ wsX20 ++ wsX10 ++ wsX00)
def wsX2_wordOf : List Cond := .code yX2_wordOf cX2_wordOf 3 (some .int) :: ([.fieldLink RX2 10 "SlipLevels" "deskSlips" "LSlipLevels$Slips;", .fieldLink RX2 19 "SlipLevels" "binder" "LSlipLevels$Binder;", .methodLink RX2 170 yX1_wordAt, .instanceMethod yX1_wordAt, .selects RX1 yX1_wordAt yX1_wordAt, .initialized RX1, .code yX1_wordAt cX1_wordAt 2 (some .int), .fieldLink RX1 9 "SlipLevels$Slips" "words" "[I", .methodLink RX2 173 yX0_firstWord, .instanceMethod yX0_firstWord, .selects RX0 yX0_firstWord yX0_firstWord, .initialized RX0, .code yX0_firstWord cX0_firstWord 4 (some .int), .methodLink RX0 54 yX0_firstWordIn, .instanceMethod yX0_firstWordIn, .selects RX0 yX0_firstWordIn yX0_firstWordIn, .code yX0_firstWordIn cX0_firstWordIn 5 (some .int), .methodLink RX0 37 yX0_runAt, .instanceMethod yX0_runAt, .selects RX0 yX0_runAt yX0_runAt, .code yX0_runAt cX0_runAt 4 (some (.object "SlipLevels$Slips")), .fieldLink RX0 17 "SlipLevels$Binder" "runs" "[I", .fieldLink RX0 11 "SlipLevels$Binder" "rows" "[LSlipLevels$Slips;", .methodLink RX0 51 yX1_wordAt] ++ wsX20 ++ wsX10 ++ wsX00)
def wsX2_read_r1 : List Cond := [Cond.fieldLink RX2 30 "SlipLevels" "detoursRead" "I", Cond.fieldLink RX2 19 "SlipLevels" "binder" "LSlipLevels$Binder;", Cond.methodLink RX2 33 yX2_needNumber, Cond.static yX2_needNumber, Cond.initialized RX2, Cond.code yX2_needNumber cX2_needNumber 1 none, Cond.classLink RX2 94 "java/lang/IndexOutOfBoundsException", Cond.initialized "java/lang/IndexOutOfBoundsException", Cond.methodLink RX2 75 yX2_detoursIn, Cond.instanceMethod yX2_detoursIn, Cond.selects RX2 yX2_detoursIn yX2_detoursIn, Cond.code yX2_detoursIn cX2_detoursIn 3 (some .int), Cond.fieldLink RX2 10 "SlipLevels" "deskSlips" "LSlipLevels$Slips;", Cond.methodLink RX2 176 yX1_has, Cond.instanceMethod yX1_has, Cond.selects RX1 yX1_has yX1_has, Cond.initialized RX1, Cond.code yX1_has cX1_has 2 (some .boolean), Cond.methodLink RX1 55 yX1_wordAt, Cond.instanceMethod yX1_wordAt, Cond.selects RX1 yX1_wordAt yX1_wordAt, Cond.code yX1_wordAt cX1_wordAt 2 (some .int), Cond.fieldLink RX1 9 "SlipLevels$Slips" "words" "[I", Cond.methodLink RX2 180 yX0_detoursTo]
def wsX2_read_r2 : List Cond := [Cond.instanceMethod yX0_detoursTo, Cond.selects RX0 yX0_detoursTo yX0_detoursTo, Cond.initialized RX0, Cond.code yX0_detoursTo cX0_detoursTo 6 (some .int), Cond.methodLink RX0 33 yX0_runsOf, Cond.instanceMethod yX0_runsOf, Cond.selects RX0 yX0_runsOf yX0_runsOf, Cond.code yX0_runsOf cX0_runsOf 2 (some .int), Cond.fieldLink RX0 17 "SlipLevels$Binder" "runs" "[I", Cond.methodLink RX0 37 yX0_runAt, Cond.instanceMethod yX0_runAt, Cond.selects RX0 yX0_runAt yX0_runAt, Cond.code yX0_runAt cX0_runAt 4 (some (.object "SlipLevels$Slips")), Cond.fieldLink RX0 11 "SlipLevels$Binder" "rows" "[LSlipLevels$Slips;", Cond.methodLink RX0 62 yX1_opensFor, Cond.instanceMethod yX1_opensFor, Cond.selects RX1 yX1_opensFor yX1_opensFor, Cond.code yX1_opensFor cX1_opensFor 2 (some .boolean), Cond.fieldLink RX1 31 "SlipLevels$Slips" "least" "I", Cond.fieldLink RX1 34 "SlipLevels$Slips" "greatest" "I", Cond.fieldLink RX1 37 "SlipLevels$Slips" "sieve" "I", Cond.methodLink RX0 58 yX1_has, Cond.methodLink RX2 79 yX2_wordOf, Cond.instanceMethod yX2_wordOf]
def wsX2_read_r3 : List Cond := [Cond.selects RX2 yX2_wordOf yX2_wordOf, Cond.code yX2_wordOf cX2_wordOf 3 (some .int), Cond.methodLink RX2 170 yX1_wordAt, Cond.methodLink RX2 173 yX0_firstWord, Cond.instanceMethod yX0_firstWord, Cond.selects RX0 yX0_firstWord yX0_firstWord, Cond.code yX0_firstWord cX0_firstWord 4 (some .int), Cond.methodLink RX0 54 yX0_firstWordIn, Cond.instanceMethod yX0_firstWordIn, Cond.selects RX0 yX0_firstWordIn yX0_firstWordIn, Cond.code yX0_firstWordIn cX0_firstWordIn 5 (some .int), Cond.methodLink RX0 51 yX1_wordAt]
def wsX2_read : List Cond := .code yX2_read cX2_read 2 (some .int) :: ((wsX2_read_r1 ++ (wsX2_read_r2 ++ wsX2_read_r3)) ++ wsX20 ++ wsX10 ++ wsX00 ++ (vx_atS RX2 98 "java/lang/IndexOutOfBoundsException" ["java/lang/RuntimeException", "java/lang/Exception"]).filter goodWord)
def wsX2_detours_r1 : List Cond := [Cond.fieldLink RX2 19 "SlipLevels" "binder" "LSlipLevels$Binder;", Cond.methodLink RX2 33 yX2_needNumber, Cond.static yX2_needNumber, Cond.initialized RX2, Cond.code yX2_needNumber cX2_needNumber 1 none, Cond.classLink RX2 94 "java/lang/IndexOutOfBoundsException", Cond.initialized "java/lang/IndexOutOfBoundsException", Cond.methodLink RX2 75 yX2_detoursIn, Cond.instanceMethod yX2_detoursIn, Cond.selects RX2 yX2_detoursIn yX2_detoursIn, Cond.code yX2_detoursIn cX2_detoursIn 3 (some .int), Cond.fieldLink RX2 10 "SlipLevels" "deskSlips" "LSlipLevels$Slips;", Cond.methodLink RX2 176 yX1_has, Cond.instanceMethod yX1_has, Cond.selects RX1 yX1_has yX1_has, Cond.initialized RX1, Cond.code yX1_has cX1_has 2 (some .boolean), Cond.methodLink RX1 55 yX1_wordAt, Cond.instanceMethod yX1_wordAt, Cond.selects RX1 yX1_wordAt yX1_wordAt, Cond.code yX1_wordAt cX1_wordAt 2 (some .int), Cond.fieldLink RX1 9 "SlipLevels$Slips" "words" "[I", Cond.methodLink RX2 180 yX0_detoursTo, Cond.instanceMethod yX0_detoursTo]
def wsX2_detours_r2 : List Cond := [Cond.selects RX0 yX0_detoursTo yX0_detoursTo, Cond.initialized RX0, Cond.code yX0_detoursTo cX0_detoursTo 6 (some .int), Cond.methodLink RX0 33 yX0_runsOf, Cond.instanceMethod yX0_runsOf, Cond.selects RX0 yX0_runsOf yX0_runsOf, Cond.code yX0_runsOf cX0_runsOf 2 (some .int), Cond.fieldLink RX0 17 "SlipLevels$Binder" "runs" "[I", Cond.methodLink RX0 37 yX0_runAt, Cond.instanceMethod yX0_runAt, Cond.selects RX0 yX0_runAt yX0_runAt, Cond.code yX0_runAt cX0_runAt 4 (some (.object "SlipLevels$Slips")), Cond.fieldLink RX0 11 "SlipLevels$Binder" "rows" "[LSlipLevels$Slips;", Cond.methodLink RX0 62 yX1_opensFor, Cond.instanceMethod yX1_opensFor, Cond.selects RX1 yX1_opensFor yX1_opensFor, Cond.code yX1_opensFor cX1_opensFor 2 (some .boolean), Cond.fieldLink RX1 31 "SlipLevels$Slips" "least" "I", Cond.fieldLink RX1 34 "SlipLevels$Slips" "greatest" "I", Cond.fieldLink RX1 37 "SlipLevels$Slips" "sieve" "I", Cond.methodLink RX0 58 yX1_has]
def wsX2_detours : List Cond := .code yX2_detours cX2_detours 2 (some .int) :: ((wsX2_detours_r1 ++ wsX2_detours_r2) ++ wsX20 ++ wsX10 ++ wsX00 ++ (vx_atS RX2 98 "java/lang/IndexOutOfBoundsException" ["java/lang/RuntimeException", "java/lang/Exception"]).filter goodWord)
def wsX2_next_r1 : List Cond := [Cond.methodLink RX2 33 yX2_needNumber, Cond.static yX2_needNumber, Cond.initialized RX2, Cond.code yX2_needNumber cX2_needNumber 1 none, Cond.classLink RX2 94 "java/lang/IndexOutOfBoundsException", Cond.initialized "java/lang/IndexOutOfBoundsException", Cond.methodLink RX2 79 yX2_wordOf, Cond.instanceMethod yX2_wordOf, Cond.selects RX2 yX2_wordOf yX2_wordOf, Cond.code yX2_wordOf cX2_wordOf 3 (some .int), Cond.fieldLink RX2 10 "SlipLevels" "deskSlips" "LSlipLevels$Slips;", Cond.fieldLink RX2 19 "SlipLevels" "binder" "LSlipLevels$Binder;", Cond.methodLink RX2 170 yX1_wordAt, Cond.instanceMethod yX1_wordAt, Cond.selects RX1 yX1_wordAt yX1_wordAt, Cond.initialized RX1, Cond.code yX1_wordAt cX1_wordAt 2 (some .int), Cond.fieldLink RX1 9 "SlipLevels$Slips" "words" "[I", Cond.methodLink RX2 173 yX0_firstWord, Cond.instanceMethod yX0_firstWord, Cond.selects RX0 yX0_firstWord yX0_firstWord, Cond.initialized RX0, Cond.code yX0_firstWord cX0_firstWord 4 (some .int), Cond.methodLink RX0 54 yX0_firstWordIn]
def wsX2_next_r2 : List Cond := [Cond.instanceMethod yX0_firstWordIn, Cond.selects RX0 yX0_firstWordIn yX0_firstWordIn, Cond.code yX0_firstWordIn cX0_firstWordIn 5 (some .int), Cond.methodLink RX0 37 yX0_runAt, Cond.instanceMethod yX0_runAt, Cond.selects RX0 yX0_runAt yX0_runAt, Cond.code yX0_runAt cX0_runAt 4 (some (.object "SlipLevels$Slips")), Cond.fieldLink RX0 17 "SlipLevels$Binder" "runs" "[I", Cond.fieldLink RX0 11 "SlipLevels$Binder" "rows" "[LSlipLevels$Slips;", Cond.methodLink RX0 51 yX1_wordAt]
def wsX2_next : List Cond := .code yX2_next cX2_next 3 (some .int) :: ((wsX2_next_r1 ++ wsX2_next_r2) ++ wsX20 ++ wsX10 ++ wsX00 ++ (vx_atS RX2 98 "java/lang/IndexOutOfBoundsException" ["java/lang/RuntimeException", "java/lang/Exception"]).filter goodWord)
def wsX2_sum_r1 : List Cond := [Cond.classLink RX2 37 "java/lang/IllegalArgumentException", Cond.initialized "java/lang/IllegalArgumentException", Cond.methodLink RX2 84 Lib.Math.max.name, Cond.static Lib.Math.max.name, Cond.initialized "java/lang/Math", Cond.code Lib.Math.max.name Lib.Math.max.code 2 (some .int), Cond.methodLink RX2 33 yX2_needNumber, Cond.static yX2_needNumber, Cond.initialized RX2, Cond.code yX2_needNumber cX2_needNumber 1 none, Cond.classLink RX2 94 "java/lang/IndexOutOfBoundsException", Cond.initialized "java/lang/IndexOutOfBoundsException", Cond.methodLink RX2 79 yX2_wordOf, Cond.instanceMethod yX2_wordOf, Cond.selects RX2 yX2_wordOf yX2_wordOf, Cond.code yX2_wordOf cX2_wordOf 3 (some .int), Cond.fieldLink RX2 10 "SlipLevels" "deskSlips" "LSlipLevels$Slips;", Cond.fieldLink RX2 19 "SlipLevels" "binder" "LSlipLevels$Binder;", Cond.methodLink RX2 170 yX1_wordAt, Cond.instanceMethod yX1_wordAt, Cond.selects RX1 yX1_wordAt yX1_wordAt, Cond.initialized RX1, Cond.code yX1_wordAt cX1_wordAt 2 (some .int), Cond.fieldLink RX1 9 "SlipLevels$Slips" "words" "[I"]
def wsX2_sum_r2 : List Cond := [Cond.methodLink RX2 173 yX0_firstWord, Cond.instanceMethod yX0_firstWord, Cond.selects RX0 yX0_firstWord yX0_firstWord, Cond.initialized RX0, Cond.code yX0_firstWord cX0_firstWord 4 (some .int), Cond.methodLink RX0 54 yX0_firstWordIn, Cond.instanceMethod yX0_firstWordIn, Cond.selects RX0 yX0_firstWordIn yX0_firstWordIn, Cond.code yX0_firstWordIn cX0_firstWordIn 5 (some .int), Cond.methodLink RX0 37 yX0_runAt, Cond.instanceMethod yX0_runAt, Cond.selects RX0 yX0_runAt yX0_runAt, Cond.code yX0_runAt cX0_runAt 4 (some (.object "SlipLevels$Slips")), Cond.fieldLink RX0 17 "SlipLevels$Binder" "runs" "[I", Cond.fieldLink RX0 11 "SlipLevels$Binder" "rows" "[LSlipLevels$Slips;", Cond.methodLink RX0 51 yX1_wordAt]
def wsX2_sum : List Cond := .code yX2_sum cX2_sum 5 (some .int) :: ((wsX2_sum_r1 ++ wsX2_sum_r2) ++ wsX20 ++ wsX10 ++ wsX00 ++ (vx_atS RX2 41 "java/lang/IllegalArgumentException" ["java/lang/RuntimeException", "java/lang/Exception"]).filter goodWord ++ (vx_atS RX2 98 "java/lang/IndexOutOfBoundsException" ["java/lang/RuntimeException", "java/lang/Exception"]).filter goodWord)
def wsX2_standingIn_r1 : List Cond := [Cond.fieldLink RX2 10 "SlipLevels" "deskSlips" "LSlipLevels$Slips;", Cond.fieldLink RX2 19 "SlipLevels" "binder" "LSlipLevels$Binder;", Cond.methodLink RX2 176 yX1_has, Cond.instanceMethod yX1_has, Cond.selects RX1 yX1_has yX1_has, Cond.initialized RX1, Cond.code yX1_has cX1_has 2 (some .boolean), Cond.methodLink RX1 55 yX1_wordAt, Cond.instanceMethod yX1_wordAt, Cond.selects RX1 yX1_wordAt yX1_wordAt, Cond.code yX1_wordAt cX1_wordAt 2 (some .int), Cond.fieldLink RX1 9 "SlipLevels$Slips" "words" "[I", Cond.methodLink RX2 183 yX0_isFirst, Cond.instanceMethod yX0_isFirst, Cond.selects RX0 yX0_isFirst yX0_isFirst, Cond.initialized RX0, Cond.code yX0_isFirst cX0_isFirst 6 (some .boolean), Cond.methodLink RX0 54 yX0_firstWordIn, Cond.instanceMethod yX0_firstWordIn, Cond.selects RX0 yX0_firstWordIn yX0_firstWordIn, Cond.code yX0_firstWordIn cX0_firstWordIn 5 (some .int), Cond.methodLink RX0 37 yX0_runAt, Cond.instanceMethod yX0_runAt, Cond.selects RX0 yX0_runAt yX0_runAt]
def wsX2_standingIn_r2 : List Cond := [Cond.code yX0_runAt cX0_runAt 4 (some (.object "SlipLevels$Slips")), Cond.fieldLink RX0 17 "SlipLevels$Binder" "runs" "[I", Cond.fieldLink RX0 11 "SlipLevels$Binder" "rows" "[LSlipLevels$Slips;", Cond.methodLink RX0 51 yX1_wordAt, Cond.methodLink RX0 58 yX1_has]
def wsX2_standingIn : List Cond := .code yX2_standingIn cX2_standingIn 5 (some .int) :: ((wsX2_standingIn_r1 ++ wsX2_standingIn_r2) ++ wsX20 ++ wsX10 ++ wsX00)
def wsX2_run_r1 : List Cond := [Cond.classLink RX2 94 "java/lang/IndexOutOfBoundsException", Cond.initialized "java/lang/IndexOutOfBoundsException", Cond.fieldLink RX2 19 "SlipLevels" "binder" "LSlipLevels$Binder;", Cond.methodLink RX2 52 yX2_needLevel, Cond.static yX2_needLevel, Cond.initialized RX2, Cond.code yX2_needLevel cX2_needLevel 1 none, Cond.methodLink RX2 90 yX0_runAt, Cond.instanceMethod yX0_runAt, Cond.selects RX0 yX0_runAt yX0_runAt, Cond.initialized RX0, Cond.code yX0_runAt cX0_runAt 4 (some (.object "SlipLevels$Slips")), Cond.fieldLink RX0 17 "SlipLevels$Binder" "runs" "[I", Cond.fieldLink RX0 11 "SlipLevels$Binder" "rows" "[LSlipLevels$Slips;", Cond.methodLink RX2 101 yX2_standingIn, Cond.instanceMethod yX2_standingIn, Cond.selects RX2 yX2_standingIn yX2_standingIn, Cond.code yX2_standingIn cX2_standingIn 5 (some .int), Cond.fieldLink RX2 10 "SlipLevels" "deskSlips" "LSlipLevels$Slips;", Cond.methodLink RX2 176 yX1_has, Cond.instanceMethod yX1_has, Cond.selects RX1 yX1_has yX1_has, Cond.initialized RX1, Cond.code yX1_has cX1_has 2 (some .boolean)]
def wsX2_run_r2 : List Cond := [Cond.methodLink RX1 55 yX1_wordAt, Cond.instanceMethod yX1_wordAt, Cond.selects RX1 yX1_wordAt yX1_wordAt, Cond.code yX1_wordAt cX1_wordAt 2 (some .int), Cond.fieldLink RX1 9 "SlipLevels$Slips" "words" "[I", Cond.methodLink RX2 183 yX0_isFirst, Cond.instanceMethod yX0_isFirst, Cond.selects RX0 yX0_isFirst yX0_isFirst, Cond.code yX0_isFirst cX0_isFirst 6 (some .boolean), Cond.methodLink RX0 54 yX0_firstWordIn, Cond.instanceMethod yX0_firstWordIn, Cond.selects RX0 yX0_firstWordIn yX0_firstWordIn, Cond.code yX0_firstWordIn cX0_firstWordIn 5 (some .int), Cond.methodLink RX0 37 yX0_runAt, Cond.methodLink RX0 51 yX1_wordAt, Cond.methodLink RX0 58 yX1_has, Cond.methodLink RX2 104 yX1_fact, Cond.instanceMethod yX1_fact, Cond.selects RX1 yX1_fact yX1_fact, Cond.code yX1_fact cX1_fact 2 (some .int), Cond.fieldLink RX1 24 "SlipLevels$Slips" "size" "I", Cond.fieldLink RX1 31 "SlipLevels$Slips" "least" "I", Cond.fieldLink RX1 34 "SlipLevels$Slips" "greatest" "I", Cond.fieldLink RX1 37 "SlipLevels$Slips" "sieve" "I"]
def wsX2_run_r3 : List Cond := [Cond.fieldLink RX1 28 "SlipLevels$Slips" "tombs" "I"]
def wsX2_run : List Cond := .code yX2_run cX2_run 5 (some .int) :: ((wsX2_run_r1 ++ (wsX2_run_r2 ++ wsX2_run_r3)) ++ wsX20 ++ wsX00 ++ wsX10 ++ (vx_atS RX2 98 "java/lang/IndexOutOfBoundsException" ["java/lang/RuntimeException", "java/lang/Exception"]).filter goodWord)
def wsX2_slipAt : List Cond := .code yX2_slipAt cX2_slipAt 3 (some .int) :: ([.classLink RX2 94 "java/lang/IndexOutOfBoundsException", .initialized "java/lang/IndexOutOfBoundsException", .methodLink RX2 152 yX1_numberAt, .instanceMethod yX1_numberAt, .selects RX1 yX1_numberAt yX1_numberAt, .initialized RX1, .code yX1_numberAt cX1_numberAt 4 (some .int), .fieldLink RX1 24 "SlipLevels$Slips" "size" "I", .methodLink RX1 59 yX1_has, .instanceMethod yX1_has, .selects RX1 yX1_has yX1_has, .code yX1_has cX1_has 2 (some .boolean), .methodLink RX1 55 yX1_wordAt, .instanceMethod yX1_wordAt, .selects RX1 yX1_wordAt yX1_wordAt, .code yX1_wordAt cX1_wordAt 2 (some .int), .fieldLink RX1 9 "SlipLevels$Slips" "words" "[I", .methodLink RX2 157 yX1_told, .instanceMethod yX1_told, .selects RX1 yX1_told yX1_told, .code yX1_told cX1_told 3 (some .int)] ++ wsX10 ++ (vx_atS RX2 98 "java/lang/IndexOutOfBoundsException" ["java/lang/RuntimeException", "java/lang/Exception"]).filter goodWord)
def wsX2_slip_r1 : List Cond := [Cond.classLink RX2 94 "java/lang/IndexOutOfBoundsException", Cond.initialized "java/lang/IndexOutOfBoundsException", Cond.fieldLink RX2 19 "SlipLevels" "binder" "LSlipLevels$Binder;", Cond.methodLink RX2 52 yX2_needLevel, Cond.static yX2_needLevel, Cond.initialized RX2, Cond.code yX2_needLevel cX2_needLevel 1 none, Cond.methodLink RX2 90 yX0_runAt, Cond.instanceMethod yX0_runAt, Cond.selects RX0 yX0_runAt yX0_runAt, Cond.initialized RX0, Cond.code yX0_runAt cX0_runAt 4 (some (.object "SlipLevels$Slips")), Cond.fieldLink RX0 17 "SlipLevels$Binder" "runs" "[I", Cond.fieldLink RX0 11 "SlipLevels$Binder" "rows" "[LSlipLevels$Slips;", Cond.methodLink RX2 107 yX2_slipAt, Cond.static yX2_slipAt, Cond.code yX2_slipAt cX2_slipAt 3 (some .int), Cond.methodLink RX2 152 yX1_numberAt, Cond.instanceMethod yX1_numberAt, Cond.selects RX1 yX1_numberAt yX1_numberAt, Cond.initialized RX1, Cond.code yX1_numberAt cX1_numberAt 4 (some .int), Cond.fieldLink RX1 24 "SlipLevels$Slips" "size" "I", Cond.methodLink RX1 59 yX1_has]
def wsX2_slip_r2 : List Cond := [Cond.instanceMethod yX1_has, Cond.selects RX1 yX1_has yX1_has, Cond.code yX1_has cX1_has 2 (some .boolean), Cond.methodLink RX1 55 yX1_wordAt, Cond.instanceMethod yX1_wordAt, Cond.selects RX1 yX1_wordAt yX1_wordAt, Cond.code yX1_wordAt cX1_wordAt 2 (some .int), Cond.fieldLink RX1 9 "SlipLevels$Slips" "words" "[I", Cond.methodLink RX2 157 yX1_told, Cond.instanceMethod yX1_told, Cond.selects RX1 yX1_told yX1_told, Cond.code yX1_told cX1_told 3 (some .int)]
def wsX2_slip : List Cond := .code yX2_slip cX2_slip 5 (some .int) :: ((wsX2_slip_r1 ++ wsX2_slip_r2) ++ wsX20 ++ wsX00 ++ wsX10 ++ (vx_atS RX2 98 "java/lang/IndexOutOfBoundsException" ["java/lang/RuntimeException", "java/lang/Exception"]).filter goodWord)
def wsX2_desk_r1 : List Cond := [Cond.fieldLink RX2 10 "SlipLevels" "deskSlips" "LSlipLevels$Slips;", Cond.methodLink RX2 107 yX2_slipAt, Cond.static yX2_slipAt, Cond.initialized RX2, Cond.code yX2_slipAt cX2_slipAt 3 (some .int), Cond.classLink RX2 94 "java/lang/IndexOutOfBoundsException", Cond.initialized "java/lang/IndexOutOfBoundsException", Cond.methodLink RX2 152 yX1_numberAt, Cond.instanceMethod yX1_numberAt, Cond.selects RX1 yX1_numberAt yX1_numberAt, Cond.initialized RX1, Cond.code yX1_numberAt cX1_numberAt 4 (some .int), Cond.fieldLink RX1 24 "SlipLevels$Slips" "size" "I", Cond.methodLink RX1 59 yX1_has, Cond.instanceMethod yX1_has, Cond.selects RX1 yX1_has yX1_has, Cond.code yX1_has cX1_has 2 (some .boolean), Cond.methodLink RX1 55 yX1_wordAt, Cond.instanceMethod yX1_wordAt, Cond.selects RX1 yX1_wordAt yX1_wordAt, Cond.code yX1_wordAt cX1_wordAt 2 (some .int), Cond.fieldLink RX1 9 "SlipLevels$Slips" "words" "[I", Cond.methodLink RX2 157 yX1_told, Cond.instanceMethod yX1_told]
def wsX2_desk_r2 : List Cond := [Cond.selects RX1 yX1_told yX1_told, Cond.code yX1_told cX1_told 3 (some .int)]
def wsX2_desk : List Cond := .code yX2_desk cX2_desk 2 (some .int) :: ((wsX2_desk_r1 ++ wsX2_desk_r2) ++ wsX20 ++ wsX10 ++ (vx_atS RX2 98 "java/lang/IndexOutOfBoundsException" ["java/lang/RuntimeException", "java/lang/Exception"]).filter goodWord)
def wsX2_level_r1 : List Cond := [Cond.classLink RX2 94 "java/lang/IndexOutOfBoundsException", Cond.initialized "java/lang/IndexOutOfBoundsException", Cond.fieldLink RX2 19 "SlipLevels" "binder" "LSlipLevels$Binder;", Cond.methodLink RX2 52 yX2_needLevel, Cond.static yX2_needLevel, Cond.initialized RX2, Cond.code yX2_needLevel cX2_needLevel 1 none, Cond.methodLink RX2 55 yX0_runsOf, Cond.instanceMethod yX0_runsOf, Cond.selects RX0 yX0_runsOf yX0_runsOf, Cond.initialized RX0, Cond.code yX0_runsOf cX0_runsOf 2 (some .int), Cond.fieldLink RX0 17 "SlipLevels$Binder" "runs" "[I", Cond.methodLink RX2 113 yX0_slipsOf, Cond.instanceMethod yX0_slipsOf, Cond.selects RX0 yX0_slipsOf yX0_slipsOf, Cond.code yX0_slipsOf cX0_slipsOf 5 (some .int), Cond.methodLink RX0 33 yX0_runsOf, Cond.methodLink RX0 37 yX0_runAt, Cond.instanceMethod yX0_runAt, Cond.selects RX0 yX0_runAt yX0_runAt, Cond.code yX0_runAt cX0_runAt 4 (some (.object "SlipLevels$Slips")), Cond.fieldLink RX0 11 "SlipLevels$Binder" "rows" "[LSlipLevels$Slips;", Cond.methodLink RX0 41 yX1_size]
def wsX2_level_r2 : List Cond := [Cond.instanceMethod yX1_size, Cond.selects RX1 yX1_size yX1_size, Cond.initialized RX1, Cond.code yX1_size cX1_size 1 (some .int), Cond.fieldLink RX1 24 "SlipLevels$Slips" "size" "I", Cond.methodLink RX2 116 yX0_tombsOf, Cond.instanceMethod yX0_tombsOf, Cond.selects RX0 yX0_tombsOf yX0_tombsOf, Cond.code yX0_tombsOf cX0_tombsOf 5 (some .int), Cond.methodLink RX0 45 yX1_tombs, Cond.instanceMethod yX1_tombs, Cond.selects RX1 yX1_tombs yX1_tombs, Cond.code yX1_tombs cX1_tombs 1 (some .int), Cond.fieldLink RX1 28 "SlipLevels$Slips" "tombs" "I"]
def wsX2_level : List Cond := .code yX2_level cX2_level 3 (some .int) :: ((wsX2_level_r1 ++ wsX2_level_r2) ++ wsX20 ++ wsX00 ++ wsX10 ++ (vx_atS RX2 98 "java/lang/IndexOutOfBoundsException" ["java/lang/RuntimeException", "java/lang/Exception"]).filter goodWord)
def wsX2_wordsStanding_r1 : List Cond := [Cond.methodLink RX2 79 yX2_wordOf, Cond.instanceMethod yX2_wordOf, Cond.selects RX2 yX2_wordOf yX2_wordOf, Cond.initialized RX2, Cond.code yX2_wordOf cX2_wordOf 3 (some .int), Cond.fieldLink RX2 10 "SlipLevels" "deskSlips" "LSlipLevels$Slips;", Cond.fieldLink RX2 19 "SlipLevels" "binder" "LSlipLevels$Binder;", Cond.methodLink RX2 170 yX1_wordAt, Cond.instanceMethod yX1_wordAt, Cond.selects RX1 yX1_wordAt yX1_wordAt, Cond.initialized RX1, Cond.code yX1_wordAt cX1_wordAt 2 (some .int), Cond.fieldLink RX1 9 "SlipLevels$Slips" "words" "[I", Cond.methodLink RX2 173 yX0_firstWord, Cond.instanceMethod yX0_firstWord, Cond.selects RX0 yX0_firstWord yX0_firstWord, Cond.initialized RX0, Cond.code yX0_firstWord cX0_firstWord 4 (some .int), Cond.methodLink RX0 54 yX0_firstWordIn, Cond.instanceMethod yX0_firstWordIn, Cond.selects RX0 yX0_firstWordIn yX0_firstWordIn, Cond.code yX0_firstWordIn cX0_firstWordIn 5 (some .int), Cond.methodLink RX0 37 yX0_runAt, Cond.instanceMethod yX0_runAt]
def wsX2_wordsStanding_r2 : List Cond := [Cond.selects RX0 yX0_runAt yX0_runAt, Cond.code yX0_runAt cX0_runAt 4 (some (.object "SlipLevels$Slips")), Cond.fieldLink RX0 17 "SlipLevels$Binder" "runs" "[I", Cond.fieldLink RX0 11 "SlipLevels$Binder" "rows" "[LSlipLevels$Slips;", Cond.methodLink RX0 51 yX1_wordAt]
def wsX2_wordsStanding : List Cond := .code yX2_wordsStanding cX2_wordsStanding 3 (some .int) :: ((wsX2_wordsStanding_r1 ++ wsX2_wordsStanding_r2) ++ wsX20 ++ wsX10 ++ wsX00)
def wsX2_tally_r1 : List Cond := [Cond.fieldLink RX2 10 "SlipLevels" "deskSlips" "LSlipLevels$Slips;", Cond.fieldLink RX2 26 "SlipLevels" "deskRoom" "I", Cond.fieldLink RX2 19 "SlipLevels" "binder" "LSlipLevels$Binder;", Cond.fieldLink RX2 30 "SlipLevels" "detoursRead" "I", Cond.methodLink RX2 160 yX1_size, Cond.instanceMethod yX1_size, Cond.selects RX1 yX1_size yX1_size, Cond.initialized RX1, Cond.code yX1_size cX1_size 1 (some .int), Cond.fieldLink RX1 24 "SlipLevels$Slips" "size" "I", Cond.methodLink RX2 127 yX0_slips, Cond.instanceMethod yX0_slips, Cond.selects RX0 yX0_slips yX0_slips, Cond.initialized RX0, Cond.code yX0_slips cX0_slips 3 (some .int), Cond.methodLink RX0 48 yX0_slipsOf, Cond.instanceMethod yX0_slipsOf, Cond.selects RX0 yX0_slipsOf yX0_slipsOf, Cond.code yX0_slipsOf cX0_slipsOf 5 (some .int), Cond.methodLink RX0 33 yX0_runsOf, Cond.instanceMethod yX0_runsOf, Cond.selects RX0 yX0_runsOf yX0_runsOf, Cond.code yX0_runsOf cX0_runsOf 2 (some .int), Cond.fieldLink RX0 17 "SlipLevels$Binder" "runs" "[I"]
def wsX2_tally_r2 : List Cond := [Cond.methodLink RX0 37 yX0_runAt, Cond.instanceMethod yX0_runAt, Cond.selects RX0 yX0_runAt yX0_runAt, Cond.code yX0_runAt cX0_runAt 4 (some (.object "SlipLevels$Slips")), Cond.fieldLink RX0 11 "SlipLevels$Binder" "rows" "[LSlipLevels$Slips;", Cond.methodLink RX0 41 yX1_size, Cond.methodLink RX2 187 yX2_wordsStanding, Cond.instanceMethod yX2_wordsStanding, Cond.selects RX2 yX2_wordsStanding yX2_wordsStanding, Cond.initialized RX2, Cond.code yX2_wordsStanding cX2_wordsStanding 3 (some .int), Cond.methodLink RX2 79 yX2_wordOf, Cond.instanceMethod yX2_wordOf, Cond.selects RX2 yX2_wordOf yX2_wordOf, Cond.code yX2_wordOf cX2_wordOf 3 (some .int), Cond.methodLink RX2 170 yX1_wordAt, Cond.instanceMethod yX1_wordAt, Cond.selects RX1 yX1_wordAt yX1_wordAt, Cond.code yX1_wordAt cX1_wordAt 2 (some .int), Cond.fieldLink RX1 9 "SlipLevels$Slips" "words" "[I", Cond.methodLink RX2 173 yX0_firstWord, Cond.instanceMethod yX0_firstWord, Cond.selects RX0 yX0_firstWord yX0_firstWord, Cond.code yX0_firstWord cX0_firstWord 4 (some .int)]
def wsX2_tally_r3 : List Cond := [Cond.methodLink RX0 54 yX0_firstWordIn, Cond.instanceMethod yX0_firstWordIn, Cond.selects RX0 yX0_firstWordIn yX0_firstWordIn, Cond.code yX0_firstWordIn cX0_firstWordIn 5 (some .int), Cond.methodLink RX0 51 yX1_wordAt, Cond.methodLink RX2 63 yX0_moves, Cond.instanceMethod yX0_moves, Cond.selects RX0 yX0_moves yX0_moves, Cond.code yX0_moves cX0_moves 1 (some .int), Cond.fieldLink RX0 26 "SlipLevels$Binder" "moves" "I", Cond.methodLink RX2 190 yX0_mergings, Cond.instanceMethod yX0_mergings, Cond.selects RX0 yX0_mergings yX0_mergings, Cond.code yX0_mergings cX0_mergings 1 (some .int), Cond.fieldLink RX0 30 "SlipLevels$Binder" "mergings" "I"]
def wsX2_tally : List Cond := .code yX2_tally cX2_tally 2 (some .int) :: ((wsX2_tally_r1 ++ (wsX2_tally_r2 ++ wsX2_tally_r3)) ++ wsX20 ++ wsX10 ++ wsX00)
def wsX2_count_r1 : List Cond := [Cond.classLink RX2 94 "java/lang/IndexOutOfBoundsException", Cond.initialized "java/lang/IndexOutOfBoundsException", Cond.methodLink RX2 121 yX2_tally, Cond.instanceMethod yX2_tally, Cond.selects RX2 yX2_tally yX2_tally, Cond.initialized RX2, Cond.code yX2_tally cX2_tally 2 (some .int), Cond.fieldLink RX2 10 "SlipLevels" "deskSlips" "LSlipLevels$Slips;", Cond.fieldLink RX2 26 "SlipLevels" "deskRoom" "I", Cond.fieldLink RX2 19 "SlipLevels" "binder" "LSlipLevels$Binder;", Cond.fieldLink RX2 30 "SlipLevels" "detoursRead" "I", Cond.methodLink RX2 160 yX1_size, Cond.instanceMethod yX1_size, Cond.selects RX1 yX1_size yX1_size, Cond.initialized RX1, Cond.code yX1_size cX1_size 1 (some .int), Cond.fieldLink RX1 24 "SlipLevels$Slips" "size" "I", Cond.methodLink RX2 127 yX0_slips, Cond.instanceMethod yX0_slips, Cond.selects RX0 yX0_slips yX0_slips, Cond.initialized RX0, Cond.code yX0_slips cX0_slips 3 (some .int), Cond.methodLink RX0 48 yX0_slipsOf, Cond.instanceMethod yX0_slipsOf]
def wsX2_count_r2 : List Cond := [Cond.selects RX0 yX0_slipsOf yX0_slipsOf, Cond.code yX0_slipsOf cX0_slipsOf 5 (some .int), Cond.methodLink RX0 33 yX0_runsOf, Cond.instanceMethod yX0_runsOf, Cond.selects RX0 yX0_runsOf yX0_runsOf, Cond.code yX0_runsOf cX0_runsOf 2 (some .int), Cond.fieldLink RX0 17 "SlipLevels$Binder" "runs" "[I", Cond.methodLink RX0 37 yX0_runAt, Cond.instanceMethod yX0_runAt, Cond.selects RX0 yX0_runAt yX0_runAt, Cond.code yX0_runAt cX0_runAt 4 (some (.object "SlipLevels$Slips")), Cond.fieldLink RX0 11 "SlipLevels$Binder" "rows" "[LSlipLevels$Slips;", Cond.methodLink RX0 41 yX1_size, Cond.methodLink RX2 187 yX2_wordsStanding, Cond.instanceMethod yX2_wordsStanding, Cond.selects RX2 yX2_wordsStanding yX2_wordsStanding, Cond.code yX2_wordsStanding cX2_wordsStanding 3 (some .int), Cond.methodLink RX2 79 yX2_wordOf, Cond.instanceMethod yX2_wordOf, Cond.selects RX2 yX2_wordOf yX2_wordOf, Cond.code yX2_wordOf cX2_wordOf 3 (some .int), Cond.methodLink RX2 170 yX1_wordAt, Cond.instanceMethod yX1_wordAt, Cond.selects RX1 yX1_wordAt yX1_wordAt]
def wsX2_count_r3 : List Cond := [Cond.code yX1_wordAt cX1_wordAt 2 (some .int), Cond.fieldLink RX1 9 "SlipLevels$Slips" "words" "[I", Cond.methodLink RX2 173 yX0_firstWord, Cond.instanceMethod yX0_firstWord, Cond.selects RX0 yX0_firstWord yX0_firstWord, Cond.code yX0_firstWord cX0_firstWord 4 (some .int), Cond.methodLink RX0 54 yX0_firstWordIn, Cond.instanceMethod yX0_firstWordIn, Cond.selects RX0 yX0_firstWordIn yX0_firstWordIn, Cond.code yX0_firstWordIn cX0_firstWordIn 5 (some .int), Cond.methodLink RX0 51 yX1_wordAt, Cond.methodLink RX2 63 yX0_moves, Cond.instanceMethod yX0_moves, Cond.selects RX0 yX0_moves yX0_moves, Cond.code yX0_moves cX0_moves 1 (some .int), Cond.fieldLink RX0 26 "SlipLevels$Binder" "moves" "I", Cond.methodLink RX2 190 yX0_mergings, Cond.instanceMethod yX0_mergings, Cond.selects RX0 yX0_mergings yX0_mergings, Cond.code yX0_mergings cX0_mergings 1 (some .int), Cond.fieldLink RX0 30 "SlipLevels$Binder" "mergings" "I"]
def wsX2_count : List Cond := .code yX2_count cX2_count 2 (some .int) :: ((wsX2_count_r1 ++ (wsX2_count_r2 ++ wsX2_count_r3)) ++ wsX20 ++ wsX10 ++ wsX00 ++ (vx_atS RX2 98 "java/lang/IndexOutOfBoundsException" ["java/lang/RuntimeException", "java/lang/Exception"]).filter goodWord)
def wsX2_tryMerging_r1 : List Cond := [Cond.fieldLink RX2 23 "SlipLevels" "trial" "LSlipLevels$Binder;", Cond.fieldLink RX2 19 "SlipLevels" "binder" "LSlipLevels$Binder;", Cond.methodLink RX2 193 yX0_copyRuns, Cond.instanceMethod yX0_copyRuns, Cond.selects RX0 yX0_copyRuns yX0_copyRuns, Cond.initialized RX0, Cond.code yX0_copyRuns cX0_copyRuns 5 none, Cond.fieldLink RX0 17 "SlipLevels$Binder" "runs" "[I", Cond.methodLink RX0 92 yX0_rowAt, Cond.instanceMethod yX0_rowAt, Cond.selects RX0 yX0_rowAt yX0_rowAt, Cond.code yX0_rowAt cX0_rowAt 3 (some (.object "SlipLevels$Slips")), Cond.fieldLink RX0 11 "SlipLevels$Binder" "rows" "[LSlipLevels$Slips;", Cond.methodLink RX0 95 yX1_copy, Cond.instanceMethod yX1_copy, Cond.selects RX1 yX1_copy yX1_copy, Cond.initialized RX1, Cond.code yX1_copy cX1_copy 2 none, Cond.fieldLink RX1 9 "SlipLevels$Slips" "words" "[I", Cond.methodLink RX1 40 arraycopyName, Cond.native arraycopyName, Cond.static arraycopyName, Cond.initialized "java/lang/System", Cond.fieldLink RX1 24 "SlipLevels$Slips" "size" "I"]
def wsX2_tryMerging_r2 : List Cond := [Cond.fieldLink RX1 28 "SlipLevels$Slips" "tombs" "I", Cond.fieldLink RX1 31 "SlipLevels$Slips" "least" "I", Cond.fieldLink RX1 34 "SlipLevels$Slips" "greatest" "I", Cond.fieldLink RX1 37 "SlipLevels$Slips" "sieve" "I", Cond.methodLink RX2 67 yX0_mergeLevel, Cond.instanceMethod yX0_mergeLevel, Cond.selects RX0 yX0_mergeLevel yX0_mergeLevel, Cond.code yX0_mergeLevel cX0_mergeLevel 2 none, Cond.methodLink RX0 76 Lib.Math.min.name, Cond.static Lib.Math.min.name, Cond.initialized "java/lang/Math", Cond.code Lib.Math.min.name Lib.Math.min.code 2 (some .int), Cond.fieldLink RX0 22 "SlipLevels$Binder" "merged" "LSlipLevels$Slips;", Cond.fieldLink RX0 30 "SlipLevels$Binder" "mergings" "I", Cond.methodLink RX0 69 yX0_nothingBehind, Cond.instanceMethod yX0_nothingBehind, Cond.selects RX0 yX0_nothingBehind yX0_nothingBehind, Cond.code yX0_nothingBehind cX0_nothingBehind 3 (some .boolean), Cond.methodLink RX0 33 yX0_runsOf, Cond.instanceMethod yX0_runsOf, Cond.selects RX0 yX0_runsOf yX0_runsOf, Cond.code yX0_runsOf cX0_runsOf 2 (some .int), Cond.methodLink RX0 72 yX0_gather, Cond.instanceMethod yX0_gather]
def wsX2_tryMerging_r3 : List Cond := [Cond.selects RX0 yX0_gather yX0_gather, Cond.code yX0_gather cX0_gather 5 none, Cond.methodLink RX0 85 yX1_clear, Cond.instanceMethod yX1_clear, Cond.selects RX1 yX1_clear yX1_clear, Cond.code yX1_clear cX1_clear 1 none, Cond.methodLink RX1 18 yJ7_fill_53178, Cond.static yJ7_fill_53178, Cond.initialized RJ7, Cond.code yJ7_fill_53178 cJ7_fill_53178 4 none, Cond.methodLink RX0 54 yX0_firstWordIn, Cond.instanceMethod yX0_firstWordIn, Cond.selects RX0 yX0_firstWordIn yX0_firstWordIn, Cond.code yX0_firstWordIn cX0_firstWordIn 5 (some .int), Cond.methodLink RX0 37 yX0_runAt, Cond.instanceMethod yX0_runAt, Cond.selects RX0 yX0_runAt yX0_runAt, Cond.code yX0_runAt cX0_runAt 4 (some (.object "SlipLevels$Slips")), Cond.methodLink RX0 51 yX1_wordAt, Cond.instanceMethod yX1_wordAt, Cond.selects RX1 yX1_wordAt yX1_wordAt, Cond.code yX1_wordAt cX1_wordAt 2 (some .int), Cond.methodLink RX0 88 yX1_put, Cond.instanceMethod yX1_put]
def wsX2_tryMerging_r4 : List Cond := [Cond.selects RX1 yX1_put yX1_put, Cond.code yX1_put cX1_put 4 none, Cond.methodLink RX1 46 Lib.Math.min.name, Cond.methodLink RX1 52 Lib.Math.max.name, Cond.static Lib.Math.max.name, Cond.code Lib.Math.max.name Lib.Math.max.code 2 (some .int), Cond.methodLink RX0 81 yX0_addRun, Cond.instanceMethod yX0_addRun, Cond.selects RX0 yX0_addRun yX0_addRun, Cond.code yX0_addRun cX0_addRun 4 none, Cond.fieldLink RX0 26 "SlipLevels$Binder" "moves" "I", Cond.methodLink RX0 41 yX1_size, Cond.instanceMethod yX1_size, Cond.selects RX1 yX1_size yX1_size, Cond.code yX1_size cX1_size 1 (some .int), Cond.methodLink RX2 70 yX0_settle, Cond.instanceMethod yX0_settle, Cond.selects RX0 yX0_settle yX0_settle, Cond.code yX0_settle cX0_settle 2 none, Cond.methodLink RX0 65 yX0_mergeLevel]
def wsX2_tryMerging : List Cond := .code yX2_tryMerging cX2_tryMerging 2 none :: ((wsX2_tryMerging_r1 ++ (wsX2_tryMerging_r2 ++ (wsX2_tryMerging_r3 ++ wsX2_tryMerging_r4))) ++ wsX20 ++ wsX00 ++ wsX10)
def wsX2_spares_r1 : List Cond := [Cond.fieldLink RX2 19 "SlipLevels" "binder" "LSlipLevels$Binder;", Cond.fieldLink RX2 23 "SlipLevels" "trial" "LSlipLevels$Binder;", Cond.methodLink RX2 52 yX2_needLevel, Cond.static yX2_needLevel, Cond.initialized RX2, Cond.code yX2_needLevel cX2_needLevel 1 none, Cond.classLink RX2 94 "java/lang/IndexOutOfBoundsException", Cond.initialized "java/lang/IndexOutOfBoundsException", Cond.methodLink RX2 55 yX0_runsOf, Cond.instanceMethod yX0_runsOf, Cond.selects RX0 yX0_runsOf yX0_runsOf, Cond.initialized RX0, Cond.code yX0_runsOf cX0_runsOf 2 (some .int), Cond.fieldLink RX0 17 "SlipLevels$Binder" "runs" "[I", Cond.methodLink RX2 124 yX2_tryMerging, Cond.instanceMethod yX2_tryMerging, Cond.selects RX2 yX2_tryMerging yX2_tryMerging, Cond.code yX2_tryMerging cX2_tryMerging 2 none, Cond.methodLink RX2 193 yX0_copyRuns, Cond.instanceMethod yX0_copyRuns, Cond.selects RX0 yX0_copyRuns yX0_copyRuns, Cond.code yX0_copyRuns cX0_copyRuns 5 none, Cond.methodLink RX0 92 yX0_rowAt, Cond.instanceMethod yX0_rowAt]
def wsX2_spares_r2 : List Cond := [Cond.selects RX0 yX0_rowAt yX0_rowAt, Cond.code yX0_rowAt cX0_rowAt 3 (some (.object "SlipLevels$Slips")), Cond.fieldLink RX0 11 "SlipLevels$Binder" "rows" "[LSlipLevels$Slips;", Cond.methodLink RX0 95 yX1_copy, Cond.instanceMethod yX1_copy, Cond.selects RX1 yX1_copy yX1_copy, Cond.initialized RX1, Cond.code yX1_copy cX1_copy 2 none, Cond.fieldLink RX1 9 "SlipLevels$Slips" "words" "[I", Cond.methodLink RX1 40 arraycopyName, Cond.native arraycopyName, Cond.static arraycopyName, Cond.initialized "java/lang/System", Cond.fieldLink RX1 24 "SlipLevels$Slips" "size" "I", Cond.fieldLink RX1 28 "SlipLevels$Slips" "tombs" "I", Cond.fieldLink RX1 31 "SlipLevels$Slips" "least" "I", Cond.fieldLink RX1 34 "SlipLevels$Slips" "greatest" "I", Cond.fieldLink RX1 37 "SlipLevels$Slips" "sieve" "I", Cond.methodLink RX2 67 yX0_mergeLevel, Cond.instanceMethod yX0_mergeLevel, Cond.selects RX0 yX0_mergeLevel yX0_mergeLevel, Cond.code yX0_mergeLevel cX0_mergeLevel 2 none, Cond.methodLink RX0 76 Lib.Math.min.name, Cond.static Lib.Math.min.name]
def wsX2_spares_r3 : List Cond := [Cond.initialized "java/lang/Math", Cond.code Lib.Math.min.name Lib.Math.min.code 2 (some .int), Cond.fieldLink RX0 22 "SlipLevels$Binder" "merged" "LSlipLevels$Slips;", Cond.fieldLink RX0 30 "SlipLevels$Binder" "mergings" "I", Cond.methodLink RX0 69 yX0_nothingBehind, Cond.instanceMethod yX0_nothingBehind, Cond.selects RX0 yX0_nothingBehind yX0_nothingBehind, Cond.code yX0_nothingBehind cX0_nothingBehind 3 (some .boolean), Cond.methodLink RX0 33 yX0_runsOf, Cond.methodLink RX0 72 yX0_gather, Cond.instanceMethod yX0_gather, Cond.selects RX0 yX0_gather yX0_gather, Cond.code yX0_gather cX0_gather 5 none, Cond.methodLink RX0 85 yX1_clear, Cond.instanceMethod yX1_clear, Cond.selects RX1 yX1_clear yX1_clear, Cond.code yX1_clear cX1_clear 1 none, Cond.methodLink RX1 18 yJ7_fill_53178, Cond.static yJ7_fill_53178, Cond.initialized RJ7, Cond.code yJ7_fill_53178 cJ7_fill_53178 4 none, Cond.methodLink RX0 54 yX0_firstWordIn, Cond.instanceMethod yX0_firstWordIn, Cond.selects RX0 yX0_firstWordIn yX0_firstWordIn]
def wsX2_spares_r4 : List Cond := [Cond.code yX0_firstWordIn cX0_firstWordIn 5 (some .int), Cond.methodLink RX0 37 yX0_runAt, Cond.instanceMethod yX0_runAt, Cond.selects RX0 yX0_runAt yX0_runAt, Cond.code yX0_runAt cX0_runAt 4 (some (.object "SlipLevels$Slips")), Cond.methodLink RX0 51 yX1_wordAt, Cond.instanceMethod yX1_wordAt, Cond.selects RX1 yX1_wordAt yX1_wordAt, Cond.code yX1_wordAt cX1_wordAt 2 (some .int), Cond.methodLink RX0 88 yX1_put, Cond.instanceMethod yX1_put, Cond.selects RX1 yX1_put yX1_put, Cond.code yX1_put cX1_put 4 none, Cond.methodLink RX1 46 Lib.Math.min.name, Cond.methodLink RX1 52 Lib.Math.max.name, Cond.static Lib.Math.max.name, Cond.code Lib.Math.max.name Lib.Math.max.code 2 (some .int), Cond.methodLink RX0 81 yX0_addRun, Cond.instanceMethod yX0_addRun, Cond.selects RX0 yX0_addRun yX0_addRun, Cond.code yX0_addRun cX0_addRun 4 none, Cond.fieldLink RX0 26 "SlipLevels$Binder" "moves" "I", Cond.methodLink RX0 41 yX1_size, Cond.instanceMethod yX1_size]
def wsX2_spares_r5 : List Cond := [Cond.selects RX1 yX1_size yX1_size, Cond.code yX1_size cX1_size 1 (some .int), Cond.methodLink RX2 70 yX0_settle, Cond.instanceMethod yX0_settle, Cond.selects RX0 yX0_settle yX0_settle, Cond.code yX0_settle cX0_settle 2 none, Cond.methodLink RX0 65 yX0_mergeLevel, Cond.methodLink RX2 127 yX0_slips, Cond.instanceMethod yX0_slips, Cond.selects RX0 yX0_slips yX0_slips, Cond.code yX0_slips cX0_slips 3 (some .int), Cond.methodLink RX0 48 yX0_slipsOf, Cond.instanceMethod yX0_slipsOf, Cond.selects RX0 yX0_slipsOf yX0_slipsOf, Cond.code yX0_slipsOf cX0_slipsOf 5 (some .int)]
def wsX2_spares : List Cond := .code yX2_spares cX2_spares 2 (some .int) :: ((wsX2_spares_r1 ++ (wsX2_spares_r2 ++ (wsX2_spares_r3 ++ (wsX2_spares_r4 ++ wsX2_spares_r5)))) ++ wsX20 ++ wsX00 ++ wsX10 ++ (vx_atS RX2 98 "java/lang/IndexOutOfBoundsException" ["java/lang/RuntimeException", "java/lang/Exception"]).filter goodWord)
def wsX2_allDetoursIn_r1 : List Cond := [Cond.methodLink RX2 75 yX2_detoursIn, Cond.instanceMethod yX2_detoursIn, Cond.selects RX2 yX2_detoursIn yX2_detoursIn, Cond.initialized RX2, Cond.code yX2_detoursIn cX2_detoursIn 3 (some .int), Cond.fieldLink RX2 10 "SlipLevels" "deskSlips" "LSlipLevels$Slips;", Cond.methodLink RX2 176 yX1_has, Cond.instanceMethod yX1_has, Cond.selects RX1 yX1_has yX1_has, Cond.initialized RX1, Cond.code yX1_has cX1_has 2 (some .boolean), Cond.methodLink RX1 55 yX1_wordAt, Cond.instanceMethod yX1_wordAt, Cond.selects RX1 yX1_wordAt yX1_wordAt, Cond.code yX1_wordAt cX1_wordAt 2 (some .int), Cond.fieldLink RX1 9 "SlipLevels$Slips" "words" "[I", Cond.methodLink RX2 180 yX0_detoursTo, Cond.instanceMethod yX0_detoursTo, Cond.selects RX0 yX0_detoursTo yX0_detoursTo, Cond.initialized RX0, Cond.code yX0_detoursTo cX0_detoursTo 6 (some .int), Cond.methodLink RX0 33 yX0_runsOf, Cond.instanceMethod yX0_runsOf, Cond.selects RX0 yX0_runsOf yX0_runsOf]
def wsX2_allDetoursIn_r2 : List Cond := [Cond.code yX0_runsOf cX0_runsOf 2 (some .int), Cond.fieldLink RX0 17 "SlipLevels$Binder" "runs" "[I", Cond.methodLink RX0 37 yX0_runAt, Cond.instanceMethod yX0_runAt, Cond.selects RX0 yX0_runAt yX0_runAt, Cond.code yX0_runAt cX0_runAt 4 (some (.object "SlipLevels$Slips")), Cond.fieldLink RX0 11 "SlipLevels$Binder" "rows" "[LSlipLevels$Slips;", Cond.methodLink RX0 62 yX1_opensFor, Cond.instanceMethod yX1_opensFor, Cond.selects RX1 yX1_opensFor yX1_opensFor, Cond.code yX1_opensFor cX1_opensFor 2 (some .boolean), Cond.fieldLink RX1 31 "SlipLevels$Slips" "least" "I", Cond.fieldLink RX1 34 "SlipLevels$Slips" "greatest" "I", Cond.fieldLink RX1 37 "SlipLevels$Slips" "sieve" "I", Cond.methodLink RX0 58 yX1_has]
def wsX2_allDetoursIn : List Cond := .code yX2_allDetoursIn cX2_allDetoursIn 4 (some .int) :: ((wsX2_allDetoursIn_r1 ++ wsX2_allDetoursIn_r2) ++ wsX20 ++ wsX10 ++ wsX00)
def wsX2_advise_r1 : List Cond := [Cond.fieldLink RX2 19 "SlipLevels" "binder" "LSlipLevels$Binder;", Cond.fieldLink RX2 23 "SlipLevels" "trial" "LSlipLevels$Binder;", Cond.methodLink RX2 55 yX0_runsOf, Cond.instanceMethod yX0_runsOf, Cond.selects RX0 yX0_runsOf yX0_runsOf, Cond.initialized RX0, Cond.code yX0_runsOf cX0_runsOf 2 (some .int), Cond.fieldLink RX0 17 "SlipLevels$Binder" "runs" "[I", Cond.methodLink RX2 124 yX2_tryMerging, Cond.instanceMethod yX2_tryMerging, Cond.selects RX2 yX2_tryMerging yX2_tryMerging, Cond.initialized RX2, Cond.code yX2_tryMerging cX2_tryMerging 2 none, Cond.methodLink RX2 193 yX0_copyRuns, Cond.instanceMethod yX0_copyRuns, Cond.selects RX0 yX0_copyRuns yX0_copyRuns, Cond.code yX0_copyRuns cX0_copyRuns 5 none, Cond.methodLink RX0 92 yX0_rowAt, Cond.instanceMethod yX0_rowAt, Cond.selects RX0 yX0_rowAt yX0_rowAt, Cond.code yX0_rowAt cX0_rowAt 3 (some (.object "SlipLevels$Slips")), Cond.fieldLink RX0 11 "SlipLevels$Binder" "rows" "[LSlipLevels$Slips;", Cond.methodLink RX0 95 yX1_copy, Cond.instanceMethod yX1_copy]
def wsX2_advise_r2 : List Cond := [Cond.selects RX1 yX1_copy yX1_copy, Cond.initialized RX1, Cond.code yX1_copy cX1_copy 2 none, Cond.fieldLink RX1 9 "SlipLevels$Slips" "words" "[I", Cond.methodLink RX1 40 arraycopyName, Cond.native arraycopyName, Cond.static arraycopyName, Cond.initialized "java/lang/System", Cond.fieldLink RX1 24 "SlipLevels$Slips" "size" "I", Cond.fieldLink RX1 28 "SlipLevels$Slips" "tombs" "I", Cond.fieldLink RX1 31 "SlipLevels$Slips" "least" "I", Cond.fieldLink RX1 34 "SlipLevels$Slips" "greatest" "I", Cond.fieldLink RX1 37 "SlipLevels$Slips" "sieve" "I", Cond.methodLink RX2 67 yX0_mergeLevel, Cond.instanceMethod yX0_mergeLevel, Cond.selects RX0 yX0_mergeLevel yX0_mergeLevel, Cond.code yX0_mergeLevel cX0_mergeLevel 2 none, Cond.methodLink RX0 76 Lib.Math.min.name, Cond.static Lib.Math.min.name, Cond.initialized "java/lang/Math", Cond.code Lib.Math.min.name Lib.Math.min.code 2 (some .int), Cond.fieldLink RX0 22 "SlipLevels$Binder" "merged" "LSlipLevels$Slips;", Cond.fieldLink RX0 30 "SlipLevels$Binder" "mergings" "I", Cond.methodLink RX0 69 yX0_nothingBehind]
def wsX2_advise_r3 : List Cond := [Cond.instanceMethod yX0_nothingBehind, Cond.selects RX0 yX0_nothingBehind yX0_nothingBehind, Cond.code yX0_nothingBehind cX0_nothingBehind 3 (some .boolean), Cond.methodLink RX0 33 yX0_runsOf, Cond.methodLink RX0 72 yX0_gather, Cond.instanceMethod yX0_gather, Cond.selects RX0 yX0_gather yX0_gather, Cond.code yX0_gather cX0_gather 5 none, Cond.methodLink RX0 85 yX1_clear, Cond.instanceMethod yX1_clear, Cond.selects RX1 yX1_clear yX1_clear, Cond.code yX1_clear cX1_clear 1 none, Cond.methodLink RX1 18 yJ7_fill_53178, Cond.static yJ7_fill_53178, Cond.initialized RJ7, Cond.code yJ7_fill_53178 cJ7_fill_53178 4 none, Cond.methodLink RX0 54 yX0_firstWordIn, Cond.instanceMethod yX0_firstWordIn, Cond.selects RX0 yX0_firstWordIn yX0_firstWordIn, Cond.code yX0_firstWordIn cX0_firstWordIn 5 (some .int), Cond.methodLink RX0 37 yX0_runAt, Cond.instanceMethod yX0_runAt, Cond.selects RX0 yX0_runAt yX0_runAt, Cond.code yX0_runAt cX0_runAt 4 (some (.object "SlipLevels$Slips"))]
def wsX2_advise_r4 : List Cond := [Cond.methodLink RX0 51 yX1_wordAt, Cond.instanceMethod yX1_wordAt, Cond.selects RX1 yX1_wordAt yX1_wordAt, Cond.code yX1_wordAt cX1_wordAt 2 (some .int), Cond.methodLink RX0 88 yX1_put, Cond.instanceMethod yX1_put, Cond.selects RX1 yX1_put yX1_put, Cond.code yX1_put cX1_put 4 none, Cond.methodLink RX1 46 Lib.Math.min.name, Cond.methodLink RX1 52 Lib.Math.max.name, Cond.static Lib.Math.max.name, Cond.code Lib.Math.max.name Lib.Math.max.code 2 (some .int), Cond.methodLink RX0 81 yX0_addRun, Cond.instanceMethod yX0_addRun, Cond.selects RX0 yX0_addRun yX0_addRun, Cond.code yX0_addRun cX0_addRun 4 none, Cond.fieldLink RX0 26 "SlipLevels$Binder" "moves" "I", Cond.methodLink RX0 41 yX1_size, Cond.instanceMethod yX1_size, Cond.selects RX1 yX1_size yX1_size, Cond.code yX1_size cX1_size 1 (some .int), Cond.methodLink RX2 70 yX0_settle, Cond.instanceMethod yX0_settle, Cond.selects RX0 yX0_settle yX0_settle]
def wsX2_advise_r5 : List Cond := [Cond.code yX0_settle cX0_settle 2 none, Cond.methodLink RX0 65 yX0_mergeLevel, Cond.methodLink RX2 130 yX2_allDetoursIn, Cond.instanceMethod yX2_allDetoursIn, Cond.selects RX2 yX2_allDetoursIn yX2_allDetoursIn, Cond.code yX2_allDetoursIn cX2_allDetoursIn 4 (some .int), Cond.methodLink RX2 75 yX2_detoursIn, Cond.instanceMethod yX2_detoursIn, Cond.selects RX2 yX2_detoursIn yX2_detoursIn, Cond.code yX2_detoursIn cX2_detoursIn 3 (some .int), Cond.fieldLink RX2 10 "SlipLevels" "deskSlips" "LSlipLevels$Slips;", Cond.methodLink RX2 176 yX1_has, Cond.instanceMethod yX1_has, Cond.selects RX1 yX1_has yX1_has, Cond.code yX1_has cX1_has 2 (some .boolean), Cond.methodLink RX1 55 yX1_wordAt, Cond.methodLink RX2 180 yX0_detoursTo, Cond.instanceMethod yX0_detoursTo, Cond.selects RX0 yX0_detoursTo yX0_detoursTo, Cond.code yX0_detoursTo cX0_detoursTo 6 (some .int), Cond.methodLink RX0 62 yX1_opensFor, Cond.instanceMethod yX1_opensFor, Cond.selects RX1 yX1_opensFor yX1_opensFor, Cond.code yX1_opensFor cX1_opensFor 2 (some .boolean)]
def wsX2_advise_r6 : List Cond := [Cond.methodLink RX0 58 yX1_has]
def wsX2_advise : List Cond := .code yX2_advise cX2_advise 5 (some .int) :: ((wsX2_advise_r1 ++ (wsX2_advise_r2 ++ (wsX2_advise_r3 ++ (wsX2_advise_r4 ++ (wsX2_advise_r5 ++ wsX2_advise_r6))))) ++ wsX20 ++ wsX00 ++ wsX10)
def wsX2_mean_r1 : List Cond := [Cond.fieldLink RX2 19 "SlipLevels" "binder" "LSlipLevels$Binder;", Cond.constantDouble RX2 134 (4634204016564240384), Cond.methodLink RX2 130 yX2_allDetoursIn, Cond.instanceMethod yX2_allDetoursIn, Cond.selects RX2 yX2_allDetoursIn yX2_allDetoursIn, Cond.initialized RX2, Cond.code yX2_allDetoursIn cX2_allDetoursIn 4 (some .int), Cond.methodLink RX2 75 yX2_detoursIn, Cond.instanceMethod yX2_detoursIn, Cond.selects RX2 yX2_detoursIn yX2_detoursIn, Cond.code yX2_detoursIn cX2_detoursIn 3 (some .int), Cond.fieldLink RX2 10 "SlipLevels" "deskSlips" "LSlipLevels$Slips;", Cond.methodLink RX2 176 yX1_has, Cond.instanceMethod yX1_has, Cond.selects RX1 yX1_has yX1_has, Cond.initialized RX1, Cond.code yX1_has cX1_has 2 (some .boolean), Cond.methodLink RX1 55 yX1_wordAt, Cond.instanceMethod yX1_wordAt, Cond.selects RX1 yX1_wordAt yX1_wordAt, Cond.code yX1_wordAt cX1_wordAt 2 (some .int), Cond.fieldLink RX1 9 "SlipLevels$Slips" "words" "[I", Cond.methodLink RX2 180 yX0_detoursTo, Cond.instanceMethod yX0_detoursTo]
def wsX2_mean_r2 : List Cond := [Cond.selects RX0 yX0_detoursTo yX0_detoursTo, Cond.initialized RX0, Cond.code yX0_detoursTo cX0_detoursTo 6 (some .int), Cond.methodLink RX0 33 yX0_runsOf, Cond.instanceMethod yX0_runsOf, Cond.selects RX0 yX0_runsOf yX0_runsOf, Cond.code yX0_runsOf cX0_runsOf 2 (some .int), Cond.fieldLink RX0 17 "SlipLevels$Binder" "runs" "[I", Cond.methodLink RX0 37 yX0_runAt, Cond.instanceMethod yX0_runAt, Cond.selects RX0 yX0_runAt yX0_runAt, Cond.code yX0_runAt cX0_runAt 4 (some (.object "SlipLevels$Slips")), Cond.fieldLink RX0 11 "SlipLevels$Binder" "rows" "[LSlipLevels$Slips;", Cond.methodLink RX0 62 yX1_opensFor, Cond.instanceMethod yX1_opensFor, Cond.selects RX1 yX1_opensFor yX1_opensFor, Cond.code yX1_opensFor cX1_opensFor 2 (some .boolean), Cond.fieldLink RX1 31 "SlipLevels$Slips" "least" "I", Cond.fieldLink RX1 34 "SlipLevels$Slips" "greatest" "I", Cond.fieldLink RX1 37 "SlipLevels$Slips" "sieve" "I", Cond.methodLink RX0 58 yX1_has]
def wsX2_mean : List Cond := .code yX2_mean cX2_mean 1 (some .double) :: ((wsX2_mean_r1 ++ wsX2_mean_r2) ++ wsX20 ++ wsX10 ++ wsX00)
def wsX2_digestSlips : List Cond := .code yX2_digestSlips cX2_digestSlips 6 (some .long) :: ([.constantLong RX2 138 (31), .methodLink RX2 176 yX1_has, .instanceMethod yX1_has, .selects RX1 yX1_has yX1_has, .initialized RX1, .code yX1_has cX1_has 2 (some .boolean), .methodLink RX1 55 yX1_wordAt, .instanceMethod yX1_wordAt, .selects RX1 yX1_wordAt yX1_wordAt, .code yX1_wordAt cX1_wordAt 2 (some .int), .fieldLink RX1 9 "SlipLevels$Slips" "words" "[I", .methodLink RX2 157 yX1_told, .instanceMethod yX1_told, .selects RX1 yX1_told yX1_told, .code yX1_told cX1_told 3 (some .int)] ++ wsX10)
def wsX2_digestLevel_r1 : List Cond := [Cond.fieldLink RX2 19 "SlipLevels" "binder" "LSlipLevels$Binder;", Cond.constantLong RX2 138 (31), Cond.methodLink RX2 55 yX0_runsOf, Cond.instanceMethod yX0_runsOf, Cond.selects RX0 yX0_runsOf yX0_runsOf, Cond.initialized RX0, Cond.code yX0_runsOf cX0_runsOf 2 (some .int), Cond.fieldLink RX0 17 "SlipLevels$Binder" "runs" "[I", Cond.methodLink RX2 90 yX0_runAt, Cond.instanceMethod yX0_runAt, Cond.selects RX0 yX0_runAt yX0_runAt, Cond.code yX0_runAt cX0_runAt 4 (some (.object "SlipLevels$Slips")), Cond.fieldLink RX0 11 "SlipLevels$Binder" "rows" "[LSlipLevels$Slips;", Cond.methodLink RX2 101 yX2_standingIn, Cond.instanceMethod yX2_standingIn, Cond.selects RX2 yX2_standingIn yX2_standingIn, Cond.initialized RX2, Cond.code yX2_standingIn cX2_standingIn 5 (some .int), Cond.fieldLink RX2 10 "SlipLevels" "deskSlips" "LSlipLevels$Slips;", Cond.methodLink RX2 176 yX1_has, Cond.instanceMethod yX1_has, Cond.selects RX1 yX1_has yX1_has, Cond.initialized RX1, Cond.code yX1_has cX1_has 2 (some .boolean)]
def wsX2_digestLevel_r2 : List Cond := [Cond.methodLink RX1 55 yX1_wordAt, Cond.instanceMethod yX1_wordAt, Cond.selects RX1 yX1_wordAt yX1_wordAt, Cond.code yX1_wordAt cX1_wordAt 2 (some .int), Cond.fieldLink RX1 9 "SlipLevels$Slips" "words" "[I", Cond.methodLink RX2 183 yX0_isFirst, Cond.instanceMethod yX0_isFirst, Cond.selects RX0 yX0_isFirst yX0_isFirst, Cond.code yX0_isFirst cX0_isFirst 6 (some .boolean), Cond.methodLink RX0 54 yX0_firstWordIn, Cond.instanceMethod yX0_firstWordIn, Cond.selects RX0 yX0_firstWordIn yX0_firstWordIn, Cond.code yX0_firstWordIn cX0_firstWordIn 5 (some .int), Cond.methodLink RX0 37 yX0_runAt, Cond.methodLink RX0 51 yX1_wordAt, Cond.methodLink RX0 58 yX1_has, Cond.methodLink RX2 104 yX1_fact, Cond.instanceMethod yX1_fact, Cond.selects RX1 yX1_fact yX1_fact, Cond.code yX1_fact cX1_fact 2 (some .int), Cond.fieldLink RX1 24 "SlipLevels$Slips" "size" "I", Cond.fieldLink RX1 31 "SlipLevels$Slips" "least" "I", Cond.fieldLink RX1 34 "SlipLevels$Slips" "greatest" "I", Cond.fieldLink RX1 37 "SlipLevels$Slips" "sieve" "I"]
def wsX2_digestLevel_r3 : List Cond := [Cond.fieldLink RX1 28 "SlipLevels$Slips" "tombs" "I", Cond.methodLink RX2 140 yX2_digestSlips, Cond.static yX2_digestSlips, Cond.code yX2_digestSlips cX2_digestSlips 6 (some .long), Cond.methodLink RX2 157 yX1_told, Cond.instanceMethod yX1_told, Cond.selects RX1 yX1_told yX1_told, Cond.code yX1_told cX1_told 3 (some .int)]
def wsX2_digestLevel : List Cond := .code yX2_digestLevel cX2_digestLevel 11 (some .long) :: ((wsX2_digestLevel_r1 ++ (wsX2_digestLevel_r2 ++ wsX2_digestLevel_r3)) ++ wsX20 ++ wsX00 ++ wsX10)
def wsX2_digest_r1 : List Cond := [Cond.constantLong RX2 136 (1493), Cond.constantLong RX2 138 (31), Cond.fieldLink RX2 10 "SlipLevels" "deskSlips" "LSlipLevels$Slips;", Cond.methodLink RX2 121 yX2_tally, Cond.instanceMethod yX2_tally, Cond.selects RX2 yX2_tally yX2_tally, Cond.initialized RX2, Cond.code yX2_tally cX2_tally 2 (some .int), Cond.fieldLink RX2 26 "SlipLevels" "deskRoom" "I", Cond.fieldLink RX2 19 "SlipLevels" "binder" "LSlipLevels$Binder;", Cond.fieldLink RX2 30 "SlipLevels" "detoursRead" "I", Cond.methodLink RX2 160 yX1_size, Cond.instanceMethod yX1_size, Cond.selects RX1 yX1_size yX1_size, Cond.initialized RX1, Cond.code yX1_size cX1_size 1 (some .int), Cond.fieldLink RX1 24 "SlipLevels$Slips" "size" "I", Cond.methodLink RX2 127 yX0_slips, Cond.instanceMethod yX0_slips, Cond.selects RX0 yX0_slips yX0_slips, Cond.initialized RX0, Cond.code yX0_slips cX0_slips 3 (some .int), Cond.methodLink RX0 48 yX0_slipsOf, Cond.instanceMethod yX0_slipsOf]
def wsX2_digest_r2 : List Cond := [Cond.selects RX0 yX0_slipsOf yX0_slipsOf, Cond.code yX0_slipsOf cX0_slipsOf 5 (some .int), Cond.methodLink RX0 33 yX0_runsOf, Cond.instanceMethod yX0_runsOf, Cond.selects RX0 yX0_runsOf yX0_runsOf, Cond.code yX0_runsOf cX0_runsOf 2 (some .int), Cond.fieldLink RX0 17 "SlipLevels$Binder" "runs" "[I", Cond.methodLink RX0 37 yX0_runAt, Cond.instanceMethod yX0_runAt, Cond.selects RX0 yX0_runAt yX0_runAt, Cond.code yX0_runAt cX0_runAt 4 (some (.object "SlipLevels$Slips")), Cond.fieldLink RX0 11 "SlipLevels$Binder" "rows" "[LSlipLevels$Slips;", Cond.methodLink RX0 41 yX1_size, Cond.methodLink RX2 187 yX2_wordsStanding, Cond.instanceMethod yX2_wordsStanding, Cond.selects RX2 yX2_wordsStanding yX2_wordsStanding, Cond.code yX2_wordsStanding cX2_wordsStanding 3 (some .int), Cond.methodLink RX2 79 yX2_wordOf, Cond.instanceMethod yX2_wordOf, Cond.selects RX2 yX2_wordOf yX2_wordOf, Cond.code yX2_wordOf cX2_wordOf 3 (some .int), Cond.methodLink RX2 170 yX1_wordAt, Cond.instanceMethod yX1_wordAt, Cond.selects RX1 yX1_wordAt yX1_wordAt]
def wsX2_digest_r3 : List Cond := [Cond.code yX1_wordAt cX1_wordAt 2 (some .int), Cond.fieldLink RX1 9 "SlipLevels$Slips" "words" "[I", Cond.methodLink RX2 173 yX0_firstWord, Cond.instanceMethod yX0_firstWord, Cond.selects RX0 yX0_firstWord yX0_firstWord, Cond.code yX0_firstWord cX0_firstWord 4 (some .int), Cond.methodLink RX0 54 yX0_firstWordIn, Cond.instanceMethod yX0_firstWordIn, Cond.selects RX0 yX0_firstWordIn yX0_firstWordIn, Cond.code yX0_firstWordIn cX0_firstWordIn 5 (some .int), Cond.methodLink RX0 51 yX1_wordAt, Cond.methodLink RX2 63 yX0_moves, Cond.instanceMethod yX0_moves, Cond.selects RX0 yX0_moves yX0_moves, Cond.code yX0_moves cX0_moves 1 (some .int), Cond.fieldLink RX0 26 "SlipLevels$Binder" "moves" "I", Cond.methodLink RX2 190 yX0_mergings, Cond.instanceMethod yX0_mergings, Cond.selects RX0 yX0_mergings yX0_mergings, Cond.code yX0_mergings cX0_mergings 1 (some .int), Cond.fieldLink RX0 30 "SlipLevels$Binder" "mergings" "I", Cond.methodLink RX2 140 yX2_digestSlips, Cond.static yX2_digestSlips, Cond.code yX2_digestSlips cX2_digestSlips 6 (some .long)]
def wsX2_digest_r4 : List Cond := [Cond.methodLink RX2 176 yX1_has, Cond.instanceMethod yX1_has, Cond.selects RX1 yX1_has yX1_has, Cond.code yX1_has cX1_has 2 (some .boolean), Cond.methodLink RX1 55 yX1_wordAt, Cond.methodLink RX2 157 yX1_told, Cond.instanceMethod yX1_told, Cond.selects RX1 yX1_told yX1_told, Cond.code yX1_told cX1_told 3 (some .int), Cond.methodLink RX2 144 yX2_digestLevel, Cond.instanceMethod yX2_digestLevel, Cond.selects RX2 yX2_digestLevel yX2_digestLevel, Cond.code yX2_digestLevel cX2_digestLevel 11 (some .long), Cond.methodLink RX2 55 yX0_runsOf, Cond.methodLink RX2 90 yX0_runAt, Cond.methodLink RX2 101 yX2_standingIn, Cond.instanceMethod yX2_standingIn, Cond.selects RX2 yX2_standingIn yX2_standingIn, Cond.code yX2_standingIn cX2_standingIn 5 (some .int), Cond.methodLink RX2 183 yX0_isFirst, Cond.instanceMethod yX0_isFirst, Cond.selects RX0 yX0_isFirst yX0_isFirst, Cond.code yX0_isFirst cX0_isFirst 6 (some .boolean), Cond.methodLink RX0 58 yX1_has]
def wsX2_digest_r5 : List Cond := [Cond.methodLink RX2 104 yX1_fact, Cond.instanceMethod yX1_fact, Cond.selects RX1 yX1_fact yX1_fact, Cond.code yX1_fact cX1_fact 2 (some .int), Cond.fieldLink RX1 31 "SlipLevels$Slips" "least" "I", Cond.fieldLink RX1 34 "SlipLevels$Slips" "greatest" "I", Cond.fieldLink RX1 37 "SlipLevels$Slips" "sieve" "I", Cond.fieldLink RX1 28 "SlipLevels$Slips" "tombs" "I"]
def wsX2_digest : List Cond := .code yX2_digest cX2_digest 4 (some .long) :: ((wsX2_digest_r1 ++ (wsX2_digest_r2 ++ (wsX2_digest_r3 ++ (wsX2_digest_r4 ++ wsX2_digest_r5)))) ++ wsX20 ++ wsX10 ++ wsX00)
def wsX3_empty : List Cond := .code yX3_empty cX3_empty 2 (some (.array .int)) :: ([.arrayClass .int])
def wsX3_init : List Cond := .code yX3_init cX3_init 1 none :: ([.methodLink RX3 1 objectInit, .instanceMethod objectInit, .code objectInit ⟨#[0xb1]⟩ 1 none, .fieldLink RX3 13 "SlipLevelsModel" "desk" "[I", .classLink RX3 19 "[I", .fieldLink RX3 20 "SlipLevelsModel" "levels" "[[[I", .arrayClass .int, .fieldLink RX3 24 "SlipLevelsModel" "numbers" "[I", .methodLink RX3 7 yX3_empty, .static yX3_empty, .initialized RX3, .code yX3_empty cX3_empty 2 (some (.array .int))] ++ wsX30)
def wsX3_thrown : List Cond := .code yX3_thrown cX3_thrown 1 (some .int) :: ([.fieldLink RX3 27 "SlipLevelsModel" "thrown" "I"] ++ wsX30)
def wsX3_fail : List Cond := .code yX3_fail cX3_fail 2 (some .int) :: ([.fieldLink RX3 27 "SlipLevelsModel" "thrown" "I"] ++ wsX30)
def wsX3_isIn : List Cond := .code yX3_isIn cX3_isIn 3 (some .boolean) :: ([])
def wsX3_isNumber : List Cond := .code yX3_isNumber cX3_isNumber 1 (some .boolean) :: ([.methodLink RX3 31 yX3_isIn, .static yX3_isIn, .initialized RX3, .code yX3_isIn cX3_isIn 3 (some .boolean)])
def wsX3_isLevel : List Cond := .code yX3_isLevel cX3_isLevel 1 (some .boolean) :: ([.methodLink RX3 31 yX3_isIn, .static yX3_isIn, .initialized RX3, .code yX3_isIn cX3_isIn 3 (some .boolean)])
def wsX3_isRun : List Cond := .code yX3_isRun cX3_isRun 3 (some .boolean) :: ([.fieldLink RX3 20 "SlipLevelsModel" "levels" "[[[I", .methodLink RX3 35 yX3_isLevel, .static yX3_isLevel, .initialized RX3, .code yX3_isLevel cX3_isLevel 1 (some .boolean), .methodLink RX3 31 yX3_isIn, .static yX3_isIn, .code yX3_isIn cX3_isIn 3 (some .boolean)] ++ wsX30)
def wsX3_size : List Cond := .code yX3_size cX3_size 6 (some .int) :: ([])
def wsX3_tombs : List Cond := .code yX3_tombs cX3_tombs 6 (some .int) :: ([])
def wsX3_end : List Cond := .code yX3_end cX3_end 4 (some .int) :: ([])
def wsX3_isOpen : List Cond := .code yX3_isOpen cX3_isOpen 3 (some .boolean) :: ([])
def wsX3_come : List Cond := .code yX3_come cX3_come 5 none :: ([.fieldLink RX3 24 "SlipLevelsModel" "numbers" "[I", .fieldLink RX3 20 "SlipLevelsModel" "levels" "[[[I", .classLink RX3 19 "[I", .methodLink RX3 43 arraycopyName, .native arraycopyName, .static arraycopyName, .initialized "java/lang/System", .methodLink RX3 39 yX3_size, .static yX3_size, .initialized RX3, .code yX3_size cX3_size 6 (some .int)] ++ wsX30)
def wsX3_mergeOne : List Cond := .code yX3_mergeOne cX3_mergeOne 5 none :: ([.fieldLink RX3 20 "SlipLevelsModel" "levels" "[[[I", .classLink RX3 19 "[I", .fieldLink RX3 24 "SlipLevelsModel" "numbers" "[I", .methodLink RX3 49 Lib.Math.min.name, .static Lib.Math.min.name, .initialized "java/lang/Math", .code Lib.Math.min.name Lib.Math.min.code 2 (some .int), .methodLink RX3 7 yX3_empty, .static yX3_empty, .initialized RX3, .code yX3_empty cX3_empty 2 (some (.array .int)), .arrayClass .int, .methodLink RX3 39 yX3_size, .static yX3_size, .code yX3_size cX3_size 6 (some .int), .methodLink RX3 55 yX3_come, .instanceMethod yX3_come, .selects RX3 yX3_come yX3_come, .code yX3_come cX3_come 5 none, .methodLink RX3 43 arraycopyName, .native arraycopyName, .static arraycopyName, .initialized "java/lang/System"] ++ wsX30)
def wsX3_settle_r1 : List Cond := [Cond.fieldLink RX3 20 "SlipLevelsModel" "levels" "[[[I", Cond.methodLink RX3 59 yX3_mergeOne, Cond.instanceMethod yX3_mergeOne, Cond.selects RX3 yX3_mergeOne yX3_mergeOne, Cond.initialized RX3, Cond.code yX3_mergeOne cX3_mergeOne 5 none, Cond.classLink RX3 19 "[I", Cond.fieldLink RX3 24 "SlipLevelsModel" "numbers" "[I", Cond.methodLink RX3 49 Lib.Math.min.name, Cond.static Lib.Math.min.name, Cond.initialized "java/lang/Math", Cond.code Lib.Math.min.name Lib.Math.min.code 2 (some .int), Cond.methodLink RX3 7 yX3_empty, Cond.static yX3_empty, Cond.code yX3_empty cX3_empty 2 (some (.array .int)), Cond.arrayClass .int, Cond.methodLink RX3 39 yX3_size, Cond.static yX3_size, Cond.code yX3_size cX3_size 6 (some .int), Cond.methodLink RX3 55 yX3_come, Cond.instanceMethod yX3_come, Cond.selects RX3 yX3_come yX3_come, Cond.code yX3_come cX3_come 5 none, Cond.methodLink RX3 43 arraycopyName]
def wsX3_settle_r2 : List Cond := [Cond.native arraycopyName, Cond.static arraycopyName, Cond.initialized "java/lang/System"]
def wsX3_settle : List Cond := .code yX3_settle cX3_settle 2 none :: ((wsX3_settle_r1 ++ wsX3_settle_r2) ++ wsX30)
def wsX3_bound_r1 : List Cond := [Cond.fieldLink RX3 24 "SlipLevelsModel" "numbers" "[I", Cond.fieldLink RX3 13 "SlipLevelsModel" "desk" "[I", Cond.methodLink RX3 39 yX3_size, Cond.static yX3_size, Cond.initialized RX3, Cond.code yX3_size cX3_size 6 (some .int), Cond.methodLink RX3 55 yX3_come, Cond.instanceMethod yX3_come, Cond.selects RX3 yX3_come yX3_come, Cond.code yX3_come cX3_come 5 none, Cond.fieldLink RX3 20 "SlipLevelsModel" "levels" "[[[I", Cond.classLink RX3 19 "[I", Cond.methodLink RX3 43 arraycopyName, Cond.native arraycopyName, Cond.static arraycopyName, Cond.initialized "java/lang/System", Cond.methodLink RX3 7 yX3_empty, Cond.static yX3_empty, Cond.code yX3_empty cX3_empty 2 (some (.array .int)), Cond.arrayClass .int, Cond.methodLink RX3 63 yX3_settle, Cond.instanceMethod yX3_settle, Cond.selects RX3 yX3_settle yX3_settle, Cond.code yX3_settle cX3_settle 2 none]
def wsX3_bound_r2 : List Cond := [Cond.methodLink RX3 59 yX3_mergeOne, Cond.instanceMethod yX3_mergeOne, Cond.selects RX3 yX3_mergeOne yX3_mergeOne, Cond.code yX3_mergeOne cX3_mergeOne 5 none, Cond.methodLink RX3 49 Lib.Math.min.name, Cond.static Lib.Math.min.name, Cond.initialized "java/lang/Math", Cond.code Lib.Math.min.name Lib.Math.min.code 2 (some .int)]
def wsX3_bound : List Cond := .code yX3_bound cX3_bound 2 (some .int) :: ((wsX3_bound_r1 ++ wsX3_bound_r2) ++ wsX30)
def wsX3_put_r1 : List Cond := [Cond.fieldLink RX3 13 "SlipLevelsModel" "desk" "[I", Cond.fieldLink RX3 24 "SlipLevelsModel" "numbers" "[I", Cond.methodLink RX3 39 yX3_size, Cond.static yX3_size, Cond.initialized RX3, Cond.code yX3_size cX3_size 6 (some .int), Cond.methodLink RX3 66 yX3_bound, Cond.instanceMethod yX3_bound, Cond.selects RX3 yX3_bound yX3_bound, Cond.code yX3_bound cX3_bound 2 (some .int), Cond.methodLink RX3 55 yX3_come, Cond.instanceMethod yX3_come, Cond.selects RX3 yX3_come yX3_come, Cond.code yX3_come cX3_come 5 none, Cond.fieldLink RX3 20 "SlipLevelsModel" "levels" "[[[I", Cond.classLink RX3 19 "[I", Cond.methodLink RX3 43 arraycopyName, Cond.native arraycopyName, Cond.static arraycopyName, Cond.initialized "java/lang/System", Cond.methodLink RX3 7 yX3_empty, Cond.static yX3_empty, Cond.code yX3_empty cX3_empty 2 (some (.array .int)), Cond.arrayClass .int]
def wsX3_put_r2 : List Cond := [Cond.methodLink RX3 63 yX3_settle, Cond.instanceMethod yX3_settle, Cond.selects RX3 yX3_settle yX3_settle, Cond.code yX3_settle cX3_settle 2 none, Cond.methodLink RX3 59 yX3_mergeOne, Cond.instanceMethod yX3_mergeOne, Cond.selects RX3 yX3_mergeOne yX3_mergeOne, Cond.code yX3_mergeOne cX3_mergeOne 5 none, Cond.methodLink RX3 49 Lib.Math.min.name, Cond.static Lib.Math.min.name, Cond.initialized "java/lang/Math", Cond.code Lib.Math.min.name Lib.Math.min.code 2 (some .int)]
def wsX3_put : List Cond := .code yX3_put cX3_put 3 (some .boolean) :: ((wsX3_put_r1 ++ wsX3_put_r2) ++ wsX30)
def wsX3_write_r1 : List Cond := [Cond.fieldLink RX3 27 "SlipLevelsModel" "thrown" "I", Cond.methodLink RX3 70 yX3_isNumber, Cond.static yX3_isNumber, Cond.initialized RX3, Cond.code yX3_isNumber cX3_isNumber 1 (some .boolean), Cond.methodLink RX3 31 yX3_isIn, Cond.static yX3_isIn, Cond.code yX3_isIn cX3_isIn 3 (some .boolean), Cond.methodLink RX3 73 yX3_put, Cond.instanceMethod yX3_put, Cond.selects RX3 yX3_put yX3_put, Cond.code yX3_put cX3_put 3 (some .boolean), Cond.fieldLink RX3 13 "SlipLevelsModel" "desk" "[I", Cond.fieldLink RX3 24 "SlipLevelsModel" "numbers" "[I", Cond.methodLink RX3 39 yX3_size, Cond.static yX3_size, Cond.code yX3_size cX3_size 6 (some .int), Cond.methodLink RX3 66 yX3_bound, Cond.instanceMethod yX3_bound, Cond.selects RX3 yX3_bound yX3_bound, Cond.code yX3_bound cX3_bound 2 (some .int), Cond.methodLink RX3 55 yX3_come, Cond.instanceMethod yX3_come, Cond.selects RX3 yX3_come yX3_come]
def wsX3_write_r2 : List Cond := [Cond.code yX3_come cX3_come 5 none, Cond.fieldLink RX3 20 "SlipLevelsModel" "levels" "[[[I", Cond.classLink RX3 19 "[I", Cond.methodLink RX3 43 arraycopyName, Cond.native arraycopyName, Cond.static arraycopyName, Cond.initialized "java/lang/System", Cond.methodLink RX3 7 yX3_empty, Cond.static yX3_empty, Cond.code yX3_empty cX3_empty 2 (some (.array .int)), Cond.arrayClass .int, Cond.methodLink RX3 63 yX3_settle, Cond.instanceMethod yX3_settle, Cond.selects RX3 yX3_settle yX3_settle, Cond.code yX3_settle cX3_settle 2 none, Cond.methodLink RX3 59 yX3_mergeOne, Cond.instanceMethod yX3_mergeOne, Cond.selects RX3 yX3_mergeOne yX3_mergeOne, Cond.code yX3_mergeOne cX3_mergeOne 5 none, Cond.methodLink RX3 49 Lib.Math.min.name, Cond.static Lib.Math.min.name, Cond.initialized "java/lang/Math", Cond.code Lib.Math.min.name Lib.Math.min.code 2 (some .int)]
def wsX3_write : List Cond := .code yX3_write cX3_write 3 (some .boolean) :: ((wsX3_write_r1 ++ wsX3_write_r2) ++ wsX30)
def wsX3_strike_r1 : List Cond := [Cond.fieldLink RX3 27 "SlipLevelsModel" "thrown" "I", Cond.methodLink RX3 70 yX3_isNumber, Cond.static yX3_isNumber, Cond.initialized RX3, Cond.code yX3_isNumber cX3_isNumber 1 (some .boolean), Cond.methodLink RX3 31 yX3_isIn, Cond.static yX3_isIn, Cond.code yX3_isIn cX3_isIn 3 (some .boolean), Cond.methodLink RX3 73 yX3_put, Cond.instanceMethod yX3_put, Cond.selects RX3 yX3_put yX3_put, Cond.code yX3_put cX3_put 3 (some .boolean), Cond.fieldLink RX3 13 "SlipLevelsModel" "desk" "[I", Cond.fieldLink RX3 24 "SlipLevelsModel" "numbers" "[I", Cond.methodLink RX3 39 yX3_size, Cond.static yX3_size, Cond.code yX3_size cX3_size 6 (some .int), Cond.methodLink RX3 66 yX3_bound, Cond.instanceMethod yX3_bound, Cond.selects RX3 yX3_bound yX3_bound, Cond.code yX3_bound cX3_bound 2 (some .int), Cond.methodLink RX3 55 yX3_come, Cond.instanceMethod yX3_come, Cond.selects RX3 yX3_come yX3_come]
def wsX3_strike_r2 : List Cond := [Cond.code yX3_come cX3_come 5 none, Cond.fieldLink RX3 20 "SlipLevelsModel" "levels" "[[[I", Cond.classLink RX3 19 "[I", Cond.methodLink RX3 43 arraycopyName, Cond.native arraycopyName, Cond.static arraycopyName, Cond.initialized "java/lang/System", Cond.methodLink RX3 7 yX3_empty, Cond.static yX3_empty, Cond.code yX3_empty cX3_empty 2 (some (.array .int)), Cond.arrayClass .int, Cond.methodLink RX3 63 yX3_settle, Cond.instanceMethod yX3_settle, Cond.selects RX3 yX3_settle yX3_settle, Cond.code yX3_settle cX3_settle 2 none, Cond.methodLink RX3 59 yX3_mergeOne, Cond.instanceMethod yX3_mergeOne, Cond.selects RX3 yX3_mergeOne yX3_mergeOne, Cond.code yX3_mergeOne cX3_mergeOne 5 none, Cond.methodLink RX3 49 Lib.Math.min.name, Cond.static Lib.Math.min.name, Cond.initialized "java/lang/Math", Cond.code Lib.Math.min.name Lib.Math.min.code 2 (some .int)]
def wsX3_strike : List Cond := .code yX3_strike cX3_strike 2 (some .boolean) :: ((wsX3_strike_r1 ++ wsX3_strike_r2) ++ wsX30)
def wsX3_bind_r1 : List Cond := [Cond.fieldLink RX3 27 "SlipLevelsModel" "thrown" "I", Cond.methodLink RX3 66 yX3_bound, Cond.instanceMethod yX3_bound, Cond.selects RX3 yX3_bound yX3_bound, Cond.initialized RX3, Cond.code yX3_bound cX3_bound 2 (some .int), Cond.fieldLink RX3 24 "SlipLevelsModel" "numbers" "[I", Cond.fieldLink RX3 13 "SlipLevelsModel" "desk" "[I", Cond.methodLink RX3 39 yX3_size, Cond.static yX3_size, Cond.code yX3_size cX3_size 6 (some .int), Cond.methodLink RX3 55 yX3_come, Cond.instanceMethod yX3_come, Cond.selects RX3 yX3_come yX3_come, Cond.code yX3_come cX3_come 5 none, Cond.fieldLink RX3 20 "SlipLevelsModel" "levels" "[[[I", Cond.classLink RX3 19 "[I", Cond.methodLink RX3 43 arraycopyName, Cond.native arraycopyName, Cond.static arraycopyName, Cond.initialized "java/lang/System", Cond.methodLink RX3 7 yX3_empty, Cond.static yX3_empty, Cond.code yX3_empty cX3_empty 2 (some (.array .int))]
def wsX3_bind_r2 : List Cond := [Cond.arrayClass .int, Cond.methodLink RX3 63 yX3_settle, Cond.instanceMethod yX3_settle, Cond.selects RX3 yX3_settle yX3_settle, Cond.code yX3_settle cX3_settle 2 none, Cond.methodLink RX3 59 yX3_mergeOne, Cond.instanceMethod yX3_mergeOne, Cond.selects RX3 yX3_mergeOne yX3_mergeOne, Cond.code yX3_mergeOne cX3_mergeOne 5 none, Cond.methodLink RX3 49 Lib.Math.min.name, Cond.static Lib.Math.min.name, Cond.initialized "java/lang/Math", Cond.code Lib.Math.min.name Lib.Math.min.code 2 (some .int)]
def wsX3_bind : List Cond := .code yX3_bind cX3_bind 1 (some .int) :: ((wsX3_bind_r1 ++ wsX3_bind_r2) ++ wsX30)
def wsX3_merge_r1 : List Cond := [Cond.fieldLink RX3 27 "SlipLevelsModel" "thrown" "I", Cond.fieldLink RX3 20 "SlipLevelsModel" "levels" "[[[I", Cond.fieldLink RX3 24 "SlipLevelsModel" "numbers" "[I", Cond.methodLink RX3 35 yX3_isLevel, Cond.static yX3_isLevel, Cond.initialized RX3, Cond.code yX3_isLevel cX3_isLevel 1 (some .boolean), Cond.methodLink RX3 31 yX3_isIn, Cond.static yX3_isIn, Cond.code yX3_isIn cX3_isIn 3 (some .boolean), Cond.methodLink RX3 77 yX3_fail, Cond.instanceMethod yX3_fail, Cond.selects RX3 yX3_fail yX3_fail, Cond.code yX3_fail cX3_fail 2 (some .int), Cond.methodLink RX3 59 yX3_mergeOne, Cond.instanceMethod yX3_mergeOne, Cond.selects RX3 yX3_mergeOne yX3_mergeOne, Cond.code yX3_mergeOne cX3_mergeOne 5 none, Cond.classLink RX3 19 "[I", Cond.methodLink RX3 49 Lib.Math.min.name, Cond.static Lib.Math.min.name, Cond.initialized "java/lang/Math", Cond.code Lib.Math.min.name Lib.Math.min.code 2 (some .int), Cond.methodLink RX3 7 yX3_empty]
def wsX3_merge_r2 : List Cond := [Cond.static yX3_empty, Cond.code yX3_empty cX3_empty 2 (some (.array .int)), Cond.arrayClass .int, Cond.methodLink RX3 39 yX3_size, Cond.static yX3_size, Cond.code yX3_size cX3_size 6 (some .int), Cond.methodLink RX3 55 yX3_come, Cond.instanceMethod yX3_come, Cond.selects RX3 yX3_come yX3_come, Cond.code yX3_come cX3_come 5 none, Cond.methodLink RX3 43 arraycopyName, Cond.native arraycopyName, Cond.static arraycopyName, Cond.initialized "java/lang/System", Cond.methodLink RX3 63 yX3_settle, Cond.instanceMethod yX3_settle, Cond.selects RX3 yX3_settle yX3_settle, Cond.code yX3_settle cX3_settle 2 none]
def wsX3_merge : List Cond := .code yX3_merge cX3_merge 3 (some .int) :: ((wsX3_merge_r1 ++ wsX3_merge_r2) ++ wsX30)
def wsX3_setRoom_r1 : List Cond := [Cond.fieldLink RX3 27 "SlipLevelsModel" "thrown" "I", Cond.fieldLink RX3 24 "SlipLevelsModel" "numbers" "[I", Cond.fieldLink RX3 13 "SlipLevelsModel" "desk" "[I", Cond.methodLink RX3 31 yX3_isIn, Cond.static yX3_isIn, Cond.initialized RX3, Cond.code yX3_isIn cX3_isIn 3 (some .boolean), Cond.methodLink RX3 77 yX3_fail, Cond.instanceMethod yX3_fail, Cond.selects RX3 yX3_fail yX3_fail, Cond.code yX3_fail cX3_fail 2 (some .int), Cond.methodLink RX3 39 yX3_size, Cond.static yX3_size, Cond.code yX3_size cX3_size 6 (some .int), Cond.methodLink RX3 66 yX3_bound, Cond.instanceMethod yX3_bound, Cond.selects RX3 yX3_bound yX3_bound, Cond.code yX3_bound cX3_bound 2 (some .int), Cond.methodLink RX3 55 yX3_come, Cond.instanceMethod yX3_come, Cond.selects RX3 yX3_come yX3_come, Cond.code yX3_come cX3_come 5 none, Cond.fieldLink RX3 20 "SlipLevelsModel" "levels" "[[[I", Cond.classLink RX3 19 "[I"]
def wsX3_setRoom_r2 : List Cond := [Cond.methodLink RX3 43 arraycopyName, Cond.native arraycopyName, Cond.static arraycopyName, Cond.initialized "java/lang/System", Cond.methodLink RX3 7 yX3_empty, Cond.static yX3_empty, Cond.code yX3_empty cX3_empty 2 (some (.array .int)), Cond.arrayClass .int, Cond.methodLink RX3 63 yX3_settle, Cond.instanceMethod yX3_settle, Cond.selects RX3 yX3_settle yX3_settle, Cond.code yX3_settle cX3_settle 2 none, Cond.methodLink RX3 59 yX3_mergeOne, Cond.instanceMethod yX3_mergeOne, Cond.selects RX3 yX3_mergeOne yX3_mergeOne, Cond.code yX3_mergeOne cX3_mergeOne 5 none, Cond.methodLink RX3 49 Lib.Math.min.name, Cond.static Lib.Math.min.name, Cond.initialized "java/lang/Math", Cond.code Lib.Math.min.name Lib.Math.min.code 2 (some .int)]
def wsX3_setRoom : List Cond := .code yX3_setRoom cX3_setRoom 3 (some .int) :: ((wsX3_setRoom_r1 ++ wsX3_setRoom_r2) ++ wsX30)
def wsX3_said : List Cond := .code yX3_said cX3_said 10 (some .int) :: ([.fieldLink RX3 13 "SlipLevelsModel" "desk" "[I", .fieldLink RX3 20 "SlipLevelsModel" "levels" "[[[I"] ++ wsX30)
def wsX3_word : List Cond := .code yX3_word cX3_word 2 (some .int) :: ([.methodLink RX3 84 Lib.Math.max.name, .static Lib.Math.max.name, .initialized "java/lang/Math", .code Lib.Math.max.name Lib.Math.max.code 2 (some .int), .methodLink RX3 81 yX3_said, .instanceMethod yX3_said, .selects RX3 yX3_said yX3_said, .initialized RX3, .code yX3_said cX3_said 10 (some .int), .fieldLink RX3 13 "SlipLevelsModel" "desk" "[I", .fieldLink RX3 20 "SlipLevelsModel" "levels" "[[[I"] ++ wsX30)
def wsX3_opened : List Cond := .code yX3_opened cX3_opened 11 (some .int) :: ([.fieldLink RX3 13 "SlipLevelsModel" "desk" "[I", .fieldLink RX3 20 "SlipLevelsModel" "levels" "[[[I", .methodLink RX3 87 yX3_end, .static yX3_end, .initialized RX3, .code yX3_end cX3_end 4 (some .int), .methodLink RX3 91 yX3_isOpen, .static yX3_isOpen, .code yX3_isOpen cX3_isOpen 3 (some .boolean)] ++ wsX30)
def wsX3_read_r1 : List Cond := [Cond.fieldLink RX3 27 "SlipLevelsModel" "thrown" "I", Cond.fieldLink RX3 24 "SlipLevelsModel" "numbers" "[I", Cond.methodLink RX3 70 yX3_isNumber, Cond.static yX3_isNumber, Cond.initialized RX3, Cond.code yX3_isNumber cX3_isNumber 1 (some .boolean), Cond.methodLink RX3 31 yX3_isIn, Cond.static yX3_isIn, Cond.code yX3_isIn cX3_isIn 3 (some .boolean), Cond.methodLink RX3 77 yX3_fail, Cond.instanceMethod yX3_fail, Cond.selects RX3 yX3_fail yX3_fail, Cond.code yX3_fail cX3_fail 2 (some .int), Cond.methodLink RX3 95 yX3_opened, Cond.instanceMethod yX3_opened, Cond.selects RX3 yX3_opened yX3_opened, Cond.code yX3_opened cX3_opened 11 (some .int), Cond.fieldLink RX3 13 "SlipLevelsModel" "desk" "[I", Cond.fieldLink RX3 20 "SlipLevelsModel" "levels" "[[[I", Cond.methodLink RX3 87 yX3_end, Cond.static yX3_end, Cond.code yX3_end cX3_end 4 (some .int), Cond.methodLink RX3 91 yX3_isOpen, Cond.static yX3_isOpen]
def wsX3_read_r2 : List Cond := [Cond.code yX3_isOpen cX3_isOpen 3 (some .boolean), Cond.methodLink RX3 98 yX3_word, Cond.instanceMethod yX3_word, Cond.selects RX3 yX3_word yX3_word, Cond.code yX3_word cX3_word 2 (some .int), Cond.methodLink RX3 84 Lib.Math.max.name, Cond.static Lib.Math.max.name, Cond.initialized "java/lang/Math", Cond.code Lib.Math.max.name Lib.Math.max.code 2 (some .int), Cond.methodLink RX3 81 yX3_said, Cond.instanceMethod yX3_said, Cond.selects RX3 yX3_said yX3_said, Cond.code yX3_said cX3_said 10 (some .int)]
def wsX3_read : List Cond := .code yX3_read cX3_read 2 (some .int) :: ((wsX3_read_r1 ++ wsX3_read_r2) ++ wsX30)
def wsX3_detours : List Cond := .code yX3_detours cX3_detours 2 (some .int) :: ([.fieldLink RX3 27 "SlipLevelsModel" "thrown" "I", .methodLink RX3 70 yX3_isNumber, .static yX3_isNumber, .initialized RX3, .code yX3_isNumber cX3_isNumber 1 (some .boolean), .methodLink RX3 31 yX3_isIn, .static yX3_isIn, .code yX3_isIn cX3_isIn 3 (some .boolean), .methodLink RX3 95 yX3_opened, .instanceMethod yX3_opened, .selects RX3 yX3_opened yX3_opened, .code yX3_opened cX3_opened 11 (some .int), .fieldLink RX3 13 "SlipLevelsModel" "desk" "[I", .fieldLink RX3 20 "SlipLevelsModel" "levels" "[[[I", .methodLink RX3 87 yX3_end, .static yX3_end, .code yX3_end cX3_end 4 (some .int), .methodLink RX3 91 yX3_isOpen, .static yX3_isOpen, .code yX3_isOpen cX3_isOpen 3 (some .boolean), .methodLink RX3 77 yX3_fail, .instanceMethod yX3_fail, .selects RX3 yX3_fail yX3_fail, .code yX3_fail cX3_fail 2 (some .int)] ++ wsX30)
def wsX3_next_r1 : List Cond := [Cond.fieldLink RX3 27 "SlipLevelsModel" "thrown" "I", Cond.methodLink RX3 70 yX3_isNumber, Cond.static yX3_isNumber, Cond.initialized RX3, Cond.code yX3_isNumber cX3_isNumber 1 (some .boolean), Cond.methodLink RX3 31 yX3_isIn, Cond.static yX3_isIn, Cond.code yX3_isIn cX3_isIn 3 (some .boolean), Cond.methodLink RX3 77 yX3_fail, Cond.instanceMethod yX3_fail, Cond.selects RX3 yX3_fail yX3_fail, Cond.code yX3_fail cX3_fail 2 (some .int), Cond.methodLink RX3 98 yX3_word, Cond.instanceMethod yX3_word, Cond.selects RX3 yX3_word yX3_word, Cond.code yX3_word cX3_word 2 (some .int), Cond.methodLink RX3 84 Lib.Math.max.name, Cond.static Lib.Math.max.name, Cond.initialized "java/lang/Math", Cond.code Lib.Math.max.name Lib.Math.max.code 2 (some .int), Cond.methodLink RX3 81 yX3_said, Cond.instanceMethod yX3_said, Cond.selects RX3 yX3_said yX3_said, Cond.code yX3_said cX3_said 10 (some .int)]
def wsX3_next_r2 : List Cond := [Cond.fieldLink RX3 13 "SlipLevelsModel" "desk" "[I", Cond.fieldLink RX3 20 "SlipLevelsModel" "levels" "[[[I"]
def wsX3_next : List Cond := .code yX3_next cX3_next 3 (some .int) :: ((wsX3_next_r1 ++ wsX3_next_r2) ++ wsX30)
def wsX3_sum_r1 : List Cond := [Cond.fieldLink RX3 27 "SlipLevelsModel" "thrown" "I", Cond.methodLink RX3 84 Lib.Math.max.name, Cond.static Lib.Math.max.name, Cond.initialized "java/lang/Math", Cond.code Lib.Math.max.name Lib.Math.max.code 2 (some .int), Cond.methodLink RX3 70 yX3_isNumber, Cond.static yX3_isNumber, Cond.initialized RX3, Cond.code yX3_isNumber cX3_isNumber 1 (some .boolean), Cond.methodLink RX3 31 yX3_isIn, Cond.static yX3_isIn, Cond.code yX3_isIn cX3_isIn 3 (some .boolean), Cond.methodLink RX3 77 yX3_fail, Cond.instanceMethod yX3_fail, Cond.selects RX3 yX3_fail yX3_fail, Cond.code yX3_fail cX3_fail 2 (some .int), Cond.methodLink RX3 98 yX3_word, Cond.instanceMethod yX3_word, Cond.selects RX3 yX3_word yX3_word, Cond.code yX3_word cX3_word 2 (some .int), Cond.methodLink RX3 81 yX3_said, Cond.instanceMethod yX3_said, Cond.selects RX3 yX3_said yX3_said, Cond.code yX3_said cX3_said 10 (some .int)]
def wsX3_sum_r2 : List Cond := [Cond.fieldLink RX3 13 "SlipLevelsModel" "desk" "[I", Cond.fieldLink RX3 20 "SlipLevelsModel" "levels" "[[[I"]
def wsX3_sum : List Cond := .code yX3_sum cX3_sum 5 (some .int) :: ((wsX3_sum_r1 ++ wsX3_sum_r2) ++ wsX30)
def wsX3_standing : List Cond := .code yX3_standing cX3_standing 9 (some .int) :: ([.fieldLink RX3 20 "SlipLevelsModel" "levels" "[[[I", .fieldLink RX3 13 "SlipLevelsModel" "desk" "[I"] ++ wsX30)
def wsX3_runTold : List Cond := .code yX3_runTold cX3_runTold 7 (some .int) :: ([.fieldLink RX3 20 "SlipLevelsModel" "levels" "[[[I", .methodLink RX3 39 yX3_size, .static yX3_size, .initialized RX3, .code yX3_size cX3_size 6 (some .int), .methodLink RX3 87 yX3_end, .static yX3_end, .code yX3_end cX3_end 4 (some .int), .methodLink RX3 91 yX3_isOpen, .static yX3_isOpen, .code yX3_isOpen cX3_isOpen 3 (some .boolean), .methodLink RX3 101 yX3_tombs, .static yX3_tombs, .code yX3_tombs cX3_tombs 6 (some .int), .methodLink RX3 104 yX3_standing, .instanceMethod yX3_standing, .selects RX3 yX3_standing yX3_standing, .code yX3_standing cX3_standing 9 (some .int), .fieldLink RX3 13 "SlipLevelsModel" "desk" "[I"] ++ wsX30)
def wsX3_run_r1 : List Cond := [Cond.fieldLink RX3 27 "SlipLevelsModel" "thrown" "I", Cond.methodLink RX3 107 yX3_isRun, Cond.instanceMethod yX3_isRun, Cond.selects RX3 yX3_isRun yX3_isRun, Cond.initialized RX3, Cond.code yX3_isRun cX3_isRun 3 (some .boolean), Cond.fieldLink RX3 20 "SlipLevelsModel" "levels" "[[[I", Cond.methodLink RX3 35 yX3_isLevel, Cond.static yX3_isLevel, Cond.code yX3_isLevel cX3_isLevel 1 (some .boolean), Cond.methodLink RX3 31 yX3_isIn, Cond.static yX3_isIn, Cond.code yX3_isIn cX3_isIn 3 (some .boolean), Cond.methodLink RX3 110 yX3_runTold, Cond.instanceMethod yX3_runTold, Cond.selects RX3 yX3_runTold yX3_runTold, Cond.code yX3_runTold cX3_runTold 7 (some .int), Cond.methodLink RX3 39 yX3_size, Cond.static yX3_size, Cond.code yX3_size cX3_size 6 (some .int), Cond.methodLink RX3 87 yX3_end, Cond.static yX3_end, Cond.code yX3_end cX3_end 4 (some .int), Cond.methodLink RX3 91 yX3_isOpen]
def wsX3_run_r2 : List Cond := [Cond.static yX3_isOpen, Cond.code yX3_isOpen cX3_isOpen 3 (some .boolean), Cond.methodLink RX3 101 yX3_tombs, Cond.static yX3_tombs, Cond.code yX3_tombs cX3_tombs 6 (some .int), Cond.methodLink RX3 104 yX3_standing, Cond.instanceMethod yX3_standing, Cond.selects RX3 yX3_standing yX3_standing, Cond.code yX3_standing cX3_standing 9 (some .int), Cond.fieldLink RX3 13 "SlipLevelsModel" "desk" "[I", Cond.methodLink RX3 77 yX3_fail, Cond.instanceMethod yX3_fail, Cond.selects RX3 yX3_fail yX3_fail, Cond.code yX3_fail cX3_fail 2 (some .int)]
def wsX3_run : List Cond := .code yX3_run cX3_run 4 (some .int) :: ((wsX3_run_r1 ++ wsX3_run_r2) ++ wsX30)
def wsX3_slipTold : List Cond := .code yX3_slipTold cX3_slipTold 4 (some .int) :: ([.methodLink RX3 87 yX3_end, .static yX3_end, .initialized RX3, .code yX3_end cX3_end 4 (some .int)])
def wsX3_slip_r1 : List Cond := [Cond.fieldLink RX3 27 "SlipLevelsModel" "thrown" "I", Cond.fieldLink RX3 20 "SlipLevelsModel" "levels" "[[[I", Cond.methodLink RX3 107 yX3_isRun, Cond.instanceMethod yX3_isRun, Cond.selects RX3 yX3_isRun yX3_isRun, Cond.initialized RX3, Cond.code yX3_isRun cX3_isRun 3 (some .boolean), Cond.methodLink RX3 35 yX3_isLevel, Cond.static yX3_isLevel, Cond.code yX3_isLevel cX3_isLevel 1 (some .boolean), Cond.methodLink RX3 31 yX3_isIn, Cond.static yX3_isIn, Cond.code yX3_isIn cX3_isIn 3 (some .boolean), Cond.methodLink RX3 39 yX3_size, Cond.static yX3_size, Cond.code yX3_size cX3_size 6 (some .int), Cond.methodLink RX3 114 yX3_slipTold, Cond.static yX3_slipTold, Cond.code yX3_slipTold cX3_slipTold 4 (some .int), Cond.methodLink RX3 87 yX3_end, Cond.static yX3_end, Cond.code yX3_end cX3_end 4 (some .int), Cond.methodLink RX3 77 yX3_fail, Cond.instanceMethod yX3_fail]
def wsX3_slip_r2 : List Cond := [Cond.selects RX3 yX3_fail yX3_fail, Cond.code yX3_fail cX3_fail 2 (some .int)]
def wsX3_slip : List Cond := .code yX3_slip cX3_slip 4 (some .int) :: ((wsX3_slip_r1 ++ wsX3_slip_r2) ++ wsX30)
def wsX3_desk : List Cond := .code yX3_desk cX3_desk 2 (some .int) :: ([.fieldLink RX3 27 "SlipLevelsModel" "thrown" "I", .fieldLink RX3 13 "SlipLevelsModel" "desk" "[I", .methodLink RX3 39 yX3_size, .static yX3_size, .initialized RX3, .code yX3_size cX3_size 6 (some .int), .methodLink RX3 31 yX3_isIn, .static yX3_isIn, .code yX3_isIn cX3_isIn 3 (some .boolean), .methodLink RX3 114 yX3_slipTold, .static yX3_slipTold, .code yX3_slipTold cX3_slipTold 4 (some .int), .methodLink RX3 87 yX3_end, .static yX3_end, .code yX3_end cX3_end 4 (some .int), .methodLink RX3 77 yX3_fail, .instanceMethod yX3_fail, .selects RX3 yX3_fail yX3_fail, .code yX3_fail cX3_fail 2 (some .int)] ++ wsX30)
def wsX3_levelTold : List Cond := .code yX3_levelTold cX3_levelTold 8 (some .int) :: ([.fieldLink RX3 20 "SlipLevelsModel" "levels" "[[[I", .methodLink RX3 39 yX3_size, .static yX3_size, .initialized RX3, .code yX3_size cX3_size 6 (some .int), .methodLink RX3 101 yX3_tombs, .static yX3_tombs, .code yX3_tombs cX3_tombs 6 (some .int)] ++ wsX30)
def wsX3_level : List Cond := .code yX3_level cX3_level 3 (some .int) :: ([.fieldLink RX3 27 "SlipLevelsModel" "thrown" "I", .methodLink RX3 35 yX3_isLevel, .static yX3_isLevel, .initialized RX3, .code yX3_isLevel cX3_isLevel 1 (some .boolean), .methodLink RX3 31 yX3_isIn, .static yX3_isIn, .code yX3_isIn cX3_isIn 3 (some .boolean), .methodLink RX3 118 yX3_levelTold, .instanceMethod yX3_levelTold, .selects RX3 yX3_levelTold yX3_levelTold, .code yX3_levelTold cX3_levelTold 8 (some .int), .fieldLink RX3 20 "SlipLevelsModel" "levels" "[[[I", .methodLink RX3 39 yX3_size, .static yX3_size, .code yX3_size cX3_size 6 (some .int), .methodLink RX3 101 yX3_tombs, .static yX3_tombs, .code yX3_tombs cX3_tombs 6 (some .int), .methodLink RX3 77 yX3_fail, .instanceMethod yX3_fail, .selects RX3 yX3_fail yX3_fail, .code yX3_fail cX3_fail 2 (some .int)] ++ wsX30)
def wsX3_slips : List Cond := .code yX3_slips cX3_slips 3 (some .int) :: ([.methodLink RX3 118 yX3_levelTold, .instanceMethod yX3_levelTold, .selects RX3 yX3_levelTold yX3_levelTold, .initialized RX3, .code yX3_levelTold cX3_levelTold 8 (some .int), .fieldLink RX3 20 "SlipLevelsModel" "levels" "[[[I", .methodLink RX3 39 yX3_size, .static yX3_size, .code yX3_size cX3_size 6 (some .int), .methodLink RX3 101 yX3_tombs, .static yX3_tombs, .code yX3_tombs cX3_tombs 6 (some .int)] ++ wsX30)
def wsX3_counted_r1 : List Cond := [Cond.fieldLink RX3 13 "SlipLevelsModel" "desk" "[I", Cond.fieldLink RX3 24 "SlipLevelsModel" "numbers" "[I", Cond.methodLink RX3 39 yX3_size, Cond.static yX3_size, Cond.initialized RX3, Cond.code yX3_size cX3_size 6 (some .int), Cond.methodLink RX3 121 yX3_slips, Cond.instanceMethod yX3_slips, Cond.selects RX3 yX3_slips yX3_slips, Cond.code yX3_slips cX3_slips 3 (some .int), Cond.methodLink RX3 118 yX3_levelTold, Cond.instanceMethod yX3_levelTold, Cond.selects RX3 yX3_levelTold yX3_levelTold, Cond.code yX3_levelTold cX3_levelTold 8 (some .int), Cond.fieldLink RX3 20 "SlipLevelsModel" "levels" "[[[I", Cond.methodLink RX3 101 yX3_tombs, Cond.static yX3_tombs, Cond.code yX3_tombs cX3_tombs 6 (some .int), Cond.methodLink RX3 98 yX3_word, Cond.instanceMethod yX3_word, Cond.selects RX3 yX3_word yX3_word, Cond.code yX3_word cX3_word 2 (some .int), Cond.methodLink RX3 84 Lib.Math.max.name, Cond.static Lib.Math.max.name]
def wsX3_counted_r2 : List Cond := [Cond.initialized "java/lang/Math", Cond.code Lib.Math.max.name Lib.Math.max.code 2 (some .int), Cond.methodLink RX3 81 yX3_said, Cond.instanceMethod yX3_said, Cond.selects RX3 yX3_said yX3_said, Cond.code yX3_said cX3_said 10 (some .int)]
def wsX3_counted : List Cond := .code yX3_counted cX3_counted 4 (some .int) :: ((wsX3_counted_r1 ++ wsX3_counted_r2) ++ wsX30)
def wsX3_count_r1 : List Cond := [Cond.fieldLink RX3 27 "SlipLevelsModel" "thrown" "I", Cond.methodLink RX3 31 yX3_isIn, Cond.static yX3_isIn, Cond.initialized RX3, Cond.code yX3_isIn cX3_isIn 3 (some .boolean), Cond.methodLink RX3 124 yX3_counted, Cond.instanceMethod yX3_counted, Cond.selects RX3 yX3_counted yX3_counted, Cond.code yX3_counted cX3_counted 4 (some .int), Cond.fieldLink RX3 13 "SlipLevelsModel" "desk" "[I", Cond.fieldLink RX3 24 "SlipLevelsModel" "numbers" "[I", Cond.methodLink RX3 39 yX3_size, Cond.static yX3_size, Cond.code yX3_size cX3_size 6 (some .int), Cond.methodLink RX3 121 yX3_slips, Cond.instanceMethod yX3_slips, Cond.selects RX3 yX3_slips yX3_slips, Cond.code yX3_slips cX3_slips 3 (some .int), Cond.methodLink RX3 118 yX3_levelTold, Cond.instanceMethod yX3_levelTold, Cond.selects RX3 yX3_levelTold yX3_levelTold, Cond.code yX3_levelTold cX3_levelTold 8 (some .int), Cond.fieldLink RX3 20 "SlipLevelsModel" "levels" "[[[I", Cond.methodLink RX3 101 yX3_tombs]
def wsX3_count_r2 : List Cond := [Cond.static yX3_tombs, Cond.code yX3_tombs cX3_tombs 6 (some .int), Cond.methodLink RX3 98 yX3_word, Cond.instanceMethod yX3_word, Cond.selects RX3 yX3_word yX3_word, Cond.code yX3_word cX3_word 2 (some .int), Cond.methodLink RX3 84 Lib.Math.max.name, Cond.static Lib.Math.max.name, Cond.initialized "java/lang/Math", Cond.code Lib.Math.max.name Lib.Math.max.code 2 (some .int), Cond.methodLink RX3 81 yX3_said, Cond.instanceMethod yX3_said, Cond.selects RX3 yX3_said yX3_said, Cond.code yX3_said cX3_said 10 (some .int), Cond.methodLink RX3 77 yX3_fail, Cond.instanceMethod yX3_fail, Cond.selects RX3 yX3_fail yX3_fail, Cond.code yX3_fail cX3_fail 2 (some .int)]
def wsX3_count : List Cond := .code yX3_count cX3_count 2 (some .int) :: ((wsX3_count_r1 ++ wsX3_count_r2) ++ wsX30)
def wsX3_allOpened : List Cond := .code yX3_allOpened cX3_allOpened 3 (some .int) :: ([.methodLink RX3 95 yX3_opened, .instanceMethod yX3_opened, .selects RX3 yX3_opened yX3_opened, .initialized RX3, .code yX3_opened cX3_opened 11 (some .int), .fieldLink RX3 13 "SlipLevelsModel" "desk" "[I", .fieldLink RX3 20 "SlipLevelsModel" "levels" "[[[I", .methodLink RX3 87 yX3_end, .static yX3_end, .code yX3_end cX3_end 4 (some .int), .methodLink RX3 91 yX3_isOpen, .static yX3_isOpen, .code yX3_isOpen cX3_isOpen 3 (some .boolean)] ++ wsX30)
def wsX3_tried_r1 : List Cond := [Cond.fieldLink RX3 20 "SlipLevelsModel" "levels" "[[[I", Cond.classLink RX3 128 "[[[I", Cond.fieldLink RX3 24 "SlipLevelsModel" "numbers" "[I", Cond.methodLink RX3 132 ⟨"[I", "clone", "()Ljava/lang/Object;"⟩, Cond.sameMethod "[I" "java/lang/Object" "clone" "()Ljava/lang/Object;", Cond.native ⟨"java/lang/Object", "clone", "()Ljava/lang/Object;"⟩, Cond.instanceMethod ⟨"java/lang/Object", "clone", "()Ljava/lang/Object;"⟩, Cond.selects "[I" ⟨"[I", "clone", "()Ljava/lang/Object;"⟩ ⟨"java/lang/Object", "clone", "()Ljava/lang/Object;"⟩, Cond.classLink RX3 19 "[I", Cond.methodLink RX3 59 yX3_mergeOne, Cond.instanceMethod yX3_mergeOne, Cond.selects RX3 yX3_mergeOne yX3_mergeOne, Cond.initialized RX3, Cond.code yX3_mergeOne cX3_mergeOne 5 none, Cond.methodLink RX3 49 Lib.Math.min.name, Cond.static Lib.Math.min.name, Cond.initialized "java/lang/Math", Cond.code Lib.Math.min.name Lib.Math.min.code 2 (some .int), Cond.methodLink RX3 7 yX3_empty, Cond.static yX3_empty, Cond.code yX3_empty cX3_empty 2 (some (.array .int)), Cond.arrayClass .int, Cond.methodLink RX3 39 yX3_size, Cond.static yX3_size]
def wsX3_tried_r2 : List Cond := [Cond.code yX3_size cX3_size 6 (some .int), Cond.methodLink RX3 55 yX3_come, Cond.instanceMethod yX3_come, Cond.selects RX3 yX3_come yX3_come, Cond.code yX3_come cX3_come 5 none, Cond.methodLink RX3 43 arraycopyName, Cond.native arraycopyName, Cond.static arraycopyName, Cond.initialized "java/lang/System", Cond.methodLink RX3 63 yX3_settle, Cond.instanceMethod yX3_settle, Cond.selects RX3 yX3_settle yX3_settle, Cond.code yX3_settle cX3_settle 2 none, Cond.methodLink RX3 121 yX3_slips, Cond.instanceMethod yX3_slips, Cond.selects RX3 yX3_slips yX3_slips, Cond.code yX3_slips cX3_slips 3 (some .int), Cond.methodLink RX3 118 yX3_levelTold, Cond.instanceMethod yX3_levelTold, Cond.selects RX3 yX3_levelTold yX3_levelTold, Cond.code yX3_levelTold cX3_levelTold 8 (some .int), Cond.methodLink RX3 101 yX3_tombs, Cond.static yX3_tombs, Cond.code yX3_tombs cX3_tombs 6 (some .int)]
def wsX3_tried_r3 : List Cond := [Cond.methodLink RX3 133 yX3_allOpened, Cond.instanceMethod yX3_allOpened, Cond.selects RX3 yX3_allOpened yX3_allOpened, Cond.code yX3_allOpened cX3_allOpened 3 (some .int), Cond.methodLink RX3 95 yX3_opened, Cond.instanceMethod yX3_opened, Cond.selects RX3 yX3_opened yX3_opened, Cond.code yX3_opened cX3_opened 11 (some .int), Cond.fieldLink RX3 13 "SlipLevelsModel" "desk" "[I", Cond.methodLink RX3 87 yX3_end, Cond.static yX3_end, Cond.code yX3_end cX3_end 4 (some .int), Cond.methodLink RX3 91 yX3_isOpen, Cond.static yX3_isOpen, Cond.code yX3_isOpen cX3_isOpen 3 (some .boolean)]
def wsX3_tried : List Cond := .code yX3_tried cX3_tried 6 (some .int) :: ((wsX3_tried_r1 ++ (wsX3_tried_r2 ++ wsX3_tried_r3)) ++ wsX30)
def wsX3_spares_r1 : List Cond := [Cond.fieldLink RX3 27 "SlipLevelsModel" "thrown" "I", Cond.fieldLink RX3 20 "SlipLevelsModel" "levels" "[[[I", Cond.methodLink RX3 35 yX3_isLevel, Cond.static yX3_isLevel, Cond.initialized RX3, Cond.code yX3_isLevel cX3_isLevel 1 (some .boolean), Cond.methodLink RX3 31 yX3_isIn, Cond.static yX3_isIn, Cond.code yX3_isIn cX3_isIn 3 (some .boolean), Cond.methodLink RX3 77 yX3_fail, Cond.instanceMethod yX3_fail, Cond.selects RX3 yX3_fail yX3_fail, Cond.code yX3_fail cX3_fail 2 (some .int), Cond.methodLink RX3 121 yX3_slips, Cond.instanceMethod yX3_slips, Cond.selects RX3 yX3_slips yX3_slips, Cond.code yX3_slips cX3_slips 3 (some .int), Cond.methodLink RX3 118 yX3_levelTold, Cond.instanceMethod yX3_levelTold, Cond.selects RX3 yX3_levelTold yX3_levelTold, Cond.code yX3_levelTold cX3_levelTold 8 (some .int), Cond.methodLink RX3 39 yX3_size, Cond.static yX3_size, Cond.code yX3_size cX3_size 6 (some .int)]
def wsX3_spares_r2 : List Cond := [Cond.methodLink RX3 101 yX3_tombs, Cond.static yX3_tombs, Cond.code yX3_tombs cX3_tombs 6 (some .int), Cond.methodLink RX3 136 yX3_tried, Cond.instanceMethod yX3_tried, Cond.selects RX3 yX3_tried yX3_tried, Cond.code yX3_tried cX3_tried 6 (some .int), Cond.classLink RX3 128 "[[[I", Cond.fieldLink RX3 24 "SlipLevelsModel" "numbers" "[I", Cond.methodLink RX3 132 ⟨"[I", "clone", "()Ljava/lang/Object;"⟩, Cond.sameMethod "[I" "java/lang/Object" "clone" "()Ljava/lang/Object;", Cond.native ⟨"java/lang/Object", "clone", "()Ljava/lang/Object;"⟩, Cond.instanceMethod ⟨"java/lang/Object", "clone", "()Ljava/lang/Object;"⟩, Cond.selects "[I" ⟨"[I", "clone", "()Ljava/lang/Object;"⟩ ⟨"java/lang/Object", "clone", "()Ljava/lang/Object;"⟩, Cond.classLink RX3 19 "[I", Cond.methodLink RX3 59 yX3_mergeOne, Cond.instanceMethod yX3_mergeOne, Cond.selects RX3 yX3_mergeOne yX3_mergeOne, Cond.code yX3_mergeOne cX3_mergeOne 5 none, Cond.methodLink RX3 49 Lib.Math.min.name, Cond.static Lib.Math.min.name, Cond.initialized "java/lang/Math", Cond.code Lib.Math.min.name Lib.Math.min.code 2 (some .int), Cond.methodLink RX3 7 yX3_empty]
def wsX3_spares_r3 : List Cond := [Cond.static yX3_empty, Cond.code yX3_empty cX3_empty 2 (some (.array .int)), Cond.arrayClass .int, Cond.methodLink RX3 55 yX3_come, Cond.instanceMethod yX3_come, Cond.selects RX3 yX3_come yX3_come, Cond.code yX3_come cX3_come 5 none, Cond.methodLink RX3 43 arraycopyName, Cond.native arraycopyName, Cond.static arraycopyName, Cond.initialized "java/lang/System", Cond.methodLink RX3 63 yX3_settle, Cond.instanceMethod yX3_settle, Cond.selects RX3 yX3_settle yX3_settle, Cond.code yX3_settle cX3_settle 2 none, Cond.methodLink RX3 133 yX3_allOpened, Cond.instanceMethod yX3_allOpened, Cond.selects RX3 yX3_allOpened yX3_allOpened, Cond.code yX3_allOpened cX3_allOpened 3 (some .int), Cond.methodLink RX3 95 yX3_opened, Cond.instanceMethod yX3_opened, Cond.selects RX3 yX3_opened yX3_opened, Cond.code yX3_opened cX3_opened 11 (some .int), Cond.fieldLink RX3 13 "SlipLevelsModel" "desk" "[I"]
def wsX3_spares_r4 : List Cond := [Cond.methodLink RX3 87 yX3_end, Cond.static yX3_end, Cond.code yX3_end cX3_end 4 (some .int), Cond.methodLink RX3 91 yX3_isOpen, Cond.static yX3_isOpen, Cond.code yX3_isOpen cX3_isOpen 3 (some .boolean)]
def wsX3_spares : List Cond := .code yX3_spares cX3_spares 2 (some .int) :: ((wsX3_spares_r1 ++ (wsX3_spares_r2 ++ (wsX3_spares_r3 ++ wsX3_spares_r4))) ++ wsX30)
def wsX3_advise_r1 : List Cond := [Cond.fieldLink RX3 27 "SlipLevelsModel" "thrown" "I", Cond.fieldLink RX3 20 "SlipLevelsModel" "levels" "[[[I", Cond.methodLink RX3 136 yX3_tried, Cond.instanceMethod yX3_tried, Cond.selects RX3 yX3_tried yX3_tried, Cond.initialized RX3, Cond.code yX3_tried cX3_tried 6 (some .int), Cond.classLink RX3 128 "[[[I", Cond.fieldLink RX3 24 "SlipLevelsModel" "numbers" "[I", Cond.methodLink RX3 132 ⟨"[I", "clone", "()Ljava/lang/Object;"⟩, Cond.sameMethod "[I" "java/lang/Object" "clone" "()Ljava/lang/Object;", Cond.native ⟨"java/lang/Object", "clone", "()Ljava/lang/Object;"⟩, Cond.instanceMethod ⟨"java/lang/Object", "clone", "()Ljava/lang/Object;"⟩, Cond.selects "[I" ⟨"[I", "clone", "()Ljava/lang/Object;"⟩ ⟨"java/lang/Object", "clone", "()Ljava/lang/Object;"⟩, Cond.classLink RX3 19 "[I", Cond.methodLink RX3 59 yX3_mergeOne, Cond.instanceMethod yX3_mergeOne, Cond.selects RX3 yX3_mergeOne yX3_mergeOne, Cond.code yX3_mergeOne cX3_mergeOne 5 none, Cond.methodLink RX3 49 Lib.Math.min.name, Cond.static Lib.Math.min.name, Cond.initialized "java/lang/Math", Cond.code Lib.Math.min.name Lib.Math.min.code 2 (some .int), Cond.methodLink RX3 7 yX3_empty]
def wsX3_advise_r2 : List Cond := [Cond.static yX3_empty, Cond.code yX3_empty cX3_empty 2 (some (.array .int)), Cond.arrayClass .int, Cond.methodLink RX3 39 yX3_size, Cond.static yX3_size, Cond.code yX3_size cX3_size 6 (some .int), Cond.methodLink RX3 55 yX3_come, Cond.instanceMethod yX3_come, Cond.selects RX3 yX3_come yX3_come, Cond.code yX3_come cX3_come 5 none, Cond.methodLink RX3 43 arraycopyName, Cond.native arraycopyName, Cond.static arraycopyName, Cond.initialized "java/lang/System", Cond.methodLink RX3 63 yX3_settle, Cond.instanceMethod yX3_settle, Cond.selects RX3 yX3_settle yX3_settle, Cond.code yX3_settle cX3_settle 2 none, Cond.methodLink RX3 121 yX3_slips, Cond.instanceMethod yX3_slips, Cond.selects RX3 yX3_slips yX3_slips, Cond.code yX3_slips cX3_slips 3 (some .int), Cond.methodLink RX3 118 yX3_levelTold, Cond.instanceMethod yX3_levelTold]
def wsX3_advise_r3 : List Cond := [Cond.selects RX3 yX3_levelTold yX3_levelTold, Cond.code yX3_levelTold cX3_levelTold 8 (some .int), Cond.methodLink RX3 101 yX3_tombs, Cond.static yX3_tombs, Cond.code yX3_tombs cX3_tombs 6 (some .int), Cond.methodLink RX3 133 yX3_allOpened, Cond.instanceMethod yX3_allOpened, Cond.selects RX3 yX3_allOpened yX3_allOpened, Cond.code yX3_allOpened cX3_allOpened 3 (some .int), Cond.methodLink RX3 95 yX3_opened, Cond.instanceMethod yX3_opened, Cond.selects RX3 yX3_opened yX3_opened, Cond.code yX3_opened cX3_opened 11 (some .int), Cond.fieldLink RX3 13 "SlipLevelsModel" "desk" "[I", Cond.methodLink RX3 87 yX3_end, Cond.static yX3_end, Cond.code yX3_end cX3_end 4 (some .int), Cond.methodLink RX3 91 yX3_isOpen, Cond.static yX3_isOpen, Cond.code yX3_isOpen cX3_isOpen 3 (some .boolean)]
def wsX3_advise : List Cond := .code yX3_advise cX3_advise 5 (some .int) :: ((wsX3_advise_r1 ++ (wsX3_advise_r2 ++ wsX3_advise_r3)) ++ wsX30)
def wsX3_mean : List Cond := .code yX3_mean cX3_mean 1 (some .double) :: ([.fieldLink RX3 27 "SlipLevelsModel" "thrown" "I", .constantDouble RX3 140 (4634204016564240384), .methodLink RX3 133 yX3_allOpened, .instanceMethod yX3_allOpened, .selects RX3 yX3_allOpened yX3_allOpened, .initialized RX3, .code yX3_allOpened cX3_allOpened 3 (some .int), .methodLink RX3 95 yX3_opened, .instanceMethod yX3_opened, .selects RX3 yX3_opened yX3_opened, .code yX3_opened cX3_opened 11 (some .int), .fieldLink RX3 13 "SlipLevelsModel" "desk" "[I", .fieldLink RX3 20 "SlipLevelsModel" "levels" "[[[I", .methodLink RX3 87 yX3_end, .static yX3_end, .code yX3_end cX3_end 4 (some .int), .methodLink RX3 91 yX3_isOpen, .static yX3_isOpen, .code yX3_isOpen cX3_isOpen 3 (some .boolean)] ++ wsX30)
def wsX3_digest_r1 : List Cond := [Cond.fieldLink RX3 27 "SlipLevelsModel" "thrown" "I", Cond.constantLong RX3 142 (1493), Cond.constantLong RX3 144 (31), Cond.fieldLink RX3 13 "SlipLevelsModel" "desk" "[I", Cond.fieldLink RX3 20 "SlipLevelsModel" "levels" "[[[I", Cond.methodLink RX3 124 yX3_counted, Cond.instanceMethod yX3_counted, Cond.selects RX3 yX3_counted yX3_counted, Cond.initialized RX3, Cond.code yX3_counted cX3_counted 4 (some .int), Cond.fieldLink RX3 24 "SlipLevelsModel" "numbers" "[I", Cond.methodLink RX3 39 yX3_size, Cond.static yX3_size, Cond.code yX3_size cX3_size 6 (some .int), Cond.methodLink RX3 121 yX3_slips, Cond.instanceMethod yX3_slips, Cond.selects RX3 yX3_slips yX3_slips, Cond.code yX3_slips cX3_slips 3 (some .int), Cond.methodLink RX3 118 yX3_levelTold, Cond.instanceMethod yX3_levelTold, Cond.selects RX3 yX3_levelTold yX3_levelTold, Cond.code yX3_levelTold cX3_levelTold 8 (some .int), Cond.methodLink RX3 101 yX3_tombs, Cond.static yX3_tombs]
def wsX3_digest_r2 : List Cond := [Cond.code yX3_tombs cX3_tombs 6 (some .int), Cond.methodLink RX3 98 yX3_word, Cond.instanceMethod yX3_word, Cond.selects RX3 yX3_word yX3_word, Cond.code yX3_word cX3_word 2 (some .int), Cond.methodLink RX3 84 Lib.Math.max.name, Cond.static Lib.Math.max.name, Cond.initialized "java/lang/Math", Cond.code Lib.Math.max.name Lib.Math.max.code 2 (some .int), Cond.methodLink RX3 81 yX3_said, Cond.instanceMethod yX3_said, Cond.selects RX3 yX3_said yX3_said, Cond.code yX3_said cX3_said 10 (some .int), Cond.methodLink RX3 114 yX3_slipTold, Cond.static yX3_slipTold, Cond.code yX3_slipTold cX3_slipTold 4 (some .int), Cond.methodLink RX3 87 yX3_end, Cond.static yX3_end, Cond.code yX3_end cX3_end 4 (some .int), Cond.methodLink RX3 110 yX3_runTold, Cond.instanceMethod yX3_runTold, Cond.selects RX3 yX3_runTold yX3_runTold, Cond.code yX3_runTold cX3_runTold 7 (some .int), Cond.methodLink RX3 91 yX3_isOpen]
def wsX3_digest_r3 : List Cond := [Cond.static yX3_isOpen, Cond.code yX3_isOpen cX3_isOpen 3 (some .boolean), Cond.methodLink RX3 104 yX3_standing, Cond.instanceMethod yX3_standing, Cond.selects RX3 yX3_standing yX3_standing, Cond.code yX3_standing cX3_standing 9 (some .int)]
def wsX3_digest : List Cond := .code yX3_digest cX3_digest 6 (some .long) :: ((wsX3_digest_r1 ++ (wsX3_digest_r2 ++ wsX3_digest_r3)) ++ wsX30)
def wsJ9_max_7cf53 : List Cond := .code yJ9_max_7cf53 cJ9_max_7cf53 2 (some .int) :: ([])
def wsJ9_min_7cf53 : List Cond := .code yJ9_min_7cf53 cJ9_min_7cf53 2 (some .int) :: ([])
def wsL_write_r1 : List Cond := [Cond.classLink RL 13 "java/lang/IndexOutOfBoundsException", Cond.classLink RL 15 "java/lang/IllegalArgumentException", Cond.methodLink RL 7 yX2_write, Cond.instanceMethod yX2_write, Cond.selects RX2 yX2_write yX2_write, Cond.initialized RX2, Cond.code yX2_write cX2_write 3 (some .boolean), Cond.classLink RX2 37 "java/lang/IllegalArgumentException", Cond.initialized "java/lang/IllegalArgumentException", Cond.fieldLink RX2 10 "SlipLevels" "deskSlips" "LSlipLevels$Slips;", Cond.fieldLink RX2 26 "SlipLevels" "deskRoom" "I", Cond.methodLink RX2 33 yX2_needNumber, Cond.static yX2_needNumber, Cond.code yX2_needNumber cX2_needNumber 1 none, Cond.classLink RX2 94 "java/lang/IndexOutOfBoundsException", Cond.initialized "java/lang/IndexOutOfBoundsException", Cond.methodLink RX2 44 yX1_put, Cond.instanceMethod yX1_put, Cond.selects RX1 yX1_put yX1_put, Cond.initialized RX1, Cond.code yX1_put cX1_put 4 none, Cond.fieldLink RX1 9 "SlipLevels$Slips" "words" "[I", Cond.fieldLink RX1 24 "SlipLevels$Slips" "size" "I", Cond.fieldLink RX1 28 "SlipLevels$Slips" "tombs" "I"]
def wsL_write_r2 : List Cond := [Cond.fieldLink RX1 31 "SlipLevels$Slips" "least" "I", Cond.methodLink RX1 46 Lib.Math.min.name, Cond.static Lib.Math.min.name, Cond.initialized "java/lang/Math", Cond.code Lib.Math.min.name Lib.Math.min.code 2 (some .int), Cond.fieldLink RX1 34 "SlipLevels$Slips" "greatest" "I", Cond.methodLink RX1 52 Lib.Math.max.name, Cond.static Lib.Math.max.name, Cond.code Lib.Math.max.name Lib.Math.max.code 2 (some .int), Cond.fieldLink RX1 37 "SlipLevels$Slips" "sieve" "I", Cond.methodLink RX2 48 yX2_bindFrom, Cond.instanceMethod yX2_bindFrom, Cond.selects RX2 yX2_bindFrom yX2_bindFrom, Cond.code yX2_bindFrom cX2_bindFrom 3 (some .int), Cond.fieldLink RX2 19 "SlipLevels" "binder" "LSlipLevels$Binder;", Cond.methodLink RX2 160 yX1_size, Cond.instanceMethod yX1_size, Cond.selects RX1 yX1_size yX1_size, Cond.code yX1_size cX1_size 1 (some .int), Cond.methodLink RX2 63 yX0_moves, Cond.instanceMethod yX0_moves, Cond.selects RX0 yX0_moves yX0_moves, Cond.initialized RX0, Cond.code yX0_moves cX0_moves 1 (some .int)]
def wsL_write_r3 : List Cond := [Cond.fieldLink RX0 26 "SlipLevels$Binder" "moves" "I", Cond.methodLink RX2 163 yX0_addRun, Cond.instanceMethod yX0_addRun, Cond.selects RX0 yX0_addRun yX0_addRun, Cond.code yX0_addRun cX0_addRun 4 none, Cond.fieldLink RX0 17 "SlipLevels$Binder" "runs" "[I", Cond.methodLink RX0 33 yX0_runsOf, Cond.instanceMethod yX0_runsOf, Cond.selects RX0 yX0_runsOf yX0_runsOf, Cond.code yX0_runsOf cX0_runsOf 2 (some .int), Cond.methodLink RX0 92 yX0_rowAt, Cond.instanceMethod yX0_rowAt, Cond.selects RX0 yX0_rowAt yX0_rowAt, Cond.code yX0_rowAt cX0_rowAt 3 (some (.object "SlipLevels$Slips")), Cond.fieldLink RX0 11 "SlipLevels$Binder" "rows" "[LSlipLevels$Slips;", Cond.methodLink RX0 41 yX1_size, Cond.methodLink RX0 95 yX1_copy, Cond.instanceMethod yX1_copy, Cond.selects RX1 yX1_copy yX1_copy, Cond.code yX1_copy cX1_copy 2 none, Cond.methodLink RX1 40 arraycopyName, Cond.native arraycopyName, Cond.static arraycopyName, Cond.initialized "java/lang/System"]
def wsL_write_r4 : List Cond := [Cond.methodLink RX2 167 yX1_clear, Cond.instanceMethod yX1_clear, Cond.selects RX1 yX1_clear yX1_clear, Cond.code yX1_clear cX1_clear 1 none, Cond.methodLink RX1 18 yJ7_fill_53178, Cond.static yJ7_fill_53178, Cond.initialized RJ7, Cond.code yJ7_fill_53178 cJ7_fill_53178 4 none, Cond.methodLink RX2 70 yX0_settle, Cond.instanceMethod yX0_settle, Cond.selects RX0 yX0_settle yX0_settle, Cond.code yX0_settle cX0_settle 2 none, Cond.methodLink RX0 65 yX0_mergeLevel, Cond.instanceMethod yX0_mergeLevel, Cond.selects RX0 yX0_mergeLevel yX0_mergeLevel, Cond.code yX0_mergeLevel cX0_mergeLevel 2 none, Cond.methodLink RX0 76 Lib.Math.min.name, Cond.fieldLink RX0 22 "SlipLevels$Binder" "merged" "LSlipLevels$Slips;", Cond.fieldLink RX0 30 "SlipLevels$Binder" "mergings" "I", Cond.methodLink RX0 69 yX0_nothingBehind, Cond.instanceMethod yX0_nothingBehind, Cond.selects RX0 yX0_nothingBehind yX0_nothingBehind, Cond.code yX0_nothingBehind cX0_nothingBehind 3 (some .boolean), Cond.methodLink RX0 72 yX0_gather]
def wsL_write_r5 : List Cond := [Cond.instanceMethod yX0_gather, Cond.selects RX0 yX0_gather yX0_gather, Cond.code yX0_gather cX0_gather 5 none, Cond.methodLink RX0 85 yX1_clear, Cond.methodLink RX0 54 yX0_firstWordIn, Cond.instanceMethod yX0_firstWordIn, Cond.selects RX0 yX0_firstWordIn yX0_firstWordIn, Cond.code yX0_firstWordIn cX0_firstWordIn 5 (some .int), Cond.methodLink RX0 37 yX0_runAt, Cond.instanceMethod yX0_runAt, Cond.selects RX0 yX0_runAt yX0_runAt, Cond.code yX0_runAt cX0_runAt 4 (some (.object "SlipLevels$Slips")), Cond.methodLink RX0 51 yX1_wordAt, Cond.instanceMethod yX1_wordAt, Cond.selects RX1 yX1_wordAt yX1_wordAt, Cond.code yX1_wordAt cX1_wordAt 2 (some .int), Cond.methodLink RX0 88 yX1_put, Cond.methodLink RX0 81 yX0_addRun]
def wsL_write : List Cond := .codeWith yL_write cL_write 5 (some .int) [(0, 17, 20, 13), (0, 17, 24, 15)] :: ((wsL_write_r1 ++ (wsL_write_r2 ++ (wsL_write_r3 ++ (wsL_write_r4 ++ wsL_write_r5)))) ++ wsX20 ++ wsX10 ++ wsX00 ++ (vx_atS RX2 41 "java/lang/IllegalArgumentException" ["java/lang/RuntimeException", "java/lang/Exception"]).filter goodWord ++ (vx_atS RX2 98 "java/lang/IndexOutOfBoundsException" ["java/lang/RuntimeException", "java/lang/Exception"]).filter goodWord)
def wsL_strike_r1 : List Cond := [Cond.classLink RL 13 "java/lang/IndexOutOfBoundsException", Cond.methodLink RL 17 yX2_strike, Cond.instanceMethod yX2_strike, Cond.selects RX2 yX2_strike yX2_strike, Cond.initialized RX2, Cond.code yX2_strike cX2_strike 2 (some .boolean), Cond.fieldLink RX2 10 "SlipLevels" "deskSlips" "LSlipLevels$Slips;", Cond.fieldLink RX2 26 "SlipLevels" "deskRoom" "I", Cond.methodLink RX2 33 yX2_needNumber, Cond.static yX2_needNumber, Cond.code yX2_needNumber cX2_needNumber 1 none, Cond.classLink RX2 94 "java/lang/IndexOutOfBoundsException", Cond.initialized "java/lang/IndexOutOfBoundsException", Cond.methodLink RX2 44 yX1_put, Cond.instanceMethod yX1_put, Cond.selects RX1 yX1_put yX1_put, Cond.initialized RX1, Cond.code yX1_put cX1_put 4 none, Cond.fieldLink RX1 9 "SlipLevels$Slips" "words" "[I", Cond.fieldLink RX1 24 "SlipLevels$Slips" "size" "I", Cond.fieldLink RX1 28 "SlipLevels$Slips" "tombs" "I", Cond.fieldLink RX1 31 "SlipLevels$Slips" "least" "I", Cond.methodLink RX1 46 Lib.Math.min.name, Cond.static Lib.Math.min.name]
def wsL_strike_r2 : List Cond := [Cond.initialized "java/lang/Math", Cond.code Lib.Math.min.name Lib.Math.min.code 2 (some .int), Cond.fieldLink RX1 34 "SlipLevels$Slips" "greatest" "I", Cond.methodLink RX1 52 Lib.Math.max.name, Cond.static Lib.Math.max.name, Cond.code Lib.Math.max.name Lib.Math.max.code 2 (some .int), Cond.fieldLink RX1 37 "SlipLevels$Slips" "sieve" "I", Cond.methodLink RX2 48 yX2_bindFrom, Cond.instanceMethod yX2_bindFrom, Cond.selects RX2 yX2_bindFrom yX2_bindFrom, Cond.code yX2_bindFrom cX2_bindFrom 3 (some .int), Cond.fieldLink RX2 19 "SlipLevels" "binder" "LSlipLevels$Binder;", Cond.methodLink RX2 160 yX1_size, Cond.instanceMethod yX1_size, Cond.selects RX1 yX1_size yX1_size, Cond.code yX1_size cX1_size 1 (some .int), Cond.methodLink RX2 63 yX0_moves, Cond.instanceMethod yX0_moves, Cond.selects RX0 yX0_moves yX0_moves, Cond.initialized RX0, Cond.code yX0_moves cX0_moves 1 (some .int), Cond.fieldLink RX0 26 "SlipLevels$Binder" "moves" "I", Cond.methodLink RX2 163 yX0_addRun, Cond.instanceMethod yX0_addRun]
def wsL_strike_r3 : List Cond := [Cond.selects RX0 yX0_addRun yX0_addRun, Cond.code yX0_addRun cX0_addRun 4 none, Cond.fieldLink RX0 17 "SlipLevels$Binder" "runs" "[I", Cond.methodLink RX0 33 yX0_runsOf, Cond.instanceMethod yX0_runsOf, Cond.selects RX0 yX0_runsOf yX0_runsOf, Cond.code yX0_runsOf cX0_runsOf 2 (some .int), Cond.methodLink RX0 92 yX0_rowAt, Cond.instanceMethod yX0_rowAt, Cond.selects RX0 yX0_rowAt yX0_rowAt, Cond.code yX0_rowAt cX0_rowAt 3 (some (.object "SlipLevels$Slips")), Cond.fieldLink RX0 11 "SlipLevels$Binder" "rows" "[LSlipLevels$Slips;", Cond.methodLink RX0 41 yX1_size, Cond.methodLink RX0 95 yX1_copy, Cond.instanceMethod yX1_copy, Cond.selects RX1 yX1_copy yX1_copy, Cond.code yX1_copy cX1_copy 2 none, Cond.methodLink RX1 40 arraycopyName, Cond.native arraycopyName, Cond.static arraycopyName, Cond.initialized "java/lang/System", Cond.methodLink RX2 167 yX1_clear, Cond.instanceMethod yX1_clear, Cond.selects RX1 yX1_clear yX1_clear]
def wsL_strike_r4 : List Cond := [Cond.code yX1_clear cX1_clear 1 none, Cond.methodLink RX1 18 yJ7_fill_53178, Cond.static yJ7_fill_53178, Cond.initialized RJ7, Cond.code yJ7_fill_53178 cJ7_fill_53178 4 none, Cond.methodLink RX2 70 yX0_settle, Cond.instanceMethod yX0_settle, Cond.selects RX0 yX0_settle yX0_settle, Cond.code yX0_settle cX0_settle 2 none, Cond.methodLink RX0 65 yX0_mergeLevel, Cond.instanceMethod yX0_mergeLevel, Cond.selects RX0 yX0_mergeLevel yX0_mergeLevel, Cond.code yX0_mergeLevel cX0_mergeLevel 2 none, Cond.methodLink RX0 76 Lib.Math.min.name, Cond.fieldLink RX0 22 "SlipLevels$Binder" "merged" "LSlipLevels$Slips;", Cond.fieldLink RX0 30 "SlipLevels$Binder" "mergings" "I", Cond.methodLink RX0 69 yX0_nothingBehind, Cond.instanceMethod yX0_nothingBehind, Cond.selects RX0 yX0_nothingBehind yX0_nothingBehind, Cond.code yX0_nothingBehind cX0_nothingBehind 3 (some .boolean), Cond.methodLink RX0 72 yX0_gather, Cond.instanceMethod yX0_gather, Cond.selects RX0 yX0_gather yX0_gather, Cond.code yX0_gather cX0_gather 5 none]
def wsL_strike_r5 : List Cond := [Cond.methodLink RX0 85 yX1_clear, Cond.methodLink RX0 54 yX0_firstWordIn, Cond.instanceMethod yX0_firstWordIn, Cond.selects RX0 yX0_firstWordIn yX0_firstWordIn, Cond.code yX0_firstWordIn cX0_firstWordIn 5 (some .int), Cond.methodLink RX0 37 yX0_runAt, Cond.instanceMethod yX0_runAt, Cond.selects RX0 yX0_runAt yX0_runAt, Cond.code yX0_runAt cX0_runAt 4 (some (.object "SlipLevels$Slips")), Cond.methodLink RX0 51 yX1_wordAt, Cond.instanceMethod yX1_wordAt, Cond.selects RX1 yX1_wordAt yX1_wordAt, Cond.code yX1_wordAt cX1_wordAt 2 (some .int), Cond.methodLink RX0 88 yX1_put, Cond.methodLink RX0 81 yX0_addRun]
def wsL_strike : List Cond := .codeWith yL_strike cL_strike 4 (some .int) [(0, 16, 19, 13)] :: ((wsL_strike_r1 ++ (wsL_strike_r2 ++ (wsL_strike_r3 ++ (wsL_strike_r4 ++ wsL_strike_r5)))) ++ wsX20 ++ wsX10 ++ wsX00 ++ (vx_atS RX2 98 "java/lang/IndexOutOfBoundsException" ["java/lang/RuntimeException", "java/lang/Exception"]).filter goodWord)
def wsL_merge_r1 : List Cond := [Cond.classLink RL 13 "java/lang/IndexOutOfBoundsException", Cond.classLink RL 25 "java/lang/IllegalStateException", Cond.methodLink RL 21 yX2_merge, Cond.instanceMethod yX2_merge, Cond.selects RX2 yX2_merge yX2_merge, Cond.initialized RX2, Cond.code yX2_merge cX2_merge 3 (some .int), Cond.classLink RX2 58 "java/lang/IllegalStateException", Cond.initialized "java/lang/IllegalStateException", Cond.fieldLink RX2 19 "SlipLevels" "binder" "LSlipLevels$Binder;", Cond.methodLink RX2 52 yX2_needLevel, Cond.static yX2_needLevel, Cond.code yX2_needLevel cX2_needLevel 1 none, Cond.classLink RX2 94 "java/lang/IndexOutOfBoundsException", Cond.initialized "java/lang/IndexOutOfBoundsException", Cond.methodLink RX2 55 yX0_runsOf, Cond.instanceMethod yX0_runsOf, Cond.selects RX0 yX0_runsOf yX0_runsOf, Cond.initialized RX0, Cond.code yX0_runsOf cX0_runsOf 2 (some .int), Cond.fieldLink RX0 17 "SlipLevels$Binder" "runs" "[I", Cond.methodLink RX2 63 yX0_moves, Cond.instanceMethod yX0_moves, Cond.selects RX0 yX0_moves yX0_moves]
def wsL_merge_r2 : List Cond := [Cond.code yX0_moves cX0_moves 1 (some .int), Cond.fieldLink RX0 26 "SlipLevels$Binder" "moves" "I", Cond.methodLink RX2 67 yX0_mergeLevel, Cond.instanceMethod yX0_mergeLevel, Cond.selects RX0 yX0_mergeLevel yX0_mergeLevel, Cond.code yX0_mergeLevel cX0_mergeLevel 2 none, Cond.methodLink RX0 76 Lib.Math.min.name, Cond.static Lib.Math.min.name, Cond.initialized "java/lang/Math", Cond.code Lib.Math.min.name Lib.Math.min.code 2 (some .int), Cond.fieldLink RX0 22 "SlipLevels$Binder" "merged" "LSlipLevels$Slips;", Cond.fieldLink RX0 30 "SlipLevels$Binder" "mergings" "I", Cond.methodLink RX0 69 yX0_nothingBehind, Cond.instanceMethod yX0_nothingBehind, Cond.selects RX0 yX0_nothingBehind yX0_nothingBehind, Cond.code yX0_nothingBehind cX0_nothingBehind 3 (some .boolean), Cond.methodLink RX0 33 yX0_runsOf, Cond.methodLink RX0 72 yX0_gather, Cond.instanceMethod yX0_gather, Cond.selects RX0 yX0_gather yX0_gather, Cond.code yX0_gather cX0_gather 5 none, Cond.methodLink RX0 85 yX1_clear, Cond.instanceMethod yX1_clear, Cond.selects RX1 yX1_clear yX1_clear]
def wsL_merge_r3 : List Cond := [Cond.initialized RX1, Cond.code yX1_clear cX1_clear 1 none, Cond.fieldLink RX1 9 "SlipLevels$Slips" "words" "[I", Cond.fieldLink RX1 24 "SlipLevels$Slips" "size" "I", Cond.fieldLink RX1 28 "SlipLevels$Slips" "tombs" "I", Cond.fieldLink RX1 31 "SlipLevels$Slips" "least" "I", Cond.fieldLink RX1 34 "SlipLevels$Slips" "greatest" "I", Cond.fieldLink RX1 37 "SlipLevels$Slips" "sieve" "I", Cond.methodLink RX1 18 yJ7_fill_53178, Cond.static yJ7_fill_53178, Cond.initialized RJ7, Cond.code yJ7_fill_53178 cJ7_fill_53178 4 none, Cond.methodLink RX0 54 yX0_firstWordIn, Cond.instanceMethod yX0_firstWordIn, Cond.selects RX0 yX0_firstWordIn yX0_firstWordIn, Cond.code yX0_firstWordIn cX0_firstWordIn 5 (some .int), Cond.methodLink RX0 37 yX0_runAt, Cond.instanceMethod yX0_runAt, Cond.selects RX0 yX0_runAt yX0_runAt, Cond.code yX0_runAt cX0_runAt 4 (some (.object "SlipLevels$Slips")), Cond.fieldLink RX0 11 "SlipLevels$Binder" "rows" "[LSlipLevels$Slips;", Cond.methodLink RX0 51 yX1_wordAt, Cond.instanceMethod yX1_wordAt, Cond.selects RX1 yX1_wordAt yX1_wordAt]
def wsL_merge_r4 : List Cond := [Cond.code yX1_wordAt cX1_wordAt 2 (some .int), Cond.methodLink RX0 88 yX1_put, Cond.instanceMethod yX1_put, Cond.selects RX1 yX1_put yX1_put, Cond.code yX1_put cX1_put 4 none, Cond.methodLink RX1 46 Lib.Math.min.name, Cond.methodLink RX1 52 Lib.Math.max.name, Cond.static Lib.Math.max.name, Cond.code Lib.Math.max.name Lib.Math.max.code 2 (some .int), Cond.methodLink RX0 81 yX0_addRun, Cond.instanceMethod yX0_addRun, Cond.selects RX0 yX0_addRun yX0_addRun, Cond.code yX0_addRun cX0_addRun 4 none, Cond.methodLink RX0 92 yX0_rowAt, Cond.instanceMethod yX0_rowAt, Cond.selects RX0 yX0_rowAt yX0_rowAt, Cond.code yX0_rowAt cX0_rowAt 3 (some (.object "SlipLevels$Slips")), Cond.methodLink RX0 41 yX1_size, Cond.instanceMethod yX1_size, Cond.selects RX1 yX1_size yX1_size, Cond.code yX1_size cX1_size 1 (some .int), Cond.methodLink RX0 95 yX1_copy, Cond.instanceMethod yX1_copy, Cond.selects RX1 yX1_copy yX1_copy]
def wsL_merge_r5 : List Cond := [Cond.code yX1_copy cX1_copy 2 none, Cond.methodLink RX1 40 arraycopyName, Cond.native arraycopyName, Cond.static arraycopyName, Cond.initialized "java/lang/System", Cond.methodLink RX2 70 yX0_settle, Cond.instanceMethod yX0_settle, Cond.selects RX0 yX0_settle yX0_settle, Cond.code yX0_settle cX0_settle 2 none, Cond.methodLink RX0 65 yX0_mergeLevel]
def wsL_merge : List Cond := .codeWith yL_merge cL_merge 4 (some .int) [(0, 9, 12, 13), (0, 9, 15, 25)] :: ((wsL_merge_r1 ++ (wsL_merge_r2 ++ (wsL_merge_r3 ++ (wsL_merge_r4 ++ wsL_merge_r5)))) ++ wsX20 ++ wsX00 ++ wsX10 ++ (vx_atS RX2 62 "java/lang/IllegalStateException" ["java/lang/RuntimeException", "java/lang/Exception"]).filter goodWord ++ (vx_atS RX2 98 "java/lang/IndexOutOfBoundsException" ["java/lang/RuntimeException", "java/lang/Exception"]).filter goodWord)
def wsL_setRoom_r1 : List Cond := [Cond.classLink RL 15 "java/lang/IllegalArgumentException", Cond.methodLink RL 27 yX2_setRoom, Cond.instanceMethod yX2_setRoom, Cond.selects RX2 yX2_setRoom yX2_setRoom, Cond.initialized RX2, Cond.code yX2_setRoom cX2_setRoom 3 (some .int), Cond.classLink RX2 37 "java/lang/IllegalArgumentException", Cond.initialized "java/lang/IllegalArgumentException", Cond.fieldLink RX2 26 "SlipLevels" "deskRoom" "I", Cond.methodLink RX2 48 yX2_bindFrom, Cond.instanceMethod yX2_bindFrom, Cond.selects RX2 yX2_bindFrom yX2_bindFrom, Cond.code yX2_bindFrom cX2_bindFrom 3 (some .int), Cond.fieldLink RX2 10 "SlipLevels" "deskSlips" "LSlipLevels$Slips;", Cond.fieldLink RX2 19 "SlipLevels" "binder" "LSlipLevels$Binder;", Cond.methodLink RX2 160 yX1_size, Cond.instanceMethod yX1_size, Cond.selects RX1 yX1_size yX1_size, Cond.initialized RX1, Cond.code yX1_size cX1_size 1 (some .int), Cond.fieldLink RX1 24 "SlipLevels$Slips" "size" "I", Cond.methodLink RX2 63 yX0_moves, Cond.instanceMethod yX0_moves, Cond.selects RX0 yX0_moves yX0_moves]
def wsL_setRoom_r2 : List Cond := [Cond.initialized RX0, Cond.code yX0_moves cX0_moves 1 (some .int), Cond.fieldLink RX0 26 "SlipLevels$Binder" "moves" "I", Cond.methodLink RX2 163 yX0_addRun, Cond.instanceMethod yX0_addRun, Cond.selects RX0 yX0_addRun yX0_addRun, Cond.code yX0_addRun cX0_addRun 4 none, Cond.fieldLink RX0 17 "SlipLevels$Binder" "runs" "[I", Cond.methodLink RX0 33 yX0_runsOf, Cond.instanceMethod yX0_runsOf, Cond.selects RX0 yX0_runsOf yX0_runsOf, Cond.code yX0_runsOf cX0_runsOf 2 (some .int), Cond.methodLink RX0 92 yX0_rowAt, Cond.instanceMethod yX0_rowAt, Cond.selects RX0 yX0_rowAt yX0_rowAt, Cond.code yX0_rowAt cX0_rowAt 3 (some (.object "SlipLevels$Slips")), Cond.fieldLink RX0 11 "SlipLevels$Binder" "rows" "[LSlipLevels$Slips;", Cond.methodLink RX0 41 yX1_size, Cond.methodLink RX0 95 yX1_copy, Cond.instanceMethod yX1_copy, Cond.selects RX1 yX1_copy yX1_copy, Cond.code yX1_copy cX1_copy 2 none, Cond.fieldLink RX1 9 "SlipLevels$Slips" "words" "[I", Cond.methodLink RX1 40 arraycopyName]
def wsL_setRoom_r3 : List Cond := [Cond.native arraycopyName, Cond.static arraycopyName, Cond.initialized "java/lang/System", Cond.fieldLink RX1 28 "SlipLevels$Slips" "tombs" "I", Cond.fieldLink RX1 31 "SlipLevels$Slips" "least" "I", Cond.fieldLink RX1 34 "SlipLevels$Slips" "greatest" "I", Cond.fieldLink RX1 37 "SlipLevels$Slips" "sieve" "I", Cond.methodLink RX2 167 yX1_clear, Cond.instanceMethod yX1_clear, Cond.selects RX1 yX1_clear yX1_clear, Cond.code yX1_clear cX1_clear 1 none, Cond.methodLink RX1 18 yJ7_fill_53178, Cond.static yJ7_fill_53178, Cond.initialized RJ7, Cond.code yJ7_fill_53178 cJ7_fill_53178 4 none, Cond.methodLink RX2 70 yX0_settle, Cond.instanceMethod yX0_settle, Cond.selects RX0 yX0_settle yX0_settle, Cond.code yX0_settle cX0_settle 2 none, Cond.methodLink RX0 65 yX0_mergeLevel, Cond.instanceMethod yX0_mergeLevel, Cond.selects RX0 yX0_mergeLevel yX0_mergeLevel, Cond.code yX0_mergeLevel cX0_mergeLevel 2 none, Cond.methodLink RX0 76 Lib.Math.min.name]
def wsL_setRoom_r4 : List Cond := [Cond.static Lib.Math.min.name, Cond.initialized "java/lang/Math", Cond.code Lib.Math.min.name Lib.Math.min.code 2 (some .int), Cond.fieldLink RX0 22 "SlipLevels$Binder" "merged" "LSlipLevels$Slips;", Cond.fieldLink RX0 30 "SlipLevels$Binder" "mergings" "I", Cond.methodLink RX0 69 yX0_nothingBehind, Cond.instanceMethod yX0_nothingBehind, Cond.selects RX0 yX0_nothingBehind yX0_nothingBehind, Cond.code yX0_nothingBehind cX0_nothingBehind 3 (some .boolean), Cond.methodLink RX0 72 yX0_gather, Cond.instanceMethod yX0_gather, Cond.selects RX0 yX0_gather yX0_gather, Cond.code yX0_gather cX0_gather 5 none, Cond.methodLink RX0 85 yX1_clear, Cond.methodLink RX0 54 yX0_firstWordIn, Cond.instanceMethod yX0_firstWordIn, Cond.selects RX0 yX0_firstWordIn yX0_firstWordIn, Cond.code yX0_firstWordIn cX0_firstWordIn 5 (some .int), Cond.methodLink RX0 37 yX0_runAt, Cond.instanceMethod yX0_runAt, Cond.selects RX0 yX0_runAt yX0_runAt, Cond.code yX0_runAt cX0_runAt 4 (some (.object "SlipLevels$Slips")), Cond.methodLink RX0 51 yX1_wordAt, Cond.instanceMethod yX1_wordAt]
def wsL_setRoom_r5 : List Cond := [Cond.selects RX1 yX1_wordAt yX1_wordAt, Cond.code yX1_wordAt cX1_wordAt 2 (some .int), Cond.methodLink RX0 88 yX1_put, Cond.instanceMethod yX1_put, Cond.selects RX1 yX1_put yX1_put, Cond.code yX1_put cX1_put 4 none, Cond.methodLink RX1 46 Lib.Math.min.name, Cond.methodLink RX1 52 Lib.Math.max.name, Cond.static Lib.Math.max.name, Cond.code Lib.Math.max.name Lib.Math.max.code 2 (some .int), Cond.methodLink RX0 81 yX0_addRun]
def wsL_setRoom : List Cond := .codeWith yL_setRoom cL_setRoom 4 (some .int) [(0, 9, 12, 15)] :: ((wsL_setRoom_r1 ++ (wsL_setRoom_r2 ++ (wsL_setRoom_r3 ++ (wsL_setRoom_r4 ++ wsL_setRoom_r5)))) ++ wsX20 ++ wsX10 ++ wsX00 ++ (vx_atS RX2 41 "java/lang/IllegalArgumentException" ["java/lang/RuntimeException", "java/lang/Exception"]).filter goodWord)
def wsL_read_r1 : List Cond := [Cond.classLink RL 13 "java/lang/IndexOutOfBoundsException", Cond.methodLink RL 30 yX2_read, Cond.instanceMethod yX2_read, Cond.selects RX2 yX2_read yX2_read, Cond.initialized RX2, Cond.code yX2_read cX2_read 2 (some .int), Cond.fieldLink RX2 30 "SlipLevels" "detoursRead" "I", Cond.fieldLink RX2 19 "SlipLevels" "binder" "LSlipLevels$Binder;", Cond.methodLink RX2 33 yX2_needNumber, Cond.static yX2_needNumber, Cond.code yX2_needNumber cX2_needNumber 1 none, Cond.classLink RX2 94 "java/lang/IndexOutOfBoundsException", Cond.initialized "java/lang/IndexOutOfBoundsException", Cond.methodLink RX2 75 yX2_detoursIn, Cond.instanceMethod yX2_detoursIn, Cond.selects RX2 yX2_detoursIn yX2_detoursIn, Cond.code yX2_detoursIn cX2_detoursIn 3 (some .int), Cond.fieldLink RX2 10 "SlipLevels" "deskSlips" "LSlipLevels$Slips;", Cond.methodLink RX2 176 yX1_has, Cond.instanceMethod yX1_has, Cond.selects RX1 yX1_has yX1_has, Cond.initialized RX1, Cond.code yX1_has cX1_has 2 (some .boolean), Cond.methodLink RX1 55 yX1_wordAt]
def wsL_read_r2 : List Cond := [Cond.instanceMethod yX1_wordAt, Cond.selects RX1 yX1_wordAt yX1_wordAt, Cond.code yX1_wordAt cX1_wordAt 2 (some .int), Cond.fieldLink RX1 9 "SlipLevels$Slips" "words" "[I", Cond.methodLink RX2 180 yX0_detoursTo, Cond.instanceMethod yX0_detoursTo, Cond.selects RX0 yX0_detoursTo yX0_detoursTo, Cond.initialized RX0, Cond.code yX0_detoursTo cX0_detoursTo 6 (some .int), Cond.methodLink RX0 33 yX0_runsOf, Cond.instanceMethod yX0_runsOf, Cond.selects RX0 yX0_runsOf yX0_runsOf, Cond.code yX0_runsOf cX0_runsOf 2 (some .int), Cond.fieldLink RX0 17 "SlipLevels$Binder" "runs" "[I", Cond.methodLink RX0 37 yX0_runAt, Cond.instanceMethod yX0_runAt, Cond.selects RX0 yX0_runAt yX0_runAt, Cond.code yX0_runAt cX0_runAt 4 (some (.object "SlipLevels$Slips")), Cond.fieldLink RX0 11 "SlipLevels$Binder" "rows" "[LSlipLevels$Slips;", Cond.methodLink RX0 62 yX1_opensFor, Cond.instanceMethod yX1_opensFor, Cond.selects RX1 yX1_opensFor yX1_opensFor, Cond.code yX1_opensFor cX1_opensFor 2 (some .boolean), Cond.fieldLink RX1 31 "SlipLevels$Slips" "least" "I"]
def wsL_read_r3 : List Cond := [Cond.fieldLink RX1 34 "SlipLevels$Slips" "greatest" "I", Cond.fieldLink RX1 37 "SlipLevels$Slips" "sieve" "I", Cond.methodLink RX0 58 yX1_has, Cond.methodLink RX2 79 yX2_wordOf, Cond.instanceMethod yX2_wordOf, Cond.selects RX2 yX2_wordOf yX2_wordOf, Cond.code yX2_wordOf cX2_wordOf 3 (some .int), Cond.methodLink RX2 170 yX1_wordAt, Cond.methodLink RX2 173 yX0_firstWord, Cond.instanceMethod yX0_firstWord, Cond.selects RX0 yX0_firstWord yX0_firstWord, Cond.code yX0_firstWord cX0_firstWord 4 (some .int), Cond.methodLink RX0 54 yX0_firstWordIn, Cond.instanceMethod yX0_firstWordIn, Cond.selects RX0 yX0_firstWordIn yX0_firstWordIn, Cond.code yX0_firstWordIn cX0_firstWordIn 5 (some .int), Cond.methodLink RX0 51 yX1_wordAt]
def wsL_read : List Cond := .codeWith yL_read cL_read 4 (some .int) [(0, 9, 12, 13)] :: ((wsL_read_r1 ++ (wsL_read_r2 ++ wsL_read_r3)) ++ wsX20 ++ wsX10 ++ wsX00 ++ (vx_atS RX2 98 "java/lang/IndexOutOfBoundsException" ["java/lang/RuntimeException", "java/lang/Exception"]).filter goodWord)
def wsL_detours_r1 : List Cond := [Cond.classLink RL 13 "java/lang/IndexOutOfBoundsException", Cond.methodLink RL 33 yX2_detours, Cond.instanceMethod yX2_detours, Cond.selects RX2 yX2_detours yX2_detours, Cond.initialized RX2, Cond.code yX2_detours cX2_detours 2 (some .int), Cond.fieldLink RX2 19 "SlipLevels" "binder" "LSlipLevels$Binder;", Cond.methodLink RX2 33 yX2_needNumber, Cond.static yX2_needNumber, Cond.code yX2_needNumber cX2_needNumber 1 none, Cond.classLink RX2 94 "java/lang/IndexOutOfBoundsException", Cond.initialized "java/lang/IndexOutOfBoundsException", Cond.methodLink RX2 75 yX2_detoursIn, Cond.instanceMethod yX2_detoursIn, Cond.selects RX2 yX2_detoursIn yX2_detoursIn, Cond.code yX2_detoursIn cX2_detoursIn 3 (some .int), Cond.fieldLink RX2 10 "SlipLevels" "deskSlips" "LSlipLevels$Slips;", Cond.methodLink RX2 176 yX1_has, Cond.instanceMethod yX1_has, Cond.selects RX1 yX1_has yX1_has, Cond.initialized RX1, Cond.code yX1_has cX1_has 2 (some .boolean), Cond.methodLink RX1 55 yX1_wordAt, Cond.instanceMethod yX1_wordAt]
def wsL_detours_r2 : List Cond := [Cond.selects RX1 yX1_wordAt yX1_wordAt, Cond.code yX1_wordAt cX1_wordAt 2 (some .int), Cond.fieldLink RX1 9 "SlipLevels$Slips" "words" "[I", Cond.methodLink RX2 180 yX0_detoursTo, Cond.instanceMethod yX0_detoursTo, Cond.selects RX0 yX0_detoursTo yX0_detoursTo, Cond.initialized RX0, Cond.code yX0_detoursTo cX0_detoursTo 6 (some .int), Cond.methodLink RX0 33 yX0_runsOf, Cond.instanceMethod yX0_runsOf, Cond.selects RX0 yX0_runsOf yX0_runsOf, Cond.code yX0_runsOf cX0_runsOf 2 (some .int), Cond.fieldLink RX0 17 "SlipLevels$Binder" "runs" "[I", Cond.methodLink RX0 37 yX0_runAt, Cond.instanceMethod yX0_runAt, Cond.selects RX0 yX0_runAt yX0_runAt, Cond.code yX0_runAt cX0_runAt 4 (some (.object "SlipLevels$Slips")), Cond.fieldLink RX0 11 "SlipLevels$Binder" "rows" "[LSlipLevels$Slips;", Cond.methodLink RX0 62 yX1_opensFor, Cond.instanceMethod yX1_opensFor, Cond.selects RX1 yX1_opensFor yX1_opensFor, Cond.code yX1_opensFor cX1_opensFor 2 (some .boolean), Cond.fieldLink RX1 31 "SlipLevels$Slips" "least" "I", Cond.fieldLink RX1 34 "SlipLevels$Slips" "greatest" "I"]
def wsL_detours_r3 : List Cond := [Cond.fieldLink RX1 37 "SlipLevels$Slips" "sieve" "I", Cond.methodLink RX0 58 yX1_has]
def wsL_detours : List Cond := .codeWith yL_detours cL_detours 4 (some .int) [(0, 9, 12, 13)] :: ((wsL_detours_r1 ++ (wsL_detours_r2 ++ wsL_detours_r3)) ++ wsX20 ++ wsX10 ++ wsX00 ++ (vx_atS RX2 98 "java/lang/IndexOutOfBoundsException" ["java/lang/RuntimeException", "java/lang/Exception"]).filter goodWord)
def wsL_next_r1 : List Cond := [Cond.classLink RL 13 "java/lang/IndexOutOfBoundsException", Cond.methodLink RL 36 yX2_next, Cond.instanceMethod yX2_next, Cond.selects RX2 yX2_next yX2_next, Cond.initialized RX2, Cond.code yX2_next cX2_next 3 (some .int), Cond.methodLink RX2 33 yX2_needNumber, Cond.static yX2_needNumber, Cond.code yX2_needNumber cX2_needNumber 1 none, Cond.classLink RX2 94 "java/lang/IndexOutOfBoundsException", Cond.initialized "java/lang/IndexOutOfBoundsException", Cond.methodLink RX2 79 yX2_wordOf, Cond.instanceMethod yX2_wordOf, Cond.selects RX2 yX2_wordOf yX2_wordOf, Cond.code yX2_wordOf cX2_wordOf 3 (some .int), Cond.fieldLink RX2 10 "SlipLevels" "deskSlips" "LSlipLevels$Slips;", Cond.fieldLink RX2 19 "SlipLevels" "binder" "LSlipLevels$Binder;", Cond.methodLink RX2 170 yX1_wordAt, Cond.instanceMethod yX1_wordAt, Cond.selects RX1 yX1_wordAt yX1_wordAt, Cond.initialized RX1, Cond.code yX1_wordAt cX1_wordAt 2 (some .int), Cond.fieldLink RX1 9 "SlipLevels$Slips" "words" "[I", Cond.methodLink RX2 173 yX0_firstWord]
def wsL_next_r2 : List Cond := [Cond.instanceMethod yX0_firstWord, Cond.selects RX0 yX0_firstWord yX0_firstWord, Cond.initialized RX0, Cond.code yX0_firstWord cX0_firstWord 4 (some .int), Cond.methodLink RX0 54 yX0_firstWordIn, Cond.instanceMethod yX0_firstWordIn, Cond.selects RX0 yX0_firstWordIn yX0_firstWordIn, Cond.code yX0_firstWordIn cX0_firstWordIn 5 (some .int), Cond.methodLink RX0 37 yX0_runAt, Cond.instanceMethod yX0_runAt, Cond.selects RX0 yX0_runAt yX0_runAt, Cond.code yX0_runAt cX0_runAt 4 (some (.object "SlipLevels$Slips")), Cond.fieldLink RX0 17 "SlipLevels$Binder" "runs" "[I", Cond.fieldLink RX0 11 "SlipLevels$Binder" "rows" "[LSlipLevels$Slips;", Cond.methodLink RX0 51 yX1_wordAt]
def wsL_next : List Cond := .codeWith yL_next cL_next 4 (some .int) [(0, 9, 12, 13)] :: ((wsL_next_r1 ++ wsL_next_r2) ++ wsX20 ++ wsX10 ++ wsX00 ++ (vx_atS RX2 98 "java/lang/IndexOutOfBoundsException" ["java/lang/RuntimeException", "java/lang/Exception"]).filter goodWord)
def wsL_sum_r1 : List Cond := [Cond.classLink RL 13 "java/lang/IndexOutOfBoundsException", Cond.classLink RL 15 "java/lang/IllegalArgumentException", Cond.methodLink RL 39 yX2_sum, Cond.instanceMethod yX2_sum, Cond.selects RX2 yX2_sum yX2_sum, Cond.initialized RX2, Cond.code yX2_sum cX2_sum 5 (some .int), Cond.classLink RX2 37 "java/lang/IllegalArgumentException", Cond.initialized "java/lang/IllegalArgumentException", Cond.methodLink RX2 84 Lib.Math.max.name, Cond.static Lib.Math.max.name, Cond.initialized "java/lang/Math", Cond.code Lib.Math.max.name Lib.Math.max.code 2 (some .int), Cond.methodLink RX2 33 yX2_needNumber, Cond.static yX2_needNumber, Cond.code yX2_needNumber cX2_needNumber 1 none, Cond.classLink RX2 94 "java/lang/IndexOutOfBoundsException", Cond.initialized "java/lang/IndexOutOfBoundsException", Cond.methodLink RX2 79 yX2_wordOf, Cond.instanceMethod yX2_wordOf, Cond.selects RX2 yX2_wordOf yX2_wordOf, Cond.code yX2_wordOf cX2_wordOf 3 (some .int), Cond.fieldLink RX2 10 "SlipLevels" "deskSlips" "LSlipLevels$Slips;", Cond.fieldLink RX2 19 "SlipLevels" "binder" "LSlipLevels$Binder;"]
def wsL_sum_r2 : List Cond := [Cond.methodLink RX2 170 yX1_wordAt, Cond.instanceMethod yX1_wordAt, Cond.selects RX1 yX1_wordAt yX1_wordAt, Cond.initialized RX1, Cond.code yX1_wordAt cX1_wordAt 2 (some .int), Cond.fieldLink RX1 9 "SlipLevels$Slips" "words" "[I", Cond.methodLink RX2 173 yX0_firstWord, Cond.instanceMethod yX0_firstWord, Cond.selects RX0 yX0_firstWord yX0_firstWord, Cond.initialized RX0, Cond.code yX0_firstWord cX0_firstWord 4 (some .int), Cond.methodLink RX0 54 yX0_firstWordIn, Cond.instanceMethod yX0_firstWordIn, Cond.selects RX0 yX0_firstWordIn yX0_firstWordIn, Cond.code yX0_firstWordIn cX0_firstWordIn 5 (some .int), Cond.methodLink RX0 37 yX0_runAt, Cond.instanceMethod yX0_runAt, Cond.selects RX0 yX0_runAt yX0_runAt, Cond.code yX0_runAt cX0_runAt 4 (some (.object "SlipLevels$Slips")), Cond.fieldLink RX0 17 "SlipLevels$Binder" "runs" "[I", Cond.fieldLink RX0 11 "SlipLevels$Binder" "rows" "[LSlipLevels$Slips;", Cond.methodLink RX0 51 yX1_wordAt]
def wsL_sum : List Cond := .codeWith yL_sum cL_sum 5 (some .int) [(0, 10, 13, 13), (0, 10, 17, 15)] :: ((wsL_sum_r1 ++ wsL_sum_r2) ++ wsX20 ++ wsX10 ++ wsX00 ++ (vx_atS RX2 41 "java/lang/IllegalArgumentException" ["java/lang/RuntimeException", "java/lang/Exception"]).filter goodWord ++ (vx_atS RX2 98 "java/lang/IndexOutOfBoundsException" ["java/lang/RuntimeException", "java/lang/Exception"]).filter goodWord)
def wsL_run_r1 : List Cond := [Cond.classLink RL 13 "java/lang/IndexOutOfBoundsException", Cond.methodLink RL 43 yX2_run, Cond.instanceMethod yX2_run, Cond.selects RX2 yX2_run yX2_run, Cond.initialized RX2, Cond.code yX2_run cX2_run 5 (some .int), Cond.classLink RX2 94 "java/lang/IndexOutOfBoundsException", Cond.initialized "java/lang/IndexOutOfBoundsException", Cond.fieldLink RX2 19 "SlipLevels" "binder" "LSlipLevels$Binder;", Cond.methodLink RX2 52 yX2_needLevel, Cond.static yX2_needLevel, Cond.code yX2_needLevel cX2_needLevel 1 none, Cond.methodLink RX2 90 yX0_runAt, Cond.instanceMethod yX0_runAt, Cond.selects RX0 yX0_runAt yX0_runAt, Cond.initialized RX0, Cond.code yX0_runAt cX0_runAt 4 (some (.object "SlipLevels$Slips")), Cond.fieldLink RX0 17 "SlipLevels$Binder" "runs" "[I", Cond.fieldLink RX0 11 "SlipLevels$Binder" "rows" "[LSlipLevels$Slips;", Cond.methodLink RX2 101 yX2_standingIn, Cond.instanceMethod yX2_standingIn, Cond.selects RX2 yX2_standingIn yX2_standingIn, Cond.code yX2_standingIn cX2_standingIn 5 (some .int), Cond.fieldLink RX2 10 "SlipLevels" "deskSlips" "LSlipLevels$Slips;"]
def wsL_run_r2 : List Cond := [Cond.methodLink RX2 176 yX1_has, Cond.instanceMethod yX1_has, Cond.selects RX1 yX1_has yX1_has, Cond.initialized RX1, Cond.code yX1_has cX1_has 2 (some .boolean), Cond.methodLink RX1 55 yX1_wordAt, Cond.instanceMethod yX1_wordAt, Cond.selects RX1 yX1_wordAt yX1_wordAt, Cond.code yX1_wordAt cX1_wordAt 2 (some .int), Cond.fieldLink RX1 9 "SlipLevels$Slips" "words" "[I", Cond.methodLink RX2 183 yX0_isFirst, Cond.instanceMethod yX0_isFirst, Cond.selects RX0 yX0_isFirst yX0_isFirst, Cond.code yX0_isFirst cX0_isFirst 6 (some .boolean), Cond.methodLink RX0 54 yX0_firstWordIn, Cond.instanceMethod yX0_firstWordIn, Cond.selects RX0 yX0_firstWordIn yX0_firstWordIn, Cond.code yX0_firstWordIn cX0_firstWordIn 5 (some .int), Cond.methodLink RX0 37 yX0_runAt, Cond.methodLink RX0 51 yX1_wordAt, Cond.methodLink RX0 58 yX1_has, Cond.methodLink RX2 104 yX1_fact, Cond.instanceMethod yX1_fact, Cond.selects RX1 yX1_fact yX1_fact]
def wsL_run_r3 : List Cond := [Cond.code yX1_fact cX1_fact 2 (some .int), Cond.fieldLink RX1 24 "SlipLevels$Slips" "size" "I", Cond.fieldLink RX1 31 "SlipLevels$Slips" "least" "I", Cond.fieldLink RX1 34 "SlipLevels$Slips" "greatest" "I", Cond.fieldLink RX1 37 "SlipLevels$Slips" "sieve" "I", Cond.fieldLink RX1 28 "SlipLevels$Slips" "tombs" "I"]
def wsL_run : List Cond := .codeWith yL_run cL_run 6 (some .int) [(0, 12, 15, 13)] :: ((wsL_run_r1 ++ (wsL_run_r2 ++ wsL_run_r3)) ++ wsX20 ++ wsX00 ++ wsX10 ++ (vx_atS RX2 98 "java/lang/IndexOutOfBoundsException" ["java/lang/RuntimeException", "java/lang/Exception"]).filter goodWord)
def wsL_slip_r1 : List Cond := [Cond.classLink RL 13 "java/lang/IndexOutOfBoundsException", Cond.methodLink RL 47 yX2_slip, Cond.instanceMethod yX2_slip, Cond.selects RX2 yX2_slip yX2_slip, Cond.initialized RX2, Cond.code yX2_slip cX2_slip 5 (some .int), Cond.classLink RX2 94 "java/lang/IndexOutOfBoundsException", Cond.initialized "java/lang/IndexOutOfBoundsException", Cond.fieldLink RX2 19 "SlipLevels" "binder" "LSlipLevels$Binder;", Cond.methodLink RX2 52 yX2_needLevel, Cond.static yX2_needLevel, Cond.code yX2_needLevel cX2_needLevel 1 none, Cond.methodLink RX2 90 yX0_runAt, Cond.instanceMethod yX0_runAt, Cond.selects RX0 yX0_runAt yX0_runAt, Cond.initialized RX0, Cond.code yX0_runAt cX0_runAt 4 (some (.object "SlipLevels$Slips")), Cond.fieldLink RX0 17 "SlipLevels$Binder" "runs" "[I", Cond.fieldLink RX0 11 "SlipLevels$Binder" "rows" "[LSlipLevels$Slips;", Cond.methodLink RX2 107 yX2_slipAt, Cond.static yX2_slipAt, Cond.code yX2_slipAt cX2_slipAt 3 (some .int), Cond.methodLink RX2 152 yX1_numberAt, Cond.instanceMethod yX1_numberAt]
def wsL_slip_r2 : List Cond := [Cond.selects RX1 yX1_numberAt yX1_numberAt, Cond.initialized RX1, Cond.code yX1_numberAt cX1_numberAt 4 (some .int), Cond.fieldLink RX1 24 "SlipLevels$Slips" "size" "I", Cond.methodLink RX1 59 yX1_has, Cond.instanceMethod yX1_has, Cond.selects RX1 yX1_has yX1_has, Cond.code yX1_has cX1_has 2 (some .boolean), Cond.methodLink RX1 55 yX1_wordAt, Cond.instanceMethod yX1_wordAt, Cond.selects RX1 yX1_wordAt yX1_wordAt, Cond.code yX1_wordAt cX1_wordAt 2 (some .int), Cond.fieldLink RX1 9 "SlipLevels$Slips" "words" "[I", Cond.methodLink RX2 157 yX1_told, Cond.instanceMethod yX1_told, Cond.selects RX1 yX1_told yX1_told, Cond.code yX1_told cX1_told 3 (some .int)]
def wsL_slip : List Cond := .codeWith yL_slip cL_slip 6 (some .int) [(0, 12, 15, 13)] :: ((wsL_slip_r1 ++ wsL_slip_r2) ++ wsX20 ++ wsX00 ++ wsX10 ++ (vx_atS RX2 98 "java/lang/IndexOutOfBoundsException" ["java/lang/RuntimeException", "java/lang/Exception"]).filter goodWord)
def wsL_desk_r1 : List Cond := [Cond.classLink RL 13 "java/lang/IndexOutOfBoundsException", Cond.methodLink RL 50 yX2_desk, Cond.instanceMethod yX2_desk, Cond.selects RX2 yX2_desk yX2_desk, Cond.initialized RX2, Cond.code yX2_desk cX2_desk 2 (some .int), Cond.fieldLink RX2 10 "SlipLevels" "deskSlips" "LSlipLevels$Slips;", Cond.methodLink RX2 107 yX2_slipAt, Cond.static yX2_slipAt, Cond.code yX2_slipAt cX2_slipAt 3 (some .int), Cond.classLink RX2 94 "java/lang/IndexOutOfBoundsException", Cond.initialized "java/lang/IndexOutOfBoundsException", Cond.methodLink RX2 152 yX1_numberAt, Cond.instanceMethod yX1_numberAt, Cond.selects RX1 yX1_numberAt yX1_numberAt, Cond.initialized RX1, Cond.code yX1_numberAt cX1_numberAt 4 (some .int), Cond.fieldLink RX1 24 "SlipLevels$Slips" "size" "I", Cond.methodLink RX1 59 yX1_has, Cond.instanceMethod yX1_has, Cond.selects RX1 yX1_has yX1_has, Cond.code yX1_has cX1_has 2 (some .boolean), Cond.methodLink RX1 55 yX1_wordAt, Cond.instanceMethod yX1_wordAt]
def wsL_desk_r2 : List Cond := [Cond.selects RX1 yX1_wordAt yX1_wordAt, Cond.code yX1_wordAt cX1_wordAt 2 (some .int), Cond.fieldLink RX1 9 "SlipLevels$Slips" "words" "[I", Cond.methodLink RX2 157 yX1_told, Cond.instanceMethod yX1_told, Cond.selects RX1 yX1_told yX1_told, Cond.code yX1_told cX1_told 3 (some .int)]
def wsL_desk : List Cond := .codeWith yL_desk cL_desk 4 (some .int) [(0, 9, 12, 13)] :: ((wsL_desk_r1 ++ wsL_desk_r2) ++ wsX20 ++ wsX10 ++ (vx_atS RX2 98 "java/lang/IndexOutOfBoundsException" ["java/lang/RuntimeException", "java/lang/Exception"]).filter goodWord)
def wsL_level_r1 : List Cond := [Cond.classLink RL 13 "java/lang/IndexOutOfBoundsException", Cond.methodLink RL 53 yX2_level, Cond.instanceMethod yX2_level, Cond.selects RX2 yX2_level yX2_level, Cond.initialized RX2, Cond.code yX2_level cX2_level 3 (some .int), Cond.classLink RX2 94 "java/lang/IndexOutOfBoundsException", Cond.initialized "java/lang/IndexOutOfBoundsException", Cond.fieldLink RX2 19 "SlipLevels" "binder" "LSlipLevels$Binder;", Cond.methodLink RX2 52 yX2_needLevel, Cond.static yX2_needLevel, Cond.code yX2_needLevel cX2_needLevel 1 none, Cond.methodLink RX2 55 yX0_runsOf, Cond.instanceMethod yX0_runsOf, Cond.selects RX0 yX0_runsOf yX0_runsOf, Cond.initialized RX0, Cond.code yX0_runsOf cX0_runsOf 2 (some .int), Cond.fieldLink RX0 17 "SlipLevels$Binder" "runs" "[I", Cond.methodLink RX2 113 yX0_slipsOf, Cond.instanceMethod yX0_slipsOf, Cond.selects RX0 yX0_slipsOf yX0_slipsOf, Cond.code yX0_slipsOf cX0_slipsOf 5 (some .int), Cond.methodLink RX0 33 yX0_runsOf, Cond.methodLink RX0 37 yX0_runAt]
def wsL_level_r2 : List Cond := [Cond.instanceMethod yX0_runAt, Cond.selects RX0 yX0_runAt yX0_runAt, Cond.code yX0_runAt cX0_runAt 4 (some (.object "SlipLevels$Slips")), Cond.fieldLink RX0 11 "SlipLevels$Binder" "rows" "[LSlipLevels$Slips;", Cond.methodLink RX0 41 yX1_size, Cond.instanceMethod yX1_size, Cond.selects RX1 yX1_size yX1_size, Cond.initialized RX1, Cond.code yX1_size cX1_size 1 (some .int), Cond.fieldLink RX1 24 "SlipLevels$Slips" "size" "I", Cond.methodLink RX2 116 yX0_tombsOf, Cond.instanceMethod yX0_tombsOf, Cond.selects RX0 yX0_tombsOf yX0_tombsOf, Cond.code yX0_tombsOf cX0_tombsOf 5 (some .int), Cond.methodLink RX0 45 yX1_tombs, Cond.instanceMethod yX1_tombs, Cond.selects RX1 yX1_tombs yX1_tombs, Cond.code yX1_tombs cX1_tombs 1 (some .int), Cond.fieldLink RX1 28 "SlipLevels$Slips" "tombs" "I"]
def wsL_level : List Cond := .codeWith yL_level cL_level 5 (some .int) [(0, 10, 13, 13)] :: ((wsL_level_r1 ++ wsL_level_r2) ++ wsX20 ++ wsX00 ++ wsX10 ++ (vx_atS RX2 98 "java/lang/IndexOutOfBoundsException" ["java/lang/RuntimeException", "java/lang/Exception"]).filter goodWord)
def wsL_count_r1 : List Cond := [Cond.classLink RL 13 "java/lang/IndexOutOfBoundsException", Cond.methodLink RL 56 yX2_count, Cond.instanceMethod yX2_count, Cond.selects RX2 yX2_count yX2_count, Cond.initialized RX2, Cond.code yX2_count cX2_count 2 (some .int), Cond.classLink RX2 94 "java/lang/IndexOutOfBoundsException", Cond.initialized "java/lang/IndexOutOfBoundsException", Cond.methodLink RX2 121 yX2_tally, Cond.instanceMethod yX2_tally, Cond.selects RX2 yX2_tally yX2_tally, Cond.code yX2_tally cX2_tally 2 (some .int), Cond.fieldLink RX2 10 "SlipLevels" "deskSlips" "LSlipLevels$Slips;", Cond.fieldLink RX2 26 "SlipLevels" "deskRoom" "I", Cond.fieldLink RX2 19 "SlipLevels" "binder" "LSlipLevels$Binder;", Cond.fieldLink RX2 30 "SlipLevels" "detoursRead" "I", Cond.methodLink RX2 160 yX1_size, Cond.instanceMethod yX1_size, Cond.selects RX1 yX1_size yX1_size, Cond.initialized RX1, Cond.code yX1_size cX1_size 1 (some .int), Cond.fieldLink RX1 24 "SlipLevels$Slips" "size" "I", Cond.methodLink RX2 127 yX0_slips, Cond.instanceMethod yX0_slips]
def wsL_count_r2 : List Cond := [Cond.selects RX0 yX0_slips yX0_slips, Cond.initialized RX0, Cond.code yX0_slips cX0_slips 3 (some .int), Cond.methodLink RX0 48 yX0_slipsOf, Cond.instanceMethod yX0_slipsOf, Cond.selects RX0 yX0_slipsOf yX0_slipsOf, Cond.code yX0_slipsOf cX0_slipsOf 5 (some .int), Cond.methodLink RX0 33 yX0_runsOf, Cond.instanceMethod yX0_runsOf, Cond.selects RX0 yX0_runsOf yX0_runsOf, Cond.code yX0_runsOf cX0_runsOf 2 (some .int), Cond.fieldLink RX0 17 "SlipLevels$Binder" "runs" "[I", Cond.methodLink RX0 37 yX0_runAt, Cond.instanceMethod yX0_runAt, Cond.selects RX0 yX0_runAt yX0_runAt, Cond.code yX0_runAt cX0_runAt 4 (some (.object "SlipLevels$Slips")), Cond.fieldLink RX0 11 "SlipLevels$Binder" "rows" "[LSlipLevels$Slips;", Cond.methodLink RX0 41 yX1_size, Cond.methodLink RX2 187 yX2_wordsStanding, Cond.instanceMethod yX2_wordsStanding, Cond.selects RX2 yX2_wordsStanding yX2_wordsStanding, Cond.code yX2_wordsStanding cX2_wordsStanding 3 (some .int), Cond.methodLink RX2 79 yX2_wordOf, Cond.instanceMethod yX2_wordOf]
def wsL_count_r3 : List Cond := [Cond.selects RX2 yX2_wordOf yX2_wordOf, Cond.code yX2_wordOf cX2_wordOf 3 (some .int), Cond.methodLink RX2 170 yX1_wordAt, Cond.instanceMethod yX1_wordAt, Cond.selects RX1 yX1_wordAt yX1_wordAt, Cond.code yX1_wordAt cX1_wordAt 2 (some .int), Cond.fieldLink RX1 9 "SlipLevels$Slips" "words" "[I", Cond.methodLink RX2 173 yX0_firstWord, Cond.instanceMethod yX0_firstWord, Cond.selects RX0 yX0_firstWord yX0_firstWord, Cond.code yX0_firstWord cX0_firstWord 4 (some .int), Cond.methodLink RX0 54 yX0_firstWordIn, Cond.instanceMethod yX0_firstWordIn, Cond.selects RX0 yX0_firstWordIn yX0_firstWordIn, Cond.code yX0_firstWordIn cX0_firstWordIn 5 (some .int), Cond.methodLink RX0 51 yX1_wordAt, Cond.methodLink RX2 63 yX0_moves, Cond.instanceMethod yX0_moves, Cond.selects RX0 yX0_moves yX0_moves, Cond.code yX0_moves cX0_moves 1 (some .int), Cond.fieldLink RX0 26 "SlipLevels$Binder" "moves" "I", Cond.methodLink RX2 190 yX0_mergings, Cond.instanceMethod yX0_mergings, Cond.selects RX0 yX0_mergings yX0_mergings]
def wsL_count_r4 : List Cond := [Cond.code yX0_mergings cX0_mergings 1 (some .int), Cond.fieldLink RX0 30 "SlipLevels$Binder" "mergings" "I"]
def wsL_count : List Cond := .codeWith yL_count cL_count 4 (some .int) [(0, 9, 12, 13)] :: ((wsL_count_r1 ++ (wsL_count_r2 ++ (wsL_count_r3 ++ wsL_count_r4))) ++ wsX20 ++ wsX10 ++ wsX00 ++ (vx_atS RX2 98 "java/lang/IndexOutOfBoundsException" ["java/lang/RuntimeException", "java/lang/Exception"]).filter goodWord)
def wsL_spares_r1 : List Cond := [Cond.classLink RL 13 "java/lang/IndexOutOfBoundsException", Cond.methodLink RL 59 yX2_spares, Cond.instanceMethod yX2_spares, Cond.selects RX2 yX2_spares yX2_spares, Cond.initialized RX2, Cond.code yX2_spares cX2_spares 2 (some .int), Cond.fieldLink RX2 19 "SlipLevels" "binder" "LSlipLevels$Binder;", Cond.fieldLink RX2 23 "SlipLevels" "trial" "LSlipLevels$Binder;", Cond.methodLink RX2 52 yX2_needLevel, Cond.static yX2_needLevel, Cond.code yX2_needLevel cX2_needLevel 1 none, Cond.classLink RX2 94 "java/lang/IndexOutOfBoundsException", Cond.initialized "java/lang/IndexOutOfBoundsException", Cond.methodLink RX2 55 yX0_runsOf, Cond.instanceMethod yX0_runsOf, Cond.selects RX0 yX0_runsOf yX0_runsOf, Cond.initialized RX0, Cond.code yX0_runsOf cX0_runsOf 2 (some .int), Cond.fieldLink RX0 17 "SlipLevels$Binder" "runs" "[I", Cond.methodLink RX2 124 yX2_tryMerging, Cond.instanceMethod yX2_tryMerging, Cond.selects RX2 yX2_tryMerging yX2_tryMerging, Cond.code yX2_tryMerging cX2_tryMerging 2 none, Cond.methodLink RX2 193 yX0_copyRuns]
def wsL_spares_r2 : List Cond := [Cond.instanceMethod yX0_copyRuns, Cond.selects RX0 yX0_copyRuns yX0_copyRuns, Cond.code yX0_copyRuns cX0_copyRuns 5 none, Cond.methodLink RX0 92 yX0_rowAt, Cond.instanceMethod yX0_rowAt, Cond.selects RX0 yX0_rowAt yX0_rowAt, Cond.code yX0_rowAt cX0_rowAt 3 (some (.object "SlipLevels$Slips")), Cond.fieldLink RX0 11 "SlipLevels$Binder" "rows" "[LSlipLevels$Slips;", Cond.methodLink RX0 95 yX1_copy, Cond.instanceMethod yX1_copy, Cond.selects RX1 yX1_copy yX1_copy, Cond.initialized RX1, Cond.code yX1_copy cX1_copy 2 none, Cond.fieldLink RX1 9 "SlipLevels$Slips" "words" "[I", Cond.methodLink RX1 40 arraycopyName, Cond.native arraycopyName, Cond.static arraycopyName, Cond.initialized "java/lang/System", Cond.fieldLink RX1 24 "SlipLevels$Slips" "size" "I", Cond.fieldLink RX1 28 "SlipLevels$Slips" "tombs" "I", Cond.fieldLink RX1 31 "SlipLevels$Slips" "least" "I", Cond.fieldLink RX1 34 "SlipLevels$Slips" "greatest" "I", Cond.fieldLink RX1 37 "SlipLevels$Slips" "sieve" "I", Cond.methodLink RX2 67 yX0_mergeLevel]
def wsL_spares_r3 : List Cond := [Cond.instanceMethod yX0_mergeLevel, Cond.selects RX0 yX0_mergeLevel yX0_mergeLevel, Cond.code yX0_mergeLevel cX0_mergeLevel 2 none, Cond.methodLink RX0 76 Lib.Math.min.name, Cond.static Lib.Math.min.name, Cond.initialized "java/lang/Math", Cond.code Lib.Math.min.name Lib.Math.min.code 2 (some .int), Cond.fieldLink RX0 22 "SlipLevels$Binder" "merged" "LSlipLevels$Slips;", Cond.fieldLink RX0 30 "SlipLevels$Binder" "mergings" "I", Cond.methodLink RX0 69 yX0_nothingBehind, Cond.instanceMethod yX0_nothingBehind, Cond.selects RX0 yX0_nothingBehind yX0_nothingBehind, Cond.code yX0_nothingBehind cX0_nothingBehind 3 (some .boolean), Cond.methodLink RX0 33 yX0_runsOf, Cond.methodLink RX0 72 yX0_gather, Cond.instanceMethod yX0_gather, Cond.selects RX0 yX0_gather yX0_gather, Cond.code yX0_gather cX0_gather 5 none, Cond.methodLink RX0 85 yX1_clear, Cond.instanceMethod yX1_clear, Cond.selects RX1 yX1_clear yX1_clear, Cond.code yX1_clear cX1_clear 1 none, Cond.methodLink RX1 18 yJ7_fill_53178, Cond.static yJ7_fill_53178]
def wsL_spares_r4 : List Cond := [Cond.initialized RJ7, Cond.code yJ7_fill_53178 cJ7_fill_53178 4 none, Cond.methodLink RX0 54 yX0_firstWordIn, Cond.instanceMethod yX0_firstWordIn, Cond.selects RX0 yX0_firstWordIn yX0_firstWordIn, Cond.code yX0_firstWordIn cX0_firstWordIn 5 (some .int), Cond.methodLink RX0 37 yX0_runAt, Cond.instanceMethod yX0_runAt, Cond.selects RX0 yX0_runAt yX0_runAt, Cond.code yX0_runAt cX0_runAt 4 (some (.object "SlipLevels$Slips")), Cond.methodLink RX0 51 yX1_wordAt, Cond.instanceMethod yX1_wordAt, Cond.selects RX1 yX1_wordAt yX1_wordAt, Cond.code yX1_wordAt cX1_wordAt 2 (some .int), Cond.methodLink RX0 88 yX1_put, Cond.instanceMethod yX1_put, Cond.selects RX1 yX1_put yX1_put, Cond.code yX1_put cX1_put 4 none, Cond.methodLink RX1 46 Lib.Math.min.name, Cond.methodLink RX1 52 Lib.Math.max.name, Cond.static Lib.Math.max.name, Cond.code Lib.Math.max.name Lib.Math.max.code 2 (some .int), Cond.methodLink RX0 81 yX0_addRun, Cond.instanceMethod yX0_addRun]
def wsL_spares_r5 : List Cond := [Cond.selects RX0 yX0_addRun yX0_addRun, Cond.code yX0_addRun cX0_addRun 4 none, Cond.fieldLink RX0 26 "SlipLevels$Binder" "moves" "I", Cond.methodLink RX0 41 yX1_size, Cond.instanceMethod yX1_size, Cond.selects RX1 yX1_size yX1_size, Cond.code yX1_size cX1_size 1 (some .int), Cond.methodLink RX2 70 yX0_settle, Cond.instanceMethod yX0_settle, Cond.selects RX0 yX0_settle yX0_settle, Cond.code yX0_settle cX0_settle 2 none, Cond.methodLink RX0 65 yX0_mergeLevel, Cond.methodLink RX2 127 yX0_slips, Cond.instanceMethod yX0_slips, Cond.selects RX0 yX0_slips yX0_slips, Cond.code yX0_slips cX0_slips 3 (some .int), Cond.methodLink RX0 48 yX0_slipsOf, Cond.instanceMethod yX0_slipsOf, Cond.selects RX0 yX0_slipsOf yX0_slipsOf, Cond.code yX0_slipsOf cX0_slipsOf 5 (some .int)]
def wsL_spares : List Cond := .codeWith yL_spares cL_spares 4 (some .int) [(0, 9, 12, 13)] :: ((wsL_spares_r1 ++ (wsL_spares_r2 ++ (wsL_spares_r3 ++ (wsL_spares_r4 ++ wsL_spares_r5)))) ++ wsX20 ++ wsX00 ++ wsX10 ++ (vx_atS RX2 98 "java/lang/IndexOutOfBoundsException" ["java/lang/RuntimeException", "java/lang/Exception"]).filter goodWord)
def wsL_law0_r1 : List Cond := [Cond.classLink RL 8 RX2, Cond.instantiable RX2 5, Cond.initialized RX2, Cond.classLink RL 63 RX3, Cond.instantiable RX3 4, Cond.initialized RX3, Cond.arrayClass .long, Cond.methodLink RL 62 yX2_init, Cond.instanceMethod yX2_init, Cond.code yX2_init cX2_init 1 none, Cond.methodLink RX2 1 objectInit, Cond.instanceMethod objectInit, Cond.code objectInit ⟨#[0xb1]⟩ 1 none, Cond.classLink RX2 7 RX1, Cond.instantiable RX1 6, Cond.initialized RX1, Cond.fieldLink RX2 10 "SlipLevels" "deskSlips" "LSlipLevels$Slips;", Cond.classLink RX2 16 RX0, Cond.instantiable RX0 5, Cond.initialized RX0, Cond.fieldLink RX2 19 "SlipLevels" "binder" "LSlipLevels$Binder;", Cond.fieldLink RX2 23 "SlipLevels" "trial" "LSlipLevels$Binder;", Cond.fieldLink RX2 26 "SlipLevels" "deskRoom" "I", Cond.fieldLink RX2 30 "SlipLevels" "detoursRead" "I"]
def wsL_law0_r2 : List Cond := [Cond.methodLink RX2 9 yX1_init, Cond.instanceMethod yX1_init, Cond.code yX1_init cX1_init 1 none, Cond.methodLink RX1 3 objectInit, Cond.arrayClass .int, Cond.fieldLink RX1 9 "SlipLevels$Slips" "words" "[I", Cond.methodLink RX1 15 yX1_clear, Cond.instanceMethod yX1_clear, Cond.selects RX1 yX1_clear yX1_clear, Cond.code yX1_clear cX1_clear 1 none, Cond.fieldLink RX1 24 "SlipLevels$Slips" "size" "I", Cond.fieldLink RX1 28 "SlipLevels$Slips" "tombs" "I", Cond.fieldLink RX1 31 "SlipLevels$Slips" "least" "I", Cond.fieldLink RX1 34 "SlipLevels$Slips" "greatest" "I", Cond.fieldLink RX1 37 "SlipLevels$Slips" "sieve" "I", Cond.methodLink RX1 18 yJ7_fill_53178, Cond.static yJ7_fill_53178, Cond.initialized RJ7, Cond.code yJ7_fill_53178 cJ7_fill_53178 4 none, Cond.methodLink RX2 18 yX0_init, Cond.instanceMethod yX0_init, Cond.code yX0_init cX0_init 2 none, Cond.methodLink RX0 3 objectInit, Cond.classLink RX0 9 RX1]
def wsL_law0_r3 : List Cond := [Cond.fieldLink RX0 11 "SlipLevels$Binder" "rows" "[LSlipLevels$Slips;", Cond.fieldLink RX0 17 "SlipLevels$Binder" "runs" "[I", Cond.fieldLink RX0 22 "SlipLevels$Binder" "merged" "LSlipLevels$Slips;", Cond.fieldLink RX0 26 "SlipLevels$Binder" "moves" "I", Cond.fieldLink RX0 30 "SlipLevels$Binder" "mergings" "I", Cond.methodLink RX0 21 yX1_init, Cond.methodLink RL 65 yX3_init, Cond.instanceMethod yX3_init, Cond.code yX3_init cX3_init 1 none, Cond.methodLink RX3 1 objectInit, Cond.fieldLink RX3 13 "SlipLevelsModel" "desk" "[I", Cond.classLink RX3 19 "[I", Cond.fieldLink RX3 20 "SlipLevelsModel" "levels" "[[[I", Cond.fieldLink RX3 24 "SlipLevelsModel" "numbers" "[I", Cond.methodLink RX3 7 yX3_empty, Cond.static yX3_empty, Cond.code yX3_empty cX3_empty 2 (some (.array .int)), Cond.methodLink RL 66 yL_write, Cond.static yL_write, Cond.initialized RL, Cond.codeWith yL_write cL_write 5 (some .int) [(0, 17, 20, 13), (0, 17, 24, 15)], Cond.classLink RL 13 "java/lang/IndexOutOfBoundsException", Cond.classLink RL 15 "java/lang/IllegalArgumentException", Cond.methodLink RL 7 yX2_write]
def wsL_law0_r4 : List Cond := [Cond.instanceMethod yX2_write, Cond.selects RX2 yX2_write yX2_write, Cond.code yX2_write cX2_write 3 (some .boolean), Cond.classLink RX2 37 "java/lang/IllegalArgumentException", Cond.initialized "java/lang/IllegalArgumentException", Cond.methodLink RX2 33 yX2_needNumber, Cond.static yX2_needNumber, Cond.code yX2_needNumber cX2_needNumber 1 none, Cond.classLink RX2 94 "java/lang/IndexOutOfBoundsException", Cond.initialized "java/lang/IndexOutOfBoundsException", Cond.methodLink RX2 44 yX1_put, Cond.instanceMethod yX1_put, Cond.selects RX1 yX1_put yX1_put, Cond.code yX1_put cX1_put 4 none, Cond.methodLink RX1 46 Lib.Math.min.name, Cond.static Lib.Math.min.name, Cond.initialized "java/lang/Math", Cond.code Lib.Math.min.name Lib.Math.min.code 2 (some .int), Cond.methodLink RX1 52 Lib.Math.max.name, Cond.static Lib.Math.max.name, Cond.code Lib.Math.max.name Lib.Math.max.code 2 (some .int), Cond.methodLink RX2 48 yX2_bindFrom, Cond.instanceMethod yX2_bindFrom, Cond.selects RX2 yX2_bindFrom yX2_bindFrom]
def wsL_law0_r5 : List Cond := [Cond.code yX2_bindFrom cX2_bindFrom 3 (some .int), Cond.methodLink RX2 160 yX1_size, Cond.instanceMethod yX1_size, Cond.selects RX1 yX1_size yX1_size, Cond.code yX1_size cX1_size 1 (some .int), Cond.methodLink RX2 63 yX0_moves, Cond.instanceMethod yX0_moves, Cond.selects RX0 yX0_moves yX0_moves, Cond.code yX0_moves cX0_moves 1 (some .int), Cond.methodLink RX2 163 yX0_addRun, Cond.instanceMethod yX0_addRun, Cond.selects RX0 yX0_addRun yX0_addRun, Cond.code yX0_addRun cX0_addRun 4 none, Cond.methodLink RX0 33 yX0_runsOf, Cond.instanceMethod yX0_runsOf, Cond.selects RX0 yX0_runsOf yX0_runsOf, Cond.code yX0_runsOf cX0_runsOf 2 (some .int), Cond.methodLink RX0 92 yX0_rowAt, Cond.instanceMethod yX0_rowAt, Cond.selects RX0 yX0_rowAt yX0_rowAt, Cond.code yX0_rowAt cX0_rowAt 3 (some (.object "SlipLevels$Slips")), Cond.methodLink RX0 41 yX1_size, Cond.methodLink RX0 95 yX1_copy, Cond.instanceMethod yX1_copy]
def wsL_law0_r6 : List Cond := [Cond.selects RX1 yX1_copy yX1_copy, Cond.code yX1_copy cX1_copy 2 none, Cond.methodLink RX1 40 arraycopyName, Cond.native arraycopyName, Cond.static arraycopyName, Cond.initialized "java/lang/System", Cond.methodLink RX2 167 yX1_clear, Cond.methodLink RX2 70 yX0_settle, Cond.instanceMethod yX0_settle, Cond.selects RX0 yX0_settle yX0_settle, Cond.code yX0_settle cX0_settle 2 none, Cond.methodLink RX0 65 yX0_mergeLevel, Cond.instanceMethod yX0_mergeLevel, Cond.selects RX0 yX0_mergeLevel yX0_mergeLevel, Cond.code yX0_mergeLevel cX0_mergeLevel 2 none, Cond.methodLink RX0 76 Lib.Math.min.name, Cond.methodLink RX0 69 yX0_nothingBehind, Cond.instanceMethod yX0_nothingBehind, Cond.selects RX0 yX0_nothingBehind yX0_nothingBehind, Cond.code yX0_nothingBehind cX0_nothingBehind 3 (some .boolean), Cond.methodLink RX0 72 yX0_gather, Cond.instanceMethod yX0_gather, Cond.selects RX0 yX0_gather yX0_gather, Cond.code yX0_gather cX0_gather 5 none]
def wsL_law0_r7 : List Cond := [Cond.methodLink RX0 85 yX1_clear, Cond.methodLink RX0 54 yX0_firstWordIn, Cond.instanceMethod yX0_firstWordIn, Cond.selects RX0 yX0_firstWordIn yX0_firstWordIn, Cond.code yX0_firstWordIn cX0_firstWordIn 5 (some .int), Cond.methodLink RX0 37 yX0_runAt, Cond.instanceMethod yX0_runAt, Cond.selects RX0 yX0_runAt yX0_runAt, Cond.code yX0_runAt cX0_runAt 4 (some (.object "SlipLevels$Slips")), Cond.methodLink RX0 51 yX1_wordAt, Cond.instanceMethod yX1_wordAt, Cond.selects RX1 yX1_wordAt yX1_wordAt, Cond.code yX1_wordAt cX1_wordAt 2 (some .int), Cond.methodLink RX0 88 yX1_put, Cond.methodLink RX0 81 yX0_addRun, Cond.methodLink RL 71 yX3_write, Cond.instanceMethod yX3_write, Cond.selects RX3 yX3_write yX3_write, Cond.code yX3_write cX3_write 3 (some .boolean), Cond.fieldLink RX3 27 "SlipLevelsModel" "thrown" "I", Cond.methodLink RX3 70 yX3_isNumber, Cond.static yX3_isNumber, Cond.code yX3_isNumber cX3_isNumber 1 (some .boolean), Cond.methodLink RX3 31 yX3_isIn]
def wsL_law0_r8 : List Cond := [Cond.static yX3_isIn, Cond.code yX3_isIn cX3_isIn 3 (some .boolean), Cond.methodLink RX3 73 yX3_put, Cond.instanceMethod yX3_put, Cond.selects RX3 yX3_put yX3_put, Cond.code yX3_put cX3_put 3 (some .boolean), Cond.methodLink RX3 39 yX3_size, Cond.static yX3_size, Cond.code yX3_size cX3_size 6 (some .int), Cond.methodLink RX3 66 yX3_bound, Cond.instanceMethod yX3_bound, Cond.selects RX3 yX3_bound yX3_bound, Cond.code yX3_bound cX3_bound 2 (some .int), Cond.methodLink RX3 55 yX3_come, Cond.instanceMethod yX3_come, Cond.selects RX3 yX3_come yX3_come, Cond.code yX3_come cX3_come 5 none, Cond.methodLink RX3 43 arraycopyName, Cond.methodLink RX3 63 yX3_settle, Cond.instanceMethod yX3_settle, Cond.selects RX3 yX3_settle yX3_settle, Cond.code yX3_settle cX3_settle 2 none, Cond.methodLink RX3 59 yX3_mergeOne, Cond.instanceMethod yX3_mergeOne]
def wsL_law0_r9 : List Cond := [Cond.selects RX3 yX3_mergeOne yX3_mergeOne, Cond.code yX3_mergeOne cX3_mergeOne 5 none, Cond.methodLink RX3 49 Lib.Math.min.name, Cond.methodLink RL 72 yX3_thrown, Cond.instanceMethod yX3_thrown, Cond.selects RX3 yX3_thrown yX3_thrown, Cond.code yX3_thrown cX3_thrown 1 (some .int), Cond.methodLink RL 76 yL_strike, Cond.static yL_strike, Cond.codeWith yL_strike cL_strike 4 (some .int) [(0, 16, 19, 13)], Cond.methodLink RL 17 yX2_strike, Cond.instanceMethod yX2_strike, Cond.selects RX2 yX2_strike yX2_strike, Cond.code yX2_strike cX2_strike 2 (some .boolean), Cond.methodLink RL 79 yX3_strike, Cond.instanceMethod yX3_strike, Cond.selects RX3 yX3_strike yX3_strike, Cond.code yX3_strike cX3_strike 2 (some .boolean), Cond.methodLink RL 80 yX2_bind, Cond.instanceMethod yX2_bind, Cond.selects RX2 yX2_bind yX2_bind, Cond.code yX2_bind cX2_bind 1 (some .int), Cond.methodLink RL 83 yX3_bind, Cond.instanceMethod yX3_bind]
def wsL_law0_r10 : List Cond := [Cond.selects RX3 yX3_bind yX3_bind, Cond.code yX3_bind cX3_bind 1 (some .int), Cond.methodLink RL 84 yL_merge, Cond.static yL_merge, Cond.codeWith yL_merge cL_merge 4 (some .int) [(0, 9, 12, 13), (0, 9, 15, 25)], Cond.classLink RL 25 "java/lang/IllegalStateException", Cond.methodLink RL 21 yX2_merge, Cond.instanceMethod yX2_merge, Cond.selects RX2 yX2_merge yX2_merge, Cond.code yX2_merge cX2_merge 3 (some .int), Cond.classLink RX2 58 "java/lang/IllegalStateException", Cond.initialized "java/lang/IllegalStateException", Cond.methodLink RX2 52 yX2_needLevel, Cond.static yX2_needLevel, Cond.code yX2_needLevel cX2_needLevel 1 none, Cond.methodLink RX2 55 yX0_runsOf, Cond.methodLink RX2 67 yX0_mergeLevel, Cond.methodLink RL 86 yX3_merge, Cond.instanceMethod yX3_merge, Cond.selects RX3 yX3_merge yX3_merge, Cond.code yX3_merge cX3_merge 3 (some .int), Cond.methodLink RX3 35 yX3_isLevel, Cond.static yX3_isLevel, Cond.code yX3_isLevel cX3_isLevel 1 (some .boolean)]
def wsL_law0_r11 : List Cond := [Cond.methodLink RX3 77 yX3_fail, Cond.instanceMethod yX3_fail, Cond.selects RX3 yX3_fail yX3_fail, Cond.code yX3_fail cX3_fail 2 (some .int), Cond.methodLink RL 87 yL_setRoom, Cond.static yL_setRoom, Cond.codeWith yL_setRoom cL_setRoom 4 (some .int) [(0, 9, 12, 15)], Cond.methodLink RL 27 yX2_setRoom, Cond.instanceMethod yX2_setRoom, Cond.selects RX2 yX2_setRoom yX2_setRoom, Cond.code yX2_setRoom cX2_setRoom 3 (some .int), Cond.methodLink RL 89 yX3_setRoom, Cond.instanceMethod yX3_setRoom, Cond.selects RX3 yX3_setRoom yX3_setRoom, Cond.code yX3_setRoom cX3_setRoom 3 (some .int), Cond.methodLink RL 90 yL_read, Cond.static yL_read, Cond.codeWith yL_read cL_read 4 (some .int) [(0, 9, 12, 13)], Cond.methodLink RL 30 yX2_read, Cond.instanceMethod yX2_read, Cond.selects RX2 yX2_read yX2_read, Cond.code yX2_read cX2_read 2 (some .int), Cond.methodLink RX2 75 yX2_detoursIn, Cond.instanceMethod yX2_detoursIn]
def wsL_law0_r12 : List Cond := [Cond.selects RX2 yX2_detoursIn yX2_detoursIn, Cond.code yX2_detoursIn cX2_detoursIn 3 (some .int), Cond.methodLink RX2 176 yX1_has, Cond.instanceMethod yX1_has, Cond.selects RX1 yX1_has yX1_has, Cond.code yX1_has cX1_has 2 (some .boolean), Cond.methodLink RX1 55 yX1_wordAt, Cond.methodLink RX2 180 yX0_detoursTo, Cond.instanceMethod yX0_detoursTo, Cond.selects RX0 yX0_detoursTo yX0_detoursTo, Cond.code yX0_detoursTo cX0_detoursTo 6 (some .int), Cond.methodLink RX0 62 yX1_opensFor, Cond.instanceMethod yX1_opensFor, Cond.selects RX1 yX1_opensFor yX1_opensFor, Cond.code yX1_opensFor cX1_opensFor 2 (some .boolean), Cond.methodLink RX0 58 yX1_has, Cond.methodLink RX2 79 yX2_wordOf, Cond.instanceMethod yX2_wordOf, Cond.selects RX2 yX2_wordOf yX2_wordOf, Cond.code yX2_wordOf cX2_wordOf 3 (some .int), Cond.methodLink RX2 170 yX1_wordAt, Cond.methodLink RX2 173 yX0_firstWord, Cond.instanceMethod yX0_firstWord, Cond.selects RX0 yX0_firstWord yX0_firstWord]
def wsL_law0_r13 : List Cond := [Cond.code yX0_firstWord cX0_firstWord 4 (some .int), Cond.methodLink RL 92 yX3_read, Cond.instanceMethod yX3_read, Cond.selects RX3 yX3_read yX3_read, Cond.code yX3_read cX3_read 2 (some .int), Cond.methodLink RX3 95 yX3_opened, Cond.instanceMethod yX3_opened, Cond.selects RX3 yX3_opened yX3_opened, Cond.code yX3_opened cX3_opened 11 (some .int), Cond.methodLink RX3 87 yX3_end, Cond.static yX3_end, Cond.code yX3_end cX3_end 4 (some .int), Cond.methodLink RX3 91 yX3_isOpen, Cond.static yX3_isOpen, Cond.code yX3_isOpen cX3_isOpen 3 (some .boolean), Cond.methodLink RX3 98 yX3_word, Cond.instanceMethod yX3_word, Cond.selects RX3 yX3_word yX3_word, Cond.code yX3_word cX3_word 2 (some .int), Cond.methodLink RX3 84 Lib.Math.max.name, Cond.methodLink RX3 81 yX3_said, Cond.instanceMethod yX3_said, Cond.selects RX3 yX3_said yX3_said, Cond.code yX3_said cX3_said 10 (some .int)]
def wsL_law0_r14 : List Cond := [Cond.methodLink RL 93 yL_detours, Cond.static yL_detours, Cond.codeWith yL_detours cL_detours 4 (some .int) [(0, 9, 12, 13)], Cond.methodLink RL 33 yX2_detours, Cond.instanceMethod yX2_detours, Cond.selects RX2 yX2_detours yX2_detours, Cond.code yX2_detours cX2_detours 2 (some .int), Cond.methodLink RL 95 yX3_detours, Cond.instanceMethod yX3_detours, Cond.selects RX3 yX3_detours yX3_detours, Cond.code yX3_detours cX3_detours 2 (some .int), Cond.methodLink RL 96 yL_next, Cond.static yL_next, Cond.codeWith yL_next cL_next 4 (some .int) [(0, 9, 12, 13)], Cond.methodLink RL 36 yX2_next, Cond.instanceMethod yX2_next, Cond.selects RX2 yX2_next yX2_next, Cond.code yX2_next cX2_next 3 (some .int), Cond.methodLink RL 98 yX3_next, Cond.instanceMethod yX3_next, Cond.selects RX3 yX3_next yX3_next, Cond.code yX3_next cX3_next 3 (some .int), Cond.methodLink RL 99 yL_sum, Cond.static yL_sum]
def wsL_law0_r15 : List Cond := [Cond.codeWith yL_sum cL_sum 5 (some .int) [(0, 10, 13, 13), (0, 10, 17, 15)], Cond.methodLink RL 39 yX2_sum, Cond.instanceMethod yX2_sum, Cond.selects RX2 yX2_sum yX2_sum, Cond.code yX2_sum cX2_sum 5 (some .int), Cond.methodLink RX2 84 Lib.Math.max.name, Cond.methodLink RL 101 yX3_sum, Cond.instanceMethod yX3_sum, Cond.selects RX3 yX3_sum yX3_sum, Cond.code yX3_sum cX3_sum 5 (some .int), Cond.methodLink RL 102 yL_run, Cond.static yL_run, Cond.codeWith yL_run cL_run 6 (some .int) [(0, 12, 15, 13)], Cond.methodLink RL 43 yX2_run, Cond.instanceMethod yX2_run, Cond.selects RX2 yX2_run yX2_run, Cond.code yX2_run cX2_run 5 (some .int), Cond.methodLink RX2 90 yX0_runAt, Cond.methodLink RX2 101 yX2_standingIn, Cond.instanceMethod yX2_standingIn, Cond.selects RX2 yX2_standingIn yX2_standingIn, Cond.code yX2_standingIn cX2_standingIn 5 (some .int), Cond.methodLink RX2 183 yX0_isFirst, Cond.instanceMethod yX0_isFirst]
def wsL_law0_r16 : List Cond := [Cond.selects RX0 yX0_isFirst yX0_isFirst, Cond.code yX0_isFirst cX0_isFirst 6 (some .boolean), Cond.methodLink RX2 104 yX1_fact, Cond.instanceMethod yX1_fact, Cond.selects RX1 yX1_fact yX1_fact, Cond.code yX1_fact cX1_fact 2 (some .int), Cond.methodLink RL 105 yX3_run, Cond.instanceMethod yX3_run, Cond.selects RX3 yX3_run yX3_run, Cond.code yX3_run cX3_run 4 (some .int), Cond.methodLink RX3 107 yX3_isRun, Cond.instanceMethod yX3_isRun, Cond.selects RX3 yX3_isRun yX3_isRun, Cond.code yX3_isRun cX3_isRun 3 (some .boolean), Cond.methodLink RX3 110 yX3_runTold, Cond.instanceMethod yX3_runTold, Cond.selects RX3 yX3_runTold yX3_runTold, Cond.code yX3_runTold cX3_runTold 7 (some .int), Cond.methodLink RX3 101 yX3_tombs, Cond.static yX3_tombs, Cond.code yX3_tombs cX3_tombs 6 (some .int), Cond.methodLink RX3 104 yX3_standing, Cond.instanceMethod yX3_standing, Cond.selects RX3 yX3_standing yX3_standing]
def wsL_law0_r17 : List Cond := [Cond.code yX3_standing cX3_standing 9 (some .int), Cond.methodLink RL 106 yL_slip, Cond.static yL_slip, Cond.codeWith yL_slip cL_slip 6 (some .int) [(0, 12, 15, 13)], Cond.methodLink RL 47 yX2_slip, Cond.instanceMethod yX2_slip, Cond.selects RX2 yX2_slip yX2_slip, Cond.code yX2_slip cX2_slip 5 (some .int), Cond.methodLink RX2 107 yX2_slipAt, Cond.static yX2_slipAt, Cond.code yX2_slipAt cX2_slipAt 3 (some .int), Cond.methodLink RX2 152 yX1_numberAt, Cond.instanceMethod yX1_numberAt, Cond.selects RX1 yX1_numberAt yX1_numberAt, Cond.code yX1_numberAt cX1_numberAt 4 (some .int), Cond.methodLink RX1 59 yX1_has, Cond.methodLink RX2 157 yX1_told, Cond.instanceMethod yX1_told, Cond.selects RX1 yX1_told yX1_told, Cond.code yX1_told cX1_told 3 (some .int), Cond.methodLink RL 108 yX3_slip, Cond.instanceMethod yX3_slip, Cond.selects RX3 yX3_slip yX3_slip, Cond.code yX3_slip cX3_slip 4 (some .int)]
def wsL_law0_r18 : List Cond := [Cond.methodLink RX3 114 yX3_slipTold, Cond.static yX3_slipTold, Cond.code yX3_slipTold cX3_slipTold 4 (some .int), Cond.methodLink RL 109 yL_desk, Cond.static yL_desk, Cond.codeWith yL_desk cL_desk 4 (some .int) [(0, 9, 12, 13)], Cond.methodLink RL 50 yX2_desk, Cond.instanceMethod yX2_desk, Cond.selects RX2 yX2_desk yX2_desk, Cond.code yX2_desk cX2_desk 2 (some .int), Cond.methodLink RL 111 yX3_desk, Cond.instanceMethod yX3_desk, Cond.selects RX3 yX3_desk yX3_desk, Cond.code yX3_desk cX3_desk 2 (some .int), Cond.methodLink RL 112 yL_level, Cond.static yL_level, Cond.codeWith yL_level cL_level 5 (some .int) [(0, 10, 13, 13)], Cond.methodLink RL 53 yX2_level, Cond.instanceMethod yX2_level, Cond.selects RX2 yX2_level yX2_level, Cond.code yX2_level cX2_level 3 (some .int), Cond.methodLink RX2 113 yX0_slipsOf, Cond.instanceMethod yX0_slipsOf, Cond.selects RX0 yX0_slipsOf yX0_slipsOf]
def wsL_law0_r19 : List Cond := [Cond.code yX0_slipsOf cX0_slipsOf 5 (some .int), Cond.methodLink RX2 116 yX0_tombsOf, Cond.instanceMethod yX0_tombsOf, Cond.selects RX0 yX0_tombsOf yX0_tombsOf, Cond.code yX0_tombsOf cX0_tombsOf 5 (some .int), Cond.methodLink RX0 45 yX1_tombs, Cond.instanceMethod yX1_tombs, Cond.selects RX1 yX1_tombs yX1_tombs, Cond.code yX1_tombs cX1_tombs 1 (some .int), Cond.methodLink RL 114 yX3_level, Cond.instanceMethod yX3_level, Cond.selects RX3 yX3_level yX3_level, Cond.code yX3_level cX3_level 3 (some .int), Cond.methodLink RX3 118 yX3_levelTold, Cond.instanceMethod yX3_levelTold, Cond.selects RX3 yX3_levelTold yX3_levelTold, Cond.code yX3_levelTold cX3_levelTold 8 (some .int), Cond.methodLink RL 115 yL_count, Cond.static yL_count, Cond.codeWith yL_count cL_count 4 (some .int) [(0, 9, 12, 13)], Cond.methodLink RL 56 yX2_count, Cond.instanceMethod yX2_count, Cond.selects RX2 yX2_count yX2_count, Cond.code yX2_count cX2_count 2 (some .int)]
def wsL_law0_r20 : List Cond := [Cond.methodLink RX2 121 yX2_tally, Cond.instanceMethod yX2_tally, Cond.selects RX2 yX2_tally yX2_tally, Cond.code yX2_tally cX2_tally 2 (some .int), Cond.methodLink RX2 127 yX0_slips, Cond.instanceMethod yX0_slips, Cond.selects RX0 yX0_slips yX0_slips, Cond.code yX0_slips cX0_slips 3 (some .int), Cond.methodLink RX0 48 yX0_slipsOf, Cond.methodLink RX2 187 yX2_wordsStanding, Cond.instanceMethod yX2_wordsStanding, Cond.selects RX2 yX2_wordsStanding yX2_wordsStanding, Cond.code yX2_wordsStanding cX2_wordsStanding 3 (some .int), Cond.methodLink RX2 190 yX0_mergings, Cond.instanceMethod yX0_mergings, Cond.selects RX0 yX0_mergings yX0_mergings, Cond.code yX0_mergings cX0_mergings 1 (some .int), Cond.methodLink RL 117 yX3_count, Cond.instanceMethod yX3_count, Cond.selects RX3 yX3_count yX3_count, Cond.code yX3_count cX3_count 2 (some .int), Cond.methodLink RX3 124 yX3_counted, Cond.instanceMethod yX3_counted, Cond.selects RX3 yX3_counted yX3_counted]
def wsL_law0_r21 : List Cond := [Cond.code yX3_counted cX3_counted 4 (some .int), Cond.methodLink RX3 121 yX3_slips, Cond.instanceMethod yX3_slips, Cond.selects RX3 yX3_slips yX3_slips, Cond.code yX3_slips cX3_slips 3 (some .int), Cond.methodLink RL 118 yL_spares, Cond.static yL_spares, Cond.codeWith yL_spares cL_spares 4 (some .int) [(0, 9, 12, 13)], Cond.methodLink RL 59 yX2_spares, Cond.instanceMethod yX2_spares, Cond.selects RX2 yX2_spares yX2_spares, Cond.code yX2_spares cX2_spares 2 (some .int), Cond.methodLink RX2 124 yX2_tryMerging, Cond.instanceMethod yX2_tryMerging, Cond.selects RX2 yX2_tryMerging yX2_tryMerging, Cond.code yX2_tryMerging cX2_tryMerging 2 none, Cond.methodLink RX2 193 yX0_copyRuns, Cond.instanceMethod yX0_copyRuns, Cond.selects RX0 yX0_copyRuns yX0_copyRuns, Cond.code yX0_copyRuns cX0_copyRuns 5 none, Cond.methodLink RL 120 yX3_spares, Cond.instanceMethod yX3_spares, Cond.selects RX3 yX3_spares yX3_spares, Cond.code yX3_spares cX3_spares 2 (some .int)]
def wsL_law0_r22 : List Cond := [Cond.methodLink RX3 136 yX3_tried, Cond.instanceMethod yX3_tried, Cond.selects RX3 yX3_tried yX3_tried, Cond.code yX3_tried cX3_tried 6 (some .int), Cond.classLink RX3 128 "[[[I", Cond.methodLink RX3 132 ⟨"[I", "clone", "()Ljava/lang/Object;"⟩, Cond.sameMethod "[I" "java/lang/Object" "clone" "()Ljava/lang/Object;", Cond.native ⟨"java/lang/Object", "clone", "()Ljava/lang/Object;"⟩, Cond.instanceMethod ⟨"java/lang/Object", "clone", "()Ljava/lang/Object;"⟩, Cond.selects "[I" ⟨"[I", "clone", "()Ljava/lang/Object;"⟩ ⟨"java/lang/Object", "clone", "()Ljava/lang/Object;"⟩, Cond.methodLink RX3 133 yX3_allOpened, Cond.instanceMethod yX3_allOpened, Cond.selects RX3 yX3_allOpened yX3_allOpened, Cond.code yX3_allOpened cX3_allOpened 3 (some .int), Cond.methodLink RL 121 yX2_advise, Cond.instanceMethod yX2_advise, Cond.selects RX2 yX2_advise yX2_advise, Cond.code yX2_advise cX2_advise 5 (some .int), Cond.methodLink RX2 130 yX2_allDetoursIn, Cond.instanceMethod yX2_allDetoursIn, Cond.selects RX2 yX2_allDetoursIn yX2_allDetoursIn, Cond.code yX2_allDetoursIn cX2_allDetoursIn 4 (some .int), Cond.methodLink RL 124 yX3_advise, Cond.instanceMethod yX3_advise]
def wsL_law0_r23 : List Cond := [Cond.selects RX3 yX3_advise yX3_advise, Cond.code yX3_advise cX3_advise 5 (some .int), Cond.methodLink RL 125 yX2_mean, Cond.instanceMethod yX2_mean, Cond.selects RX2 yX2_mean yX2_mean, Cond.code yX2_mean cX2_mean 1 (some .double), Cond.constantDouble RX2 134 (4634204016564240384), Cond.methodLink RL 129 yX3_mean, Cond.instanceMethod yX3_mean, Cond.selects RX3 yX3_mean yX3_mean, Cond.code yX3_mean cX3_mean 1 (some .double), Cond.constantDouble RX3 140 (4634204016564240384), Cond.methodLink RL 130 yX2_digest, Cond.instanceMethod yX2_digest, Cond.selects RX2 yX2_digest yX2_digest, Cond.code yX2_digest cX2_digest 4 (some .long), Cond.constantLong RX2 136 (1493), Cond.constantLong RX2 138 (31), Cond.methodLink RX2 140 yX2_digestSlips, Cond.static yX2_digestSlips, Cond.code yX2_digestSlips cX2_digestSlips 6 (some .long), Cond.methodLink RX2 144 yX2_digestLevel, Cond.instanceMethod yX2_digestLevel, Cond.selects RX2 yX2_digestLevel yX2_digestLevel]
def wsL_law0_r24 : List Cond := [Cond.code yX2_digestLevel cX2_digestLevel 11 (some .long), Cond.methodLink RL 134 yX3_digest, Cond.instanceMethod yX3_digest, Cond.selects RX3 yX3_digest yX3_digest, Cond.code yX3_digest cX3_digest 6 (some .long), Cond.constantLong RX3 142 (1493), Cond.constantLong RX3 144 (31)]
def wsL_law0 : List Cond := (wsL_law0_r1 ++ (wsL_law0_r2 ++ (wsL_law0_r3 ++ (wsL_law0_r4 ++ (wsL_law0_r5 ++ (wsL_law0_r6 ++ (wsL_law0_r7 ++ (wsL_law0_r8 ++ (wsL_law0_r9 ++ (wsL_law0_r10 ++ (wsL_law0_r11 ++ (wsL_law0_r12 ++ (wsL_law0_r13 ++ (wsL_law0_r14 ++ (wsL_law0_r15 ++ (wsL_law0_r16 ++ (wsL_law0_r17 ++ (wsL_law0_r18 ++ (wsL_law0_r19 ++ (wsL_law0_r20 ++ (wsL_law0_r21 ++ (wsL_law0_r22 ++ (wsL_law0_r23 ++ wsL_law0_r24))))))))))))))))))))))) ++ wsX20 ++ wsX30 ++ wsX10 ++ wsX00 ++ ([] : List Cond)
def wsL_law : List Cond := wsL_law0 ++ (vx_atS RX2 41 "java/lang/IllegalArgumentException" ["java/lang/RuntimeException", "java/lang/Exception"]).filter goodWord ++ (vx_atS RX2 98 "java/lang/IndexOutOfBoundsException" ["java/lang/RuntimeException", "java/lang/Exception"]).filter goodWord ++ (vx_atS RX2 62 "java/lang/IllegalStateException" ["java/lang/RuntimeException", "java/lang/Exception"]).filter goodWord
abbrev vwCl : List vw_C := [(RX0, TX0, 5), (RX1, TX1, 6), (RX2, TX2, 5), (RX3, TX3, 4)]
end
section
/-! THE HEAP AS A MAP: an address holds an array (its kind, length, contents) or an object (its class' place, its fields). Rows over it. -/
abbrev hE : Type := (Nat × vp_A) ⊕ (Nat × List Value)
abbrev HP : Type := Nat → Option hE
abbrev hG : Type := va_G × (Nat → ClassId)
def hat (G : hG) (a : Nat) (e : hE) (H : Heap) : Prop := match e with
  | .inl x => H[a]? = some (vp_cell (G.2 x.1) x.2)
  | .inr o => va_at G.1 vwCl (a, .inr o) H
def hV (G : hG) (hp : HP) (H : Heap) : Prop := ∀ (a : Nat) (e : hE), hp a = some e → hat G a e H
abbrev hTs (G : hG) : List (ClassId × FieldType) := [(G.2 0, .int), (G.2 1, .long), (G.2 2, .object RX1), (G.2 3, .array .int), (G.2 4, .array (.array .int))]
def hK (G : hG) (U : State) : Prop := va_K G.1 vwCl (hTs G) U
def hput (hp : HP) (a : Nat) (e : hE) : HP := fun q => if q = a then some e else hp q
abbrev eI (n : Nat) (f : Nat → Int32) : hE := .inl (0, n, .inl f)
abbrev eJ (n : Nat) (f : Nat → Int64) : hE := .inl (1, n, .inr (.inl f))
abbrev eQ (t n : Nat) (f : Nat → Option Nat) : hE := .inl (t, n, .inr (.inr (.inr (.inr f))))
abbrev eO (c : Nat) (fs : List Value) : hE := .inr (c, fs)
theorem hput_s (hp : HP) (a : Nat) (e : hE) : hput hp a e a = some e := by simp [hput]
theorem hput_n (hp : HP) {a q : Nat} (e : hE) (h : q ≠ a) : hput hp a e q = hp q := by simp [hput, h]
theorem hput_hput (hp : HP) (a : Nat) (e e2 : hE) : hput (hput hp a e) a e2 = hput hp a e2 := by
  funext q
  by_cases h : q = a <;> simp [hput, h]
theorem hput_comm (hp : HP) {a b : Nat} (e e2 : hE) (h : a ≠ b) : hput (hput hp a e) b e2 = hput (hput hp b e2) a e := by
  funext q
  by_cases h1 : q = a
  · subst h1
    simp [hput, h]
  · by_cases h2 : q = b
    · subst h2
      simp [hput, h1]
    · simp [hput, h1, h2]
theorem hput_same {hp : HP} {a : Nat} {e : hE} (h : hp a = some e) : hput hp a e = hp := by
  funext q
  by_cases h1 : q = a
  · subst h1
    simp [hput, h]
  · simp [hput, h1]
theorem hat.kept {G : hG} {a : Nat} {e : hE} {H H1 : Heap} (h : hat G a e H) (hq : H1[a]? = H[a]?) : hat G a e H1 := by
  cases e with
  | inl x => exact hq.trans h
  | inr o => exact va_at.kept (q := (a, .inr o)) h hq
theorem hat.lt {G : hG} {a : Nat} {e : hE} {H : Heap} (h : hat G a e H) : a < H.size := by
  cases e with
  | inl x => exact (Array.getElem?_eq_some_iff.mp h).1
  | inr o => exact va_at.lt (q := (a, .inr o)) h
theorem hV.put {G : hG} {hp : HP} {H H1 : Heap} {a : Nat} {e : hE} (h : hV G hp H) (he : hat G a e H1) (oq : ∀ q : Nat, q ≠ a → H1[q]? = H[q]?) : hV G (hput hp a e) H1 := by
  intro q x hx
  by_cases h1 : q = a
  · subst h1
    rw [hput_s] at hx
    cases hx
    exact he
  · rw [hput_n _ _ h1] at hx
    exact (h q x hx).kept (oq q h1)
theorem hV.new {G : hG} {hp : HP} {H H1 : Heap} {a : Nat} {e : hE} (h : hV G hp H) (ha : a = H.size) (he : hat G a e H1) (oq : ∀ q : Nat, q < a → H1[q]? = H[q]?) : hV G (hput hp a e) H1 := by
  intro q x hx
  by_cases h1 : q = a
  · subst h1
    rw [hput_s] at hx
    cases hx
    exact he
  · rw [hput_n _ _ h1] at hx
    have := (h q x hx).lt
    exact (h q x hx).kept (oq q (by omega))
theorem hV.none {G : hG} {hp : HP} {H : Heap} (h : hV G hp H) {a : Nat} (ha : H.size ≤ a) : hp a = none := by
  cases hh : hp a with
  | none => rfl
  | some e =>
    have := (h a e hh).lt
    omega
theorem hV.P1 {G : hG} {hp : HP} {H : Heap} {a ci : Nat} {fs : List Value} (h : hV G hp H) (he : hp a = some (.inr (ci, fs))) : va_P G.1 vwCl [(a, .inr (ci, fs))] H := by
  intro k q hk
  match k, hk with
  | 0, hk => cases hk; exact h a _ he
  | k + 1, hk => simp at hk
theorem hV.P2 {G : hG} {hp : HP} {H : Heap} {a t : Nat} {x : vp_A} (h : hV G hp H) (he : hp a = some (.inl (t, x))) : va_P G.1 vwCl [(a, .inl (G.2 t, x))] H := by
  intro k q hk
  match k, hk with
  | 0, hk => cases hk; exact h a _ he
  | k + 1, hk => simp at hk
/-- two contents of an int array that agree below its length are one -/
theorem hat_congr {G : hG} {a n : Nat} {f g : Nat → Int32} {H : Heap} (h : hat G a (eI n f) H) (hfg : ∀ j, j < n → f j = g j) : hat G a (eI n g) H := by
  have e : vp_cell (G.2 0) (n, .inl f) = vp_cell (G.2 0) (n, .inl g) := by
    rw [vp_cell_i, vp_cell_i]
    unfold arrV
    congr 1
    apply Array.ext
    · simp
    · intro i h1 h2
      simp only [Array.getElem_ofFn]
      rw [hfg i (by simpa using h1)]
  show H[a]? = some (vp_cell (G.2 0) (n, .inl g))
  rw [← e]
  exact h
theorem hatq_congr {G : hG} {a t n : Nat} {f g : Nat → Option Nat} {H : Heap} (h : hat G a (eQ t n f) H) (hfg : ∀ j, j < n → f j = g j) : hat G a (eQ t n g) H := by
  have e : vp_cell (G.2 t) (n, .inr (.inr (.inr (.inr f)))) = vp_cell (G.2 t) (n, .inr (.inr (.inr (.inr g)))) := by
    rw [vp_cell_q, vp_cell_q]
    unfold arrV
    congr 1
    apply Array.ext
    · simp
    · intro i h1 h2
      simp only [Array.getElem_ofFn]
      rw [hfg i (by simpa using h1)]
  show H[a]? = some (vp_cell (G.2 t) (n, .inr (.inr (.inr (.inr g)))))
  rw [← e]
  exact h
theorem hV.recast {G : hG} {hp hp' : HP} {H : Heap} (h : hV G hp H) (hc : ∀ a e, hp' a = some e → hp a = some e ∨ (∃ n f g, hp a = some (eI n f) ∧ e = eI n g ∧ ∀ j, j < n → f j = g j) ∨ (∃ t n f g, hp a = some (eQ t n f) ∧ e = eQ t n g ∧ ∀ j, j < n → f j = g j)) : hV G hp' H := by
  intro a e he
  rcases hc a e he with h1 | ⟨n, f, g, h1, rfl, h2⟩ | ⟨t, n, f, g, h1, rfl, h2⟩
  · exact h a e h1
  · exact hat_congr (h a _ h1) h2
  · exact hatq_congr (h a _ h1) h2
theorem hK.moved {G : hG} {u U : State} (hvm : u.vm.Alike U.vm) (h : hK G u) : hK G U := va_K.moved hvm h
/-- what a reading method starts from -/
def hPr (G : hG) (hp : HP) (av : List Value) : Array Value → State → Prop := va_Pc av (fun U => hV G hp U.heap ∧ hK G U)
/-- a reading method's end: its answer, the heap as it was -/
def hR (ro : Option Value) : Array Value → State → Outcome → State → Prop := fun _ st o t => o = .returned ro ∧ t.heap = st.heap
/-- what a writing method starts from -/
def hPw (G : hG) (A : Nat → Prop) (hp : HP) (av : List Value) : Array Value → State → Prop := va_Pc av (fun U => hV G hp U.heap ∧ hK G U ∧ ∀ q : Nat, U.heap.size ≤ q → A q)
def hIn (A : Nat → Prop) (hp : HP) : Prop := ∀ a e, hp a = some e → A a
/-- a writing method's end -/
def hW (G : hG) (A : Nat → Prop) (P : Option Value → HP → Prop) : Array Value → State → Outcome → State → Prop := fun _ st o t => (∃ (ro : Option Value) (hp' : HP), o = .returned ro ∧ P ro hp' ∧ hV G hp' t.heap ∧ hIn A hp') ∧ va_F A st t
theorem hIn.put {A : Nat → Prop} {hp : HP} {a : Nat} {e : hE} (h : hIn A hp) (ha : A a) : hIn A (hput hp a e) := by
  intro q x hx
  by_cases h1 : q = a
  · subst h1; exact ha
  · rw [hput_n _ _ h1] at hx
    exact h q x hx
theorem hPr_blind {G : hG} {hp : HP} {av : List Value} : FrameBlind (hPr G hp av) := fun a U g mk q => ⟨q.1, q.2.1, hK.moved (u := U) (U := U.calling g mk a) (Vm.Alike.refl U.vm) q.2.2⟩
theorem hPw_blind {G : hG} {A : Nat → Prop} {hp : HP} {av : List Value} : FrameBlind (hPw G A hp av) := fun a U g mk q => ⟨q.1, q.2.1, hK.moved (u := U) (U := U.calling g mk a) (Vm.Alike.refl U.vm) q.2.2.1, q.2.2.2⟩
theorem h_recv {G : hG} {hp : HP} {s : State} {H : Heap} {a ci : Nat} {fs : List Value} {q : vw_C} (hK0 : hK G s) (hV0 : hV G hp H) (he : hp a = some (.inr (ci, fs))) (hc : vwCl[ci]? = some q) : ∃ cell : Cell, H[a]? = some cell ∧ cell.vm.isStatics = false ∧ s.vm.findClass q.1 = some cell.cls := va_recv hK0 (hV0.P1 he) hc (q0 := 0) rfl
theorem h_preV {G : hG} {hp : HP} {s : State} {H : Heap} {b ci : Nat} {fs : List Value} {q : vw_C} {As : List Value} (hK0 : hK G s) (hV0 : hV G hp H) (he : hp b = some (.inr (ci, fs))) (hc : vwCl[ci]? = some q) : PreV s H q.1 b (hPr G hp (.ref b :: As)) As :=
  ⟨hPr_blind, h_recv hK0 hV0 he hc, fun U hU hW => ⟨rfl, by rw [hU]; exact hV0, hK.moved hW.alike hK0⟩⟩
theorem h_preS {G : hG} {hp : HP} {s : State} {H : Heap} {As : List Value} (hK0 : hK G s) (hV0 : hV G hp H) : PreS s H (hPr G hp As) As :=
  ⟨hPr_blind, fun U hU hW => ⟨rfl, by rw [hU]; exact hV0, hK.moved hW.alike hK0⟩⟩
theorem h_preVw {G : hG} {A : Nat → Prop} {hp : HP} {s : State} {H : Heap} {locs : List Loc} {b ci : Nat} {fs : List Value} {q : vw_C} {As : List Value} (hK0 : hK G s) (hV0 : hV G hp H) (hA : ∀ q : Nat, s.heap.size ≤ q → A q) (hS : va_S A s.heap H locs) (he : hp b = some (.inr (ci, fs))) (hc : vwCl[ci]? = some q) : PreV s H q.1 b (hPw G A hp (.ref b :: As)) As :=
  ⟨hPw_blind, h_recv hK0 hV0 he hc, fun U hU hW => ⟨rfl, by rw [hU]; exact hV0, hK.moved hW.alike hK0, fun q hq => hA q (Nat.le_trans hS.1 (by rw [← hU]; exact hq))⟩⟩
theorem h_preSw {G : hG} {A : Nat → Prop} {hp : HP} {s : State} {H : Heap} {locs : List Loc} {As : List Value} (hK0 : hK G s) (hV0 : hV G hp H) (hA : ∀ q : Nat, s.heap.size ≤ q → A q) (hS : va_S A s.heap H locs) : PreS s H (hPw G A hp As) As :=
  ⟨hPw_blind, fun U hU hW => ⟨rfl, by rw [hU]; exact hV0, hK.moved hW.alike hK0, fun q hq => hA q (Nat.le_trans hS.1 (by rw [← hU]; exact hq))⟩⟩
section HA
variable {p : Program} {l : Launch} {e : Env} {R : Room} {s : State} {m : MethodId} {args : Array Value} {below : List Frame} {meth : Method} {c : Code} {H : Heap} {locs : List Loc} {cells slots : Nat} {Q : State → Prop}
variable {cc : ByteArray} {pc : Nat} {ls : Array Slot} {rest st0 : List Value} {G : hG} {hp : HP} {A : Nat → Prop} {a : Nat} {H0 : Heap} {mc ms : Nat}
theorem h_callR {ro : Option Value} {av : Array Value} {free : Addr → Prop} (hf : ∀ q, free q → False) (hr : va_Run p l e R s m args below meth c H locs cells slots 0 0 (F0 m pc ls st0) rest (hR ro av) free)
    (kk : W p l e R s m args below meth c H locs cells slots Q (F0 m (pc + 3) ls (ro.toList ++ rest))) : W p l e R s m args below meth c H locs cells slots Q (F0 m pc ls st0) := by
  intro T hT X
  obtain ⟨v, st₀, t, T', L, h0, X', hL, e1, e2, ⟨hv, hh⟩, st⟩ := hr T hT X
  cases hv
  obtain ⟨t2, a1, b1⟩ := kk T' (by rw [e1, hh, h0]) (Stand.forget X' (fun q h => (hf _ (hL q h)).elim))
  exact ⟨t2, st t2 a1, b1⟩
theorem h_callW {P : Option Value → HP → Prop} {av : Array Value} (hr : va_Run p l e R s m args below meth c H locs cells slots mc ms (F0 m pc ls st0) rest (hW G A P av) A) (hS : va_S A H0 H locs)
    (kk : ∀ (ro : Option Value) (hp' : HP) (H1 : Heap) (locs1 : List Loc), P ro hp' → hV G hp' H1 → hIn A hp' → va_S A H0 H1 locs1 → W p l e R s m args below meth c H1 locs1 (cells + mc) (slots + ms) Q (F0 m (pc + 3) ls (ro.toList ++ rest))) : W p l e R s m args below meth c H locs cells slots Q (F0 m pc ls st0) := by
  intro T hT X
  obtain ⟨v, st₀, t, T', L, h0, X', hL, e1, e2, ⟨⟨ro, hp', hv, hp1, hv1, hin1⟩, hz, hk⟩, st⟩ := hr T hT X
  cases hv
  rw [h0] at hz hk
  obtain ⟨t2, a1, b1⟩ := kk v hp' T'.heap (locs ++ L) hp1 (by rw [e1]; exact hv1) hin1
    ⟨Nat.le_trans hS.1 (by rw [e1]; exact hz), fun q h1 h2 => by rw [e1, hk q (Nat.lt_of_lt_of_le h1 hS.1) h2]; exact hS.2.1 q h1 h2, fun q hq => by
      rcases List.mem_append.mp hq with h | h
      · exact hS.2.2 q h
      · exact hL q h⟩ T' rfl X'
  exact ⟨t2, st t2 a1, b1⟩
theorem h_get (hexec : p.tables.exec = Jvm.exec) (hb : c.code = cc) {own C : String} {T : u_T} {N ci index : Nat} {Ts : List Cond} (hts : ∀ w ∈ Ts, w.before args s = true) (hin : ∀ w ∈ u_ws C T N, w ∈ Ts) (hown : s.vm.findClass own = some m.cls) (hK0 : hK G s) (hV0 : hV G hp H) {fs : List Value} (he : hp a = some (.inr (ci, fs))) (hc : vwCl[ci]? = some (C, T, N)) (k : Nat) (hk : k < N) (hlink : (Cond.fieldLink own index (T k).1 (T k).2.1 (T k).2.2.1).before args s = true) {v : Value} (hv : fs[k]? = some v) (hdg : decode cc pc = .ok (.getfield index, 3))
    (kk : W p l e R s m args below meth c H locs cells slots Q (F0 m (pc + 3) ls (v :: rest))) : W p l e R s m args below meth c H locs cells slots Q (F0 m pc ls (.ref a :: rest)) :=
  va_get hexec hb hts hin hown hK0 (hV0.P1 he) 0 rfl hc k hk hlink (fun _ h => h) hv hdg kk
theorem h_iald (hexec : p.tables.exec = Jvm.exec) (hb : c.code = cc) (hK0 : hK G s) (hV0 : hV G hp H) {n : Nat} {f : Nat → Int32} (he : hp a = some (eI n f)) {i : Nat} (hi : i < n) (hn : n < 2 ^ 31) (hdg : decode cc pc = .ok (.iaload, 1))
    (kk : W p l e R s m args below meth c H locs cells slots Q (F0 m (pc + 1) ls (.int (f i) :: rest))) : W p l e R s m args below meth c H locs cells slots Q (F0 m pc ls (.int (nI i) :: .ref a :: rest)) :=
  va_iald hexec hb hK0 (hV0.P2 he) 0 0 rfl rfl (vp_in_nI hi hn) hdg (by rw [nI_clamp (show i < 2 ^ 31 by omega)]; exact kk)
theorem h_lald (hexec : p.tables.exec = Jvm.exec) (hb : c.code = cc) (hK0 : hK G s) (hV0 : hV G hp H) {n : Nat} {f : Nat → Int64} (he : hp a = some (eJ n f)) {i : Nat} (hi : i < n) (hn : n < 2 ^ 31) (hdg : decode cc pc = .ok (.laload, 1))
    (kk : W p l e R s m args below meth c H locs cells slots Q (F0 m (pc + 1) ls (.long (f i) :: rest))) : W p l e R s m args below meth c H locs cells slots Q (F0 m pc ls (.int (nI i) :: .ref a :: rest)) :=
  va_lald hexec hb hK0 (hV0.P2 he) 0 1 rfl rfl (vp_in_nI hi hn) hdg (by rw [nI_clamp (show i < 2 ^ 31 by omega)]; exact kk)
theorem h_aald (hexec : p.tables.exec = Jvm.exec) (hb : c.code = cc) (hK0 : hK G s) (hV0 : hV G hp H) {t n : Nat} {ty : FieldType} {f : Nat → Option Nat} (he : hp a = some (eQ t n f)) (ht : (hTs G)[t]? = some (G.2 t, ty)) (hr : ty.isReference = true) {i : Nat} (hi : i < n) (hn : n < 2 ^ 31) (hdg : decode cc pc = .ok (.aaload, 1))
    (kk : W p l e R s m args below meth c H locs cells slots Q (F0 m (pc + 1) ls (va_rf (f i) :: rest))) : W p l e R s m args below meth c H locs cells slots Q (F0 m pc ls (.int (nI i) :: .ref a :: rest)) := by
  have hin := vp_in_nI hi hn
  have hcl := nI_clamp (show i < 2 ^ 31 by omega)
  exact W.aald (v := va_rf (f i)) (ty := ty) hexec hb (hV0 a _ he) ((hK0.2 t _ ht).1 n (fun j => va_rf (f j))) hr (fun q => by cases q) (by show ¬ (nI i < 0 ∨ (arrV _ _ _).slots.size ≤ _); rw [arrV_size]; exact hin) (by show (arrV _ _ _).slots[_]? = _; rw [hcl, arrV_read _ _ hi]) rfl rfl hdg kk
theorem h_alen (hexec : p.tables.exec = Jvm.exec) (hb : c.code = cc) (hK0 : hK G s) (hV0 : hV G hp H) {t : Nat} {x : vp_A} (he : hp a = some (.inl (t, x))) {ty : FieldType} (ht : (hTs G)[t]? = some (G.2 t, ty)) (hdg : decode cc pc = .ok (.arraylength, 1))
    (kk : W p l e R s m args below meth c H locs cells slots Q (F0 m (pc + 1) ls (.int (nI x.1) :: rest))) : W p l e R s m args below meth c H locs cells slots Q (F0 m pc ls (.ref a :: rest)) :=
  va_alen hexec hb hK0 (hV0.P2 he) 0 t rfl ht rfl hdg kk
theorem h_put (hexec : p.tables.exec = Jvm.exec) (hb : c.code = cc) {own C : String} {T : u_T} {N ci index : Nat} {Ts : List Cond} (hts : ∀ w ∈ Ts, w.before args s = true) (hin : ∀ w ∈ u_ws C T N, w ∈ Ts) (ty0 : Nat → FieldType) (hty : ∀ k, k < N → parseFieldDescriptor (T k).2.2.1 = some (ty0 k)) (hnm : ∀ a, a < N → ∀ b, b < N → a ≠ b → (T a).2.1 ≠ (T b).2.1) (hown : s.vm.findClass own = some m.cls) (hK0 : hK G s) (hV0 : hV G hp H) (hA0 : hIn A hp) (hS0 : va_S A H0 H locs) {fs : List Value} (he : hp a = some (.inr (ci, fs))) (hc : vwCl[ci]? = some (C, T, N)) (k : Nat) (hk : k < N) (hlink : (Cond.fieldLink own index (T k).1 (T k).2.1 (T k).2.2.1).before args s = true) (hfin : (T k).2.2.2 = false) {v : Value} (hn : narrow (ty0 k) v = v) (hfit : fits (ty0 k) v = true) (hl : k < fs.length)
    (hdg : decode cc pc = .ok (.putfield index, 3)) (kk : ∀ (H1 : Heap) (locs1 : List Loc), hV G (hput hp a (.inr (ci, fs.set k v))) H1 → hIn A (hput hp a (.inr (ci, fs.set k v))) → va_S A H0 H1 locs1 → W p l e R s m args below meth c H1 locs1 cells slots Q (F0 m (pc + 3) ls rest)) : W p l e R s m args below meth c H locs cells slots Q (F0 m pc ls (v :: .ref a :: rest)) := by
  have hap := va_apart (own := own) hts hin ty0 hty hnm hK0 hc
  obtain ⟨r, h1, cell, q1, q2, q3, q4⟩ := hV0 a _ he
  have hr : r = (C, T, N) := Option.some.inj (h1.symm.trans hc)
  subst hr
  obtain ⟨hSl, hfc, kC, hkC, hkind⟩ := hK0.1 ci _ hc
  obtain ⟨cf, kf, fi, f, hi, hsl⟩ := hSl k hk
  have hlay := hts _ (hin _ (u_in_lay hk))
  unfold u_lay at hlay
  rw [if_neg (by rw [hfin]; decide)] at hlay
  have hst := (u_facts hfc hkC (u_lays hts hin hk) hi).1
  have h6 := u_store hfc hkC hkind hlay hi (hty k hk) hn hfit
  refine W.putK hexec hb (f := f) ⟨hown, hlink, ⟨_, _, _, hi⟩, hst⟩ (by rw [q2]; exact h6) q1 q3 (by rw [hsl]; exact k2_hasslot (q4 k hk)) rfl rfl hdg fun H' e1 e2 e3 => ?_
  rw [hsl] at e1 ⊢
  exact kk H' _ (hV0.put (e := .inr (ci, fs.set k v)) ⟨_, hc, t_OB.to (V := updV (vp_V fs) k v) ⟨_, e1, q2, q3, t_set q4 hap hk v⟩ (fun j _ => vp_updV_set hl v j)⟩ e3) (hA0.put (hA0 a _ he)) (hS0.put e2 e3 (hA0 a _ he))
theorem h_putF (hexec : p.tables.exec = Jvm.exec) (hb : c.code = cc) {own C : String} {T : u_T} {N ci index : Nat} {Ts : List Cond} (hts : ∀ w ∈ Ts, w.before args s = true) (hin : ∀ w ∈ u_ws C T N, w ∈ Ts) (ty0 : Nat → FieldType) (hty : ∀ k, k < N → parseFieldDescriptor (T k).2.2.1 = some (ty0 k)) (hnm : ∀ a, a < N → ∀ b, b < N → a ≠ b → (T a).2.1 ≠ (T b).2.1) (hown : s.vm.findClass own = some m.cls) (hK0 : hK G s) (hV0 : hV G hp H) (hA0 : hIn A hp) (hS0 : va_S A H0 H locs) {fs : List Value} (he : hp a = some (.inr (ci, fs))) (hc : vwCl[ci]? = some (C, T, N)) (k : Nat) (hk : k < N) (hlink : (Cond.fieldLink own index (T k).1 (T k).2.1 (T k).2.2.1).before args s = true) (hfin : (T k).2.2.2 = true) (hin2 : meth.name = "<init>") (hdecl : (T k).1 = own) {v : Value} (hn : narrow (ty0 k) v = v) (hfit : fits (ty0 k) v = true) (hl : k < fs.length)
    (hdg : decode cc pc = .ok (.putfield index, 3)) (kk : ∀ (H1 : Heap) (locs1 : List Loc), hV G (hput hp a (.inr (ci, fs.set k v))) H1 → hIn A (hput hp a (.inr (ci, fs.set k v))) → va_S A H0 H1 locs1 → W p l e R s m args below meth c H1 locs1 cells slots Q (F0 m (pc + 3) ls rest)) : W p l e R s m args below meth c H locs cells slots Q (F0 m pc ls (v :: .ref a :: rest)) := by
  have hap := va_apart (own := own) hts hin ty0 hty hnm hK0 hc
  obtain ⟨r, h1, cell, q1, q2, q3, q4⟩ := hV0 a _ he
  have hr : r = (C, T, N) := Option.some.inj (h1.symm.trans hc)
  subst hr
  obtain ⟨hSl, hfc, kC, hkC, hkind⟩ := hK0.1 ci _ hc
  obtain ⟨cf, kf, fi, f, hi, hsl⟩ := hSl k hk
  have hlay := hts _ (hin _ (u_in_lay hk))
  unfold u_lay at hlay
  rw [if_pos hfin] at hlay
  have hst := (u_facts hfc hkC (u_lays hts hin hk) hi).1
  have hcf : m.cls = cf := by
    obtain ⟨_, _, c', _, _, _, -, -, hf', -, -, -, hown2, -⟩ := Cond.laysFinal_spec hlay
    have e1 : c' = cf := by have := hi.symm.trans hf'; simp at this; exact this.1.symm
    rw [hdecl] at hown2
    rw [← e1]; exact Option.some.inj (hown.symm.trans hown2)
  have h6 := u_fits hfc hkC hkind (Or.inr hlay) hi (hty k hk) hn hfit
  refine W.putFinK hexec hb hown hlink hi hst hcf hin2 (by rw [q2]; exact h6) q1 q3 (by rw [hsl]; exact k2_hasslot (q4 k hk)) rfl rfl hdg fun H' e1 e2 e3 => ?_
  rw [hsl] at e1 ⊢
  exact kk H' _ (hV0.put (e := .inr (ci, fs.set k v)) ⟨_, hc, t_OB.to (V := updV (vp_V fs) k v) ⟨_, e1, q2, q3, t_set q4 hap hk v⟩ (fun j _ => vp_updV_set hl v j)⟩ e3) (hA0.put (hA0 a _ he)) (hS0.put e2 e3 (hA0 a _ he))
theorem h_iast (hexec : p.tables.exec = Jvm.exec) (hb : c.code = cc) (hK0 : hK G s) (hV0 : hV G hp H) (hA0 : hIn A hp) (hS : va_S A H0 H locs) {n : Nat} {f : Nat → Int32} (he : hp a = some (eI n f)) {i : Nat} {x : Int32} (hi : i < n) (hn : n < 2 ^ 31) (hdg : decode cc pc = .ok (.iastore, 1))
    (kk : ∀ (H1 : Heap) (locs1 : List Loc), hV G (hput hp a (eI n (upd f i x))) H1 → hIn A (hput hp a (eI n (upd f i x))) → va_S A H0 H1 locs1 → W p l e R s m args below meth c H1 locs1 cells slots Q (F0 m (pc + 1) ls rest)) : W p l e R s m args below meth c H locs cells slots Q (F0 m pc ls (.int x :: .int (nI i) :: .ref a :: rest)) := by
  have hin := vp_in_nI hi hn
  have hcl := nI_clamp (show i < 2 ^ 31 by omega)
  refine W.iast hexec hb (hV0 a _ he) ((hK0.2 0 _ rfl).1 n (fun j => .int (f j))) (fun q => by cases q) (by show ¬ (nI i < 0 ∨ (arrV _ _ _).slots.size ≤ _); rw [arrV_size]; exact hin) rfl rfl hdg fun H1 e z oq => ?_
  refine kk H1 _ (hV0.put (e := eI n (upd f i x)) ?_ oq) (hA0.put (hA0 a _ he)) (hS.put z oq (hA0 a _ he))
  show H1[a]? = some (vp_cell _ _)
  rw [e]
  rw [hcl]
  show some ((vp_cell (G.2 0) (n, .inl f)).setSlot i (.int x)) = some (vp_cell (G.2 0) (n, .inl (upd f i x)))
  rw [vp_cell_i, vp_cell_i, arrV_store]
  congr 2
  funext q
  by_cases hq : q = i
  · subst hq
    simp [updV, upd]
  · simp [updV, upd, hq]
theorem h_last (hexec : p.tables.exec = Jvm.exec) (hb : c.code = cc) (hK0 : hK G s) (hV0 : hV G hp H) (hA0 : hIn A hp) (hS : va_S A H0 H locs) {n : Nat} {f : Nat → Int64} (he : hp a = some (eJ n f)) {i : Nat} {x : Int64} (hi : i < n) (hn : n < 2 ^ 31) (hdg : decode cc pc = .ok (.lastore, 1))
    (kk : ∀ (H1 : Heap) (locs1 : List Loc), hV G (hput hp a (eJ n (va_up f i x))) H1 → hIn A (hput hp a (eJ n (va_up f i x))) → va_S A H0 H1 locs1 → W p l e R s m args below meth c H1 locs1 cells slots Q (F0 m (pc + 1) ls rest)) : W p l e R s m args below meth c H locs cells slots Q (F0 m pc ls (.long x :: .int (nI i) :: .ref a :: rest)) := by
  have hin := vp_in_nI hi hn
  have hcl := nI_clamp (show i < 2 ^ 31 by omega)
  refine W.last hexec hb (hV0 a _ he) ((hK0.2 1 _ rfl).1 n (fun j => .long (f j))) (fun q => by cases q) (by show ¬ (nI i < 0 ∨ (arrV _ _ _).slots.size ≤ _); rw [arrV_size]; exact hin) rfl rfl hdg fun H1 e z oq => ?_
  refine kk H1 _ (hV0.put (e := eJ n (va_up f i x)) ?_ oq) (hA0.put (hA0 a _ he)) (hS.put z oq (hA0 a _ he))
  show H1[a]? = some (vp_cell _ _)
  rw [e]
  rw [hcl]
  show some ((vp_cell (G.2 1) (n, .inr (.inl f))).setSlot i (.long x)) = some (vp_cell (G.2 1) (n, .inr (.inl (va_up f i x))))
  rw [vp_cell_l, vp_cell_l, arrV_store]
  congr 2
  funext q
  by_cases hq : q = i
  · subst hq
    simp [updV, va_up]
  · simp [updV, va_up, hq]
end HA
/-! a reading method's contract, its call; rows over natural numbers -/
def hRd (l : Launch) (y : MethodName) (ws : List Cond) (fr lo : Nat) (G : hG) (hp : HP) (av : List Value) (ro : Option Value) : Prop := Met l y ws { frames := fr, cells := 0, slots := 0, locals := lo } (hPr G hp av) (hR ro) 0 0 (fun _ => False)
def hWr (l : Launch) (y : MethodName) (ws : List Cond) (fr lo mc ms : Nat) (G : hG) (A : Nat → Prop) (hp : HP) (av : List Value) (P : Option Value → HP → Prop) : Prop := Met l y ws { frames := fr, cells := mc, slots := ms, locals := lo } (hPw G A hp av) (hW G A P) mc ms A
def bI (b : Bool) : Int32 := if b then 1 else 0
theorem narrow_bI (b : Bool) : narrow .boolean (.int (bI b)) = .int (bI b) := by cases b <;> rfl
theorem nI_inc (a : Nat) : nI a + Int32.ofInt 1 = nI (a + 1) := nI_1 a
section HB
variable {p : Program} {l : Launch} {e : Env} {R : Room} {s : State} {m : MethodId} {args : Array Value} {below : List Frame} {meth : Method} {c : Code} {H : Heap} {locs : List Loc} {cells slots : Nat} {Q : State → Prop}
variable {cc : ByteArray} {pc : Nat} {ls : Array Slot} {rest st0 : List Value} {G : hG} {hp : HP} {A : Nat → Prop} {a : Nat} {H0 : Heap} {mc ms : Nat}
theorem h_rdV {own C : String} {index maxL nL fr lo ci : Nat} {y : MethodName} {bytes : ByteArray} {ret : Option FieldType} {Ts ws ws' : List Cond} {fs As : List Value} {ro : Option Value} {q : vw_C} (S : CallFix p m c cc nL s args Ts own) (hM : hRd l y ws fr lo G hp (.ref a :: As) ro) (n : Nat) (hT : GoodIn Ts (wsV own index C y ws)) (hw : ws = Cond.code y bytes maxL ret :: ws')
    (hd : y.cls = C ∧ y.cls ≠ "java/lang/invoke/MethodHandle" ∧ y.cls ≠ "java/lang/invoke/VarHandle" ∧ (parseMethodDescriptor y.desc).map (fun d => d.parameters.length) = some n) (hRm : fr + 1 ≤ R.frames ∧ 8 + (maxL + 11) + lo ≤ R.locals) (hK0 : hK G s) (hV0 : hV G hp H) (he : hp a = some (.inr (ci, fs))) (hc : vwCl[ci]? = some q) (hq : q.1 = C)
    (hn : As.length = n) (hsize : ls.size = nL) (hstack : st0 = As.reverse ++ .ref a :: rest) (hWs : (rest.map fun v => v.category).sum ≤ 8) (hcl : cells ≤ R.cells) (hsl : slots ≤ R.slots) (hdg : decode cc pc = .ok (.invokevirtual index, 3))
    (kk : W p l e R s m args below meth c H locs cells slots Q (F0 m (pc + 3) ls (ro.toList ++ rest))) : W p l e R s m args below meth c H locs cells slots Q (F0 m pc ls st0) := by
  subst hq
  exact h_callR (fun q h => h) (va_runV (As := As) (rest := rest) S hM (cwV n S.2.2.2.2 hT hw rfl rfl hd hRm) (h_preV hK0 hV0 he hc) rfl hn hsize hstack (lv_room hWs) hdg ⟨hcl, hsl⟩) kk
theorem h_rdS {own : String} {index maxL nL fr lo : Nat} {y : MethodName} {bytes : ByteArray} {ret : Option FieldType} {Ts ws ws' : List Cond} {As : List Value} {ro : Option Value} (S : CallFix p m c cc nL s args Ts own) (hM : hRd l y ws fr lo G hp As ro) (n : Nat) (hT : GoodIn Ts (va_wsS own index y ws)) (hw : ws = Cond.code y bytes maxL ret :: ws')
    (hd : y.cls ≠ "java/lang/invoke/MethodHandle" ∧ y.cls ≠ "java/lang/invoke/VarHandle" ∧ (parseMethodDescriptor y.desc).map (fun d => d.parameters.length) = some n) (hRm : fr + 1 ≤ R.frames ∧ 8 + (maxL + 11) + lo ≤ R.locals) (hK0 : hK G s) (hV0 : hV G hp H)
    (hn : As.length = n) (hsize : ls.size = nL) (hstack : st0 = As.reverse ++ rest) (hWs : (rest.map fun v => v.category).sum ≤ 8) (hcl : cells ≤ R.cells) (hsl : slots ≤ R.slots) (hdg : decode cc pc = .ok (.invokestatic index, 3))
    (kk : W p l e R s m args below meth c H locs cells slots Q (F0 m (pc + 3) ls (ro.toList ++ rest))) : W p l e R s m args below meth c H locs cells slots Q (F0 m pc ls st0) :=
  h_callR (fun q h => h) (va_runS (As := As) (rest := rest) S hM (va_cwS n S.2.2.2.2 hT hw rfl rfl hd hRm) (h_preS hK0 hV0) rfl hn hsize hstack (lv_room hWs) hdg ⟨hcl, hsl⟩) kk
theorem h_wrV {own C : String} {index maxL nL fr lo ci : Nat} {y : MethodName} {bytes : ByteArray} {ret : Option FieldType} {Ts ws ws' : List Cond} {fs As : List Value} {P : Option Value → HP → Prop} {q : vw_C} (S : CallFix p m c cc nL s args Ts own) (hM : hWr l y ws fr lo mc ms G A hp (.ref a :: As) P) (n : Nat) (hT : GoodIn Ts (wsV own index C y ws)) (hw : ws = Cond.code y bytes maxL ret :: ws')
    (hd : y.cls = C ∧ y.cls ≠ "java/lang/invoke/MethodHandle" ∧ y.cls ≠ "java/lang/invoke/VarHandle" ∧ (parseMethodDescriptor y.desc).map (fun d => d.parameters.length) = some n) (hRm : fr + 1 ≤ R.frames ∧ 8 + (maxL + 11) + lo ≤ R.locals) (hK0 : hK G s) (hV0 : hV G hp H) (hA : ∀ q : Nat, s.heap.size ≤ q → A q) (hS : va_S A s.heap H locs) (he : hp a = some (.inr (ci, fs))) (hc : vwCl[ci]? = some q) (hq : q.1 = C)
    (hn : As.length = n) (hsize : ls.size = nL) (hstack : st0 = As.reverse ++ .ref a :: rest) (hWs : (rest.map fun v => v.category).sum ≤ 8) (hcl : cells + mc ≤ R.cells ∧ slots + ms ≤ R.slots) (hdg : decode cc pc = .ok (.invokevirtual index, 3))
    (kk : ∀ (ro : Option Value) (hp' : HP) (H1 : Heap) (locs1 : List Loc), P ro hp' → hV G hp' H1 → hIn A hp' → va_S A s.heap H1 locs1 → W p l e R s m args below meth c H1 locs1 (cells + mc) (slots + ms) Q (F0 m (pc + 3) ls (ro.toList ++ rest))) : W p l e R s m args below meth c H locs cells slots Q (F0 m pc ls st0) := by
  subst hq
  exact h_callW (va_runV (As := As) (rest := rest) S hM (cwV n S.2.2.2.2 hT hw rfl rfl hd hRm) (h_preVw hK0 hV0 hA hS he hc) rfl hn hsize hstack (lv_room hWs) hdg hcl) hS kk
theorem h_wrS {own : String} {index maxL nL fr lo : Nat} {y : MethodName} {bytes : ByteArray} {ret : Option FieldType} {Ts ws ws' : List Cond} {As : List Value} {P : Option Value → HP → Prop} (S : CallFix p m c cc nL s args Ts own) (hM : hWr l y ws fr lo mc ms G A hp As P) (n : Nat) (hT : GoodIn Ts (va_wsS own index y ws)) (hw : ws = Cond.code y bytes maxL ret :: ws')
    (hd : y.cls ≠ "java/lang/invoke/MethodHandle" ∧ y.cls ≠ "java/lang/invoke/VarHandle" ∧ (parseMethodDescriptor y.desc).map (fun d => d.parameters.length) = some n) (hRm : fr + 1 ≤ R.frames ∧ 8 + (maxL + 11) + lo ≤ R.locals) (hK0 : hK G s) (hV0 : hV G hp H) (hA : ∀ q : Nat, s.heap.size ≤ q → A q) (hS : va_S A s.heap H locs)
    (hn : As.length = n) (hsize : ls.size = nL) (hstack : st0 = As.reverse ++ rest) (hWs : (rest.map fun v => v.category).sum ≤ 8) (hcl : cells + mc ≤ R.cells ∧ slots + ms ≤ R.slots) (hdg : decode cc pc = .ok (.invokestatic index, 3))
    (kk : ∀ (ro : Option Value) (hp' : HP) (H1 : Heap) (locs1 : List Loc), P ro hp' → hV G hp' H1 → hIn A hp' → va_S A s.heap H1 locs1 → W p l e R s m args below meth c H1 locs1 (cells + mc) (slots + ms) Q (F0 m (pc + 3) ls (ro.toList ++ rest))) : W p l e R s m args below meth c H locs cells slots Q (F0 m pc ls st0) :=
  h_callW (va_runS (As := As) (rest := rest) S hM (va_cwS n S.2.2.2.2 hT hw rfl rfl hd hRm) (h_preSw hK0 hV0 hA hS) rfl hn hsize hstack (lv_room hWs) hdg hcl) hS kk
theorem h_wrI {own : String} {index maxL nL fr lo : Nat} {y : MethodName} {bytes : ByteArray} {Ts ws ws' : List Cond} {As : List Value} {P : Option Value → HP → Prop} (S : CallFix p m c cc nL s args Ts own) (hM : hWr l y ws fr lo mc ms G A hp (.ref a :: As) P) (n : Nat) (hT : GoodIn Ts ws) (hw : ws = Cond.code y bytes maxL none :: ws') (hini : (Cond.initialized y.cls).before args s = true) (hlk : (Cond.methodLink own index y).before args s = true) (hins : (Cond.instanceMethod y).before args s = true) (hy1 : y.name = "<init>")
    (hd : y.cls ≠ "java/lang/invoke/MethodHandle" ∧ y.cls ≠ "java/lang/invoke/VarHandle" ∧ (parseMethodDescriptor y.desc).map (fun d => d.parameters.length) = some n) (hRm : fr + 1 ≤ R.frames ∧ 8 + (maxL + 11) + lo ≤ R.locals) (hK0 : hK G s) (hV0 : hV G hp H) (hA : ∀ q : Nat, s.heap.size ≤ q → A q) (hS : va_S A s.heap H locs)
    (hn : As.length = n) (hsize : ls.size = nL) (hstack : st0 = As.reverse ++ .ref a :: rest) (hWs : (rest.map fun v => v.category).sum ≤ 8) (hcl : cells + mc ≤ R.cells ∧ slots + ms ≤ R.slots) (hdg : decode cc pc = .ok (.invokespecial index, 3))
    (kk : ∀ (ro : Option Value) (hp' : HP) (H1 : Heap) (locs1 : List Loc), P ro hp' → hV G hp' H1 → hIn A hp' → va_S A s.heap H1 locs1 → W p l e R s m args below meth c H1 locs1 (cells + mc) (slots + ms) Q (F0 m (pc + 3) ls (ro.toList ++ rest))) : W p l e R s m args below meth c H locs cells slots Q (F0 m pc ls st0) :=
  h_callW (va_runI (As := As) (rest := rest) S hM (cwI n S.2.2.2.2 hT hw rfl rfl hini hlk hins hy1 hd hRm) (h_preSw hK0 hV0 hA hS) rfl hn hsize hstack (lv_room hWs) hdg hcl) hS kk
theorem h_icmp_lt (hexec : p.tables.exec = Jvm.exec) (hb : c.code = cc) {a b : Nat} {off : Int} {tgt : Nat} (hdg : decode cc pc = .ok (.if_icmp .lt off, 3)) (ht : (pc : Int) + off = (tgt : Int)) (ha : a < 2 ^ 31) (hb2 : b < 2 ^ 31)
    (kt : a < b → W p l e R s m args below meth c H locs cells slots Q (F0 m tgt ls rest)) (kf : ¬ a < b → W p l e R s m args below meth c H locs cells slots Q (F0 m (pc + 3) ls rest)) : W p l e R s m args below meth c H locs cells slots Q (F0 m pc ls (.int (nI b) :: .int (nI a) :: rest)) :=
  lv_icmp_lt hexec hb hdg ht (fun h => kt ((nI_ltI ha hb2).mp h)) (fun h => kf (fun q => h ((nI_ltI ha hb2).mpr q)))
theorem h_icmp_ge (hexec : p.tables.exec = Jvm.exec) (hb : c.code = cc) {a b : Nat} {off : Int} {tgt : Nat} (hdg : decode cc pc = .ok (.if_icmp .ge off, 3)) (ht : (pc : Int) + off = (tgt : Int)) (ha : a < 2 ^ 31) (hb2 : b < 2 ^ 31)
    (kt : b ≤ a → W p l e R s m args below meth c H locs cells slots Q (F0 m tgt ls rest)) (kf : ¬ b ≤ a → W p l e R s m args below meth c H locs cells slots Q (F0 m (pc + 3) ls rest)) : W p l e R s m args below meth c H locs cells slots Q (F0 m pc ls (.int (nI b) :: .int (nI a) :: rest)) :=
  lv_icmp_ge hexec hb hdg ht (fun h => kt ((nI_leI hb2 ha).mp h)) (fun h => kf (fun q => h ((nI_leI hb2 ha).mpr q)))
theorem h_icmp_gt (hexec : p.tables.exec = Jvm.exec) (hb : c.code = cc) {a b : Nat} {off : Int} {tgt : Nat} (hdg : decode cc pc = .ok (.if_icmp .gt off, 3)) (ht : (pc : Int) + off = (tgt : Int)) (ha : a < 2 ^ 31) (hb2 : b < 2 ^ 31)
    (kt : b < a → W p l e R s m args below meth c H locs cells slots Q (F0 m tgt ls rest)) (kf : ¬ b < a → W p l e R s m args below meth c H locs cells slots Q (F0 m (pc + 3) ls rest)) : W p l e R s m args below meth c H locs cells slots Q (F0 m pc ls (.int (nI b) :: .int (nI a) :: rest)) :=
  lv_icmp_gt hexec hb hdg ht (fun h => kt ((nI_ltI hb2 ha).mp h)) (fun h => kf (fun q => h ((nI_ltI hb2 ha).mpr q)))
theorem h_icmp_le (hexec : p.tables.exec = Jvm.exec) (hb : c.code = cc) {a b : Nat} {off : Int} {tgt : Nat} (hdg : decode cc pc = .ok (.if_icmp .le off, 3)) (ht : (pc : Int) + off = (tgt : Int)) (ha : a < 2 ^ 31) (hb2 : b < 2 ^ 31)
    (kt : a ≤ b → W p l e R s m args below meth c H locs cells slots Q (F0 m tgt ls rest)) (kf : ¬ a ≤ b → W p l e R s m args below meth c H locs cells slots Q (F0 m (pc + 3) ls rest)) : W p l e R s m args below meth c H locs cells slots Q (F0 m pc ls (.int (nI b) :: .int (nI a) :: rest)) :=
  lv_icmp_le hexec hb hdg ht (fun h => kt ((nI_leI ha hb2).mp h)) (fun h => kf (fun q => h ((nI_leI ha hb2).mpr q)))
theorem h_icmp_eq (hexec : p.tables.exec = Jvm.exec) (hb : c.code = cc) {a b : Nat} {off : Int} {tgt : Nat} (hdg : decode cc pc = .ok (.if_icmp .eq off, 3)) (ht : (pc : Int) + off = (tgt : Int)) (ha : a < 2 ^ 31) (hb2 : b < 2 ^ 31)
    (kt : a = b → W p l e R s m args below meth c H locs cells slots Q (F0 m tgt ls rest)) (kf : ¬ a = b → W p l e R s m args below meth c H locs cells slots Q (F0 m (pc + 3) ls rest)) : W p l e R s m args below meth c H locs cells slots Q (F0 m pc ls (.int (nI b) :: .int (nI a) :: rest)) :=
  lv_icmp_eq hexec hb hdg ht (fun h => kt ((nI_eq ha hb2).mp h)) (fun h => kf (fun q => h ((nI_eq ha hb2).mpr q)))
theorem h_icmp_ne (hexec : p.tables.exec = Jvm.exec) (hb : c.code = cc) {a b : Nat} {off : Int} {tgt : Nat} (hdg : decode cc pc = .ok (.if_icmp .ne off, 3)) (ht : (pc : Int) + off = (tgt : Int)) (ha : a < 2 ^ 31) (hb2 : b < 2 ^ 31)
    (kt : ¬ a = b → W p l e R s m args below meth c H locs cells slots Q (F0 m tgt ls rest)) (kf : a = b → W p l e R s m args below meth c H locs cells slots Q (F0 m (pc + 3) ls rest)) : W p l e R s m args below meth c H locs cells slots Q (F0 m pc ls (.int (nI b) :: .int (nI a) :: rest)) :=
  lv_icmp_ne hexec hb hdg ht (fun h => kt (fun q => h ((nI_eq ha hb2).mpr q))) (fun h => kf ((nI_eq ha hb2).mp h))
theorem h_if_eq (hexec : p.tables.exec = Jvm.exec) (hb : c.code = cc) {a : Nat} {off : Int} {tgt : Nat} (hdg : decode cc pc = .ok (.ifCond .eq off, 3)) (ht : (pc : Int) + off = (tgt : Int)) (ha : a < 2 ^ 31)
    (kt : a = 0 → W p l e R s m args below meth c H locs cells slots Q (F0 m tgt ls rest)) (kf : ¬ a = 0 → W p l e R s m args below meth c H locs cells slots Q (F0 m (pc + 3) ls rest)) : W p l e R s m args below meth c H locs cells slots Q (F0 m pc ls (.int (nI a) :: rest)) :=
  lv_if_eq hexec hb hdg ht (fun h => kt ((nI_eq (b := 0) ha (by decide)).mp h)) (fun h => kf (fun q => h ((nI_eq (b := 0) ha (by decide)).mpr q)))
theorem h_if_ne (hexec : p.tables.exec = Jvm.exec) (hb : c.code = cc) {a : Nat} {off : Int} {tgt : Nat} (hdg : decode cc pc = .ok (.ifCond .ne off, 3)) (ht : (pc : Int) + off = (tgt : Int)) (ha : a < 2 ^ 31)
    (kt : ¬ a = 0 → W p l e R s m args below meth c H locs cells slots Q (F0 m tgt ls rest)) (kf : a = 0 → W p l e R s m args below meth c H locs cells slots Q (F0 m (pc + 3) ls rest)) : W p l e R s m args below meth c H locs cells slots Q (F0 m pc ls (.int (nI a) :: rest)) :=
  lv_if_ne hexec hb hdg ht (fun h => kt (fun q => h ((nI_eq (b := 0) ha (by decide)).mpr q))) (fun h => kf ((nI_eq (b := 0) ha (by decide)).mp h))
theorem h_if_lt (hexec : p.tables.exec = Jvm.exec) (hb : c.code = cc) {a : Nat} {off : Int} {tgt : Nat} (hdg : decode cc pc = .ok (.ifCond .lt off, 3)) (ht : (pc : Int) + off = (tgt : Int)) (ha : a < 2 ^ 31)
    (kf : W p l e R s m args below meth c H locs cells slots Q (F0 m (pc + 3) ls rest)) : W p l e R s m args below meth c H locs cells slots Q (F0 m pc ls (.int (nI a) :: rest)) :=
  lv_if_lt hexec hb hdg ht (fun h => absurd h (nI_pos ha)) (fun _ => kf)
theorem h_if_ge (hexec : p.tables.exec = Jvm.exec) (hb : c.code = cc) {a : Nat} {off : Int} {tgt : Nat} (hdg : decode cc pc = .ok (.ifCond .ge off, 3)) (ht : (pc : Int) + off = (tgt : Int)) (ha : a < 2 ^ 31)
    (kt : W p l e R s m args below meth c H locs cells slots Q (F0 m tgt ls rest)) : W p l e R s m args below meth c H locs cells slots Q (F0 m pc ls (.int (nI a) :: rest)) :=
  lv_if_ge hexec hb hdg ht (fun _ => kt) (fun h => absurd (nI_pos' ha) h)
theorem h_if_le (hexec : p.tables.exec = Jvm.exec) (hb : c.code = cc) {a : Nat} {off : Int} {tgt : Nat} (hdg : decode cc pc = .ok (.ifCond .le off, 3)) (ht : (pc : Int) + off = (tgt : Int)) (ha : a < 2 ^ 31)
    (kt : a = 0 → W p l e R s m args below meth c H locs cells slots Q (F0 m tgt ls rest)) (kf : ¬ a = 0 → W p l e R s m args below meth c H locs cells slots Q (F0 m (pc + 3) ls rest)) : W p l e R s m args below meth c H locs cells slots Q (F0 m pc ls (.int (nI a) :: rest)) :=
  lv_if_le hexec hb hdg ht (fun h => kt (by have := (nI_leI (b := 0) ha (by decide)).mp h; omega)) (fun h => kf (fun q => h (by rw [q]; decide)))
theorem h_if_gt (hexec : p.tables.exec = Jvm.exec) (hb : c.code = cc) {a : Nat} {off : Int} {tgt : Nat} (hdg : decode cc pc = .ok (.ifCond .gt off, 3)) (ht : (pc : Int) + off = (tgt : Int)) (ha : a < 2 ^ 31)
    (kt : ¬ a = 0 → W p l e R s m args below meth c H locs cells slots Q (F0 m tgt ls rest)) (kf : a = 0 → W p l e R s m args below meth c H locs cells slots Q (F0 m (pc + 3) ls rest)) : W p l e R s m args below meth c H locs cells slots Q (F0 m pc ls (.int (nI a) :: rest)) :=
  lv_if_gt hexec hb hdg ht (fun h => kt (fun q => absurd h (by rw [q]; decide))) (fun h => kf (by
    rcases Nat.eq_zero_or_pos a with q | q
    · exact q
    · exact absurd (nI_lt q ha) h))
theorem h_if_eqB (hexec : p.tables.exec = Jvm.exec) (hb : c.code = cc) {b : Bool} {off : Int} {tgt : Nat} (hdg : decode cc pc = .ok (.ifCond .eq off, 3)) (ht : (pc : Int) + off = (tgt : Int))
    (kt : b = false → W p l e R s m args below meth c H locs cells slots Q (F0 m tgt ls rest)) (kf : b = true → W p l e R s m args below meth c H locs cells slots Q (F0 m (pc + 3) ls rest)) : W p l e R s m args below meth c H locs cells slots Q (F0 m pc ls (.int (bI b) :: rest)) :=
  lv_if_eq hexec hb hdg ht (fun h => kt (by cases b; rfl; exact absurd h (by decide))) (fun h => kf (by cases b; exact absurd rfl h; rfl))
theorem h_if_neB (hexec : p.tables.exec = Jvm.exec) (hb : c.code = cc) {b : Bool} {off : Int} {tgt : Nat} (hdg : decode cc pc = .ok (.ifCond .ne off, 3)) (ht : (pc : Int) + off = (tgt : Int))
    (kt : b = true → W p l e R s m args below meth c H locs cells slots Q (F0 m tgt ls rest)) (kf : b = false → W p l e R s m args below meth c H locs cells slots Q (F0 m (pc + 3) ls rest)) : W p l e R s m args below meth c H locs cells slots Q (F0 m pc ls (.int (bI b) :: rest)) :=
  lv_if_ne hexec hb hdg ht (fun h => kt (by cases b; exact absurd rfl h; rfl)) (fun h => kf (by cases b; rfl; exact absurd h (by decide)))
theorem h_iaddN (hexec : p.tables.exec = Jvm.exec) (hb : c.code = cc) {a b : Nat} (hdg : decode cc pc = .ok (.iadd, 1))
    (k : W p l e R s m args below meth c H locs cells slots Q (F0 m (pc + 1) ls (.int (nI (a + b)) :: rest))) : W p l e R s m args below meth c H locs cells slots Q (F0 m pc ls (.int (nI b) :: .int (nI a) :: rest)) :=
  lv_iadd hexec hb hdg (by rw [nI_add]; exact k)
theorem h_isubN (hexec : p.tables.exec = Jvm.exec) (hb : c.code = cc) {a b : Nat} (h : b ≤ a) (hdg : decode cc pc = .ok (.isub, 1))
    (k : W p l e R s m args below meth c H locs cells slots Q (F0 m (pc + 1) ls (.int (nI (a - b)) :: rest))) : W p l e R s m args below meth c H locs cells slots Q (F0 m pc ls (.int (nI b) :: .int (nI a) :: rest)) :=
  lv_isub hexec hb hdg (by rw [pk_sub h]; exact k)
theorem h_imulN (hexec : p.tables.exec = Jvm.exec) (hb : c.code = cc) {a b : Nat} (hdg : decode cc pc = .ok (.imul, 1))
    (k : W p l e R s m args below meth c H locs cells slots Q (F0 m (pc + 1) ls (.int (nI (a * b)) :: rest))) : W p l e R s m args below meth c H locs cells slots Q (F0 m pc ls (.int (nI b) :: .int (nI a) :: rest)) :=
  lv_imul hexec hb hdg (by rw [pk_mul]; exact k)
theorem h_iremN (hexec : p.tables.exec = Jvm.exec) (hb : c.code = cc) {a d : Nat} (ha : a < 2 ^ 31) (h0 : 0 < d) (hd : d < 2 ^ 31) (hdg : decode cc pc = .ok (.irem, 1))
    (k : W p l e R s m args below meth c H locs cells slots Q (F0 m (pc + 1) ls (.int (nI (a % d)) :: rest))) : W p l e R s m args below meth c H locs cells slots Q (F0 m pc ls (.int (nI d) :: .int (nI a) :: rest)) :=
  lv_irem hexec hb hdg (nI_ne0 h0 hd) (by rw [pk_rem ha h0 hd]; exact k)
/-- a counting loop at one place of the code; the heap stays -/
theorem h_loop {Wf : Array Slot → Prop} {nL : Nat} (N : Nat) (L : Nat → List (Nat × Value)) (I : Nat → Prop) (hs : ∀ i : Nat, i ≤ N → I i → (i < N → I (i + 1) → ∀ ls : Array Slot, lv_has ls nL (L (i + 1)) → Wf ls) → ∀ ls : Array Slot, lv_has ls nL (L i) → Wf ls) :
    ∀ i : Nat, i ≤ N → I i → ∀ ls : Array Slot, lv_has ls nL (L i) → Wf ls := by
  have key : ∀ k i : Nat, i + k = N → I i → ∀ ls : Array Slot, lv_has ls nL (L i) → Wf ls := by
    intro k
    induction k with
    | zero => intro i hk hI; exact hs i (by omega) hI (fun h => absurd h (by omega))
    | succ k ih => intro i hk hI; exact hs i (by omega) hI (fun _ h => ih (i + 1) (by omega) h)
  intro i hi hI
  exact key (N - i) i (by omega) hI
/-- the same, with a heap that changes -/
theorem h_loopW {Wf : Nat → Heap → List Loc → Array Slot → Prop} {nL : Nat} (N : Nat) (L : Nat → List (Nat × Value)) (I : Nat → HP → Prop)
    (hs : ∀ i : Nat, i ≤ N → ∀ (hp : HP) (H : Heap) (locs : List Loc), I i hp → hV G hp H → hIn A hp → va_S A H0 H locs → (∀ (hp : HP) (H : Heap) (locs : List Loc), i < N → I (i + 1) hp → hV G hp H → hIn A hp → va_S A H0 H locs → ∀ ls : Array Slot, lv_has ls nL (L (i + 1)) → Wf (i + 1) H locs ls) → ∀ ls : Array Slot, lv_has ls nL (L i) → Wf i H locs ls) :
    ∀ i : Nat, i ≤ N → ∀ (hp : HP) (H : Heap) (locs : List Loc), I i hp → hV G hp H → hIn A hp → va_S A H0 H locs → ∀ ls : Array Slot, lv_has ls nL (L i) → Wf i H locs ls := by
  have key : ∀ k i : Nat, i + k = N → ∀ (hp : HP) (H : Heap) (locs : List Loc), I i hp → hV G hp H → hIn A hp → va_S A H0 H locs → ∀ ls : Array Slot, lv_has ls nL (L i) → Wf i H locs ls := by
    intro k
    induction k with
    | zero => intro i hk hp H locs h1 h2 h3 h4; exact hs i (by omega) hp H locs h1 h2 h3 h4 (fun _ _ _ h => absurd h (by omega))
    | succ k ih => intro i hk hp H locs h1 h2 h3 h4; exact hs i (by omega) hp H locs h1 h2 h3 h4 (fun hp H locs _ a b c d => ih (i + 1) (by omega) hp H locs a b c d)
  intro i hi
  exact key (N - i) i (by omega)
theorem h_iretR {v w : Int32} (hexec : p.tables.exec = Jvm.exec) (hb : c.code = cc) (hr : meth.sig.returnType = some .int) (hlocks : meth.locks = false) (hvw : v = w) {free : Addr → Prop} (hdg : decode cc pc = .ok (.ireturn, 1)) : W p l e R s m args below meth c s.heap [] cells slots (MQ below (hR (some (.int w))) args s cells slots free) (F0 m pc ls [.int v]) := by
  subst hvw
  exact W.iret hexec hb hr (fun t ht _ => ⟨rfl, ht⟩) (fun q h => absurd h List.not_mem_nil) hdg hlocks
theorem h_zretR {v : Int32} {b : Bool} (hexec : p.tables.exec = Jvm.exec) (hb : c.code = cc) (hr : meth.sig.returnType = some .boolean) (hlocks : meth.locks = false) (hvw : v = bI b) {free : Addr → Prop} (hdg : decode cc pc = .ok (.ireturn, 1)) : W p l e R s m args below meth c s.heap [] cells slots (MQ below (hR (some (.int (bI b)))) args s cells slots free) (F0 m pc ls [.int v]) := by
  subst hvw
  exact W.zret hexec hb hr (narrow_bI b) (fun t ht _ => ⟨rfl, ht⟩) (fun q h => absurd h List.not_mem_nil) hdg hlocks
theorem h_vretR (hexec : p.tables.exec = Jvm.exec) (hb : c.code = cc) (hr : meth.sig.returnType = none) (hlocks : meth.locks = false) {free : Addr → Prop} (hdg : decode cc pc = .ok (.return_, 1)) : W p l e R s m args below meth c s.heap [] cells slots (MQ below (hR none) args s cells slots free) (F0 m pc ls []) :=
  W.vret hexec hb hr (fun t ht _ => ⟨rfl, ht⟩) (fun q h => absurd h List.not_mem_nil) hdg hlocks
theorem h_aretR {v : Value} {rt : FieldType} {o : Option Nat} (hexec : p.tables.exec = Jvm.exec) (hb : c.code = cc) (hr : meth.sig.returnType = some rt) (hrt : (∃ n, rt = .object n) ∨ ∃ t, rt = .array t) (hlocks : meth.locks = false) (hvw : v = va_rf o) {free : Addr → Prop} (hdg : decode cc pc = .ok (.areturn, 1)) : W p l e R s m args below meth c s.heap [] cells slots (MQ below (hR (some (va_rf o))) args s cells slots free) (F0 m pc ls [v]) := by
  subst hvw
  exact W.aret hexec hb hr hrt (va_rf_or o) (fun t ht _ => ⟨rfl, ht⟩) (fun q h => absurd h List.not_mem_nil) hdg hlocks
theorem h_lretR {v w : Int64} (hexec : p.tables.exec = Jvm.exec) (hb : c.code = cc) (hr : meth.sig.returnType = some .long) (hlocks : meth.locks = false) (hvw : v = w) {free : Addr → Prop} (hdg : decode cc pc = .ok (.lreturn, 1)) : W p l e R s m args below meth c s.heap [] cells slots (MQ below (hR (some (.long w))) args s cells slots free) (F0 m pc ls [.long v]) := by
  subst hvw
  exact W.lret hexec hb hr (fun t ht _ => ⟨rfl, ht⟩) (fun q h => absurd h List.not_mem_nil) hdg hlocks
/-- a writing method's ends -/
theorem h_qW {P : Option Value → HP → Prop} {ro : Option Value} {hp' : HP} (hP : P ro hp') (hV1 : hV G hp' H) (hA1 : hIn A hp') (hS : va_S A s.heap H locs) : ∀ t : State, t.heap = H → s.WarmedH t.vm → hW G A P args s (.returned ro) t :=
  fun t ht _ => ⟨⟨ro, hp', rfl, hP, by rw [ht]; exact hV1, hA1⟩, hS.F ht⟩
end HB
end
section
/-! rows that copy, that make -/
section HC
variable {p : Program} {l : Launch} {e : Env} {R : Room} {s : State} {m : MethodId} {args : Array Value} {below : List Frame} {meth : Method} {c : Code} {H : Heap} {locs : List Loc} {cells slots : Nat} {Q : State → Prop}
variable {cc : ByteArray} {pc : Nat} {ls : Array Slot} {rest st0 : List Value} {G : hG} {hp : HP} {A : Nat → Prop} {a : Nat} {H0 : Heap} {mc ms : Nat}
theorem h_copyi (hexec : p.tables.exec = Jvm.exec) (hb : c.code = cc) (hml : c.maxLocals = ls.size) {own : String} {index : Nat} (hown : s.vm.findClass own = some m.cls) (hlink : (Cond.methodLink own index arraycopyName).before args s = true) (hnat : (Cond.native arraycopyName).before args s = true) (hstat : (Cond.static arraycopyName).before args s = true) (hini : (Cond.initialized "java/lang/System").before args s = true)
    (hK0 : hK G s) (hV0 : hV G hp H) (hA0 : hIn A hp) (hS : va_S A H0 H locs) {a0 n0 n1 : Nat} {f g : Nat → Int32} (ha0 : hp a0 = some (eI n0 f)) (ha1 : hp a = some (eI n1 g))
    {sp dp n : Nat} (h4 : sp + n ≤ n0) (h5 : dp + n ≤ n1) (hn0 : n0 < 2 ^ 31) (hn1 : n1 < 2 ^ 31)
    (hframes : 1 ≤ R.frames) (hlocals : (rest.map fun v => v.category).sum + (nativeFrameWords "java/lang/System" "arraycopy" 5 + 11) ≤ R.locals) (hdg : decode cc pc = .ok (.invokestatic index, 3))
    (kk : ∀ (H1 : Heap) (locs1 : List Loc), hV G (hput hp a (eI n1 (va_cpy f g sp dp n))) H1 → hIn A (hput hp a (eI n1 (va_cpy f g sp dp n))) → va_S A H0 H1 locs1 → W p l e R s m args below meth c H1 locs1 cells slots Q (F0 m (pc + 3) ls rest)) : W p l e R s m args below meth c H locs cells slots Q (F0 m pc ls (.int (nI n) :: .int (nI dp) :: .ref a :: .int (nI sp) :: .ref a0 :: rest)) := by
  intro T hT X
  have hc0 : H[a0]? = some (vp_cell (G.2 0) (n0, .inl f)) := hV0 a0 _ ha0
  have hc1 : H[a]? = some (vp_cell (G.2 0) (n1, .inl g)) := hV0 a _ ha1
  obtain ⟨-, k0, hk0, cm0, hkk0⟩ := (hK0.2 0 _ rfl).1 n0 (fun j => .int (f j))
  obtain ⟨-, k1, hk1, cm1, hkk1⟩ := (hK0.2 0 _ rfl).1 n1 (fun j => .int (g j))
  have esp : (nI sp).toNatClampNeg = sp := nI_clamp (by omega)
  have edp : (nI dp).toNatClampNeg = dp := nI_clamp (by omega)
  have en : (nI n).toNatClampNeg = n := nI_clamp (by omega)
  have tsp : (nI sp).toInt = (sp : Int) := nI_toInt (by omega)
  have tdp : (nI dp).toInt = (dp : Int) := nI_toInt (by omega)
  have tn : (nI n).toInt = (n : Int) := nI_toInt (by omega)
  obtain ⟨vm', X', step⟩ := X.arraycopy hexec hown hlink hnat hstat hini (src := a0) (dst := a) (cs := vp_cell (G.2 0) (n0, .inl f)) (cd := vp_cell (G.2 0) (n1, .inl g)) (srcPos := nI sp) (destPos := nI dp) (n := nI n) (by rw [hT]; exact hc0) (by rw [hT]; exact hc1)
    (fun _ h => by cases h) (fun _ h => by cases h) (fun h => by cases h) (fun h => by cases h) hk0 hk1 hkk0 hkk1 (by rfl) (nI_pos (by omega)) (nI_pos (by omega)) (nI_pos (by omega))
    (by rw [tsp, tn]; show ¬ _ > ((arrV (G.2 0) n0 (fun j => .int (f j))).slots.size : Int); rw [arrV_size]; omega)
    (by rw [tdp, tn]; show ¬ _ > ((arrV (G.2 0) n1 (fun j => .int (g j))).slots.size : Int); rw [arrV_size]; omega)
    (fun vm₁ _ i hi => by
      rw [en] at hi
      have e : (vp_cell (G.2 0) (n0, .inl f)).slots.getD ((nI sp).toNatClampNeg + i) .null = .int (f (sp + i)) := by
        show (arrV (G.2 0) n0 (fun j => .int (f j))).slots.getD _ _ = _
        rw [esp, Array.getD_eq_getD_getElem?, arrV_read _ _ (by omega)]
        rfl
      refine ⟨?_, ?_⟩
      · rw [e]
        rfl
      · rw [e]
        exact trivial)
    (g := F0 m pc ls (.int (nI n) :: .int (nI dp) :: .ref a :: .int (nI sp) :: .ref a0 :: rest)) rfl (by rw [hml]) (rest := rest) rfl (by rw [hb]; exact hdg) hframes (by show 2 * 0 + _ + _ ≤ _; omega)
  have e1 : copied (vp_cell (G.2 0) (n0, .inl f)) (vp_cell (G.2 0) (n1, .inl g)) (nI sp) (nI dp) (nI n) = vp_cell (G.2 0) (n1, .inl (va_cpy f g sp dp n)) := by
    have h9 : copied (vp_cell (G.2 0) (n0, .inl f)) (vp_cell (G.2 0) (n1, .inl g)) (nI sp) (nI dp) (nI n) = vp_cell (G.2 0) (n1, .inl (va_cpy f g (nI sp).toNatClampNeg (nI dp).toNatClampNeg (nI n).toNatClampNeg)) := va_copied (fun z => .int z) (G.2 0) (G.2 0) f g (by rw [esp, en]; exact h4)
    rw [esp, edp, en] at h9
    exact h9
  rw [e1] at X' step
  have hl : a < H.size := (Array.getElem?_eq_some_iff.mp hc1).1
  have hheap : ((T.setVm vm').setCell a (vp_cell (G.2 0) (n1, .inl (va_cpy f g sp dp n)))).heap = H.setIfInBounds a (vp_cell (G.2 0) (n1, .inl (va_cpy f g sp dp n))) := by rw [← hT]; rfl
  have oq : ∀ q : Nat, q ≠ a → (H.setIfInBounds a (vp_cell (G.2 0) (n1, .inl (va_cpy f g sp dp n))))[q]? = H[q]? := fun q hq => by simp [Array.getElem?_setIfInBounds, Ne.symm hq]
  obtain ⟨t, a1, b1⟩ := kk _ _ (hV0.put (e := eI n1 (va_cpy f g sp dp n)) (show (H.setIfInBounds a _)[a]? = some _ by simp [Array.getElem?_setIfInBounds, hl]) oq) (hA0.put (hA0 a _ ha1)) ⟨by simp; exact hS.1, fun q g1 g2 => by
      rw [oq q (fun e => g2 (by rw [e]; exact hA0 a _ ha1))]
      exact hS.2.1 q g1 g2, fun q hq => by
      rcases List.mem_append.mp hq with h | h
      · exact hS.2.2 q h
      · obtain ⟨z, -, hz⟩ := List.mem_map.mp h
        rw [← hz]
        exact hA0 a _ ha1⟩ _ hheap X'
  exact ⟨t, step t a1, b1⟩
theorem h_newI (hexec : p.tables.exec = Jvm.exec) (hb : c.code = cc) (harr : (Cond.arrayClass .int).before args s = true) (hK0 : hK G s) (hV0 : hV G hp H) (hA0 : hIn A hp) (hS : va_S A H0 H locs) (hA : ∀ q : Nat, H0.size ≤ q → A q)
    {n : Nat} (hn : n < 2 ^ 20) (hcells : cells + 1 ≤ R.cells) (hslots : slots + n ≤ R.slots) (hdg : decode cc pc = .ok (.newarray .int, 2))
    (kk : ∀ (q : Nat) (H1 : Heap), hp q = none → hV G (hput hp q (eI n (fun _ => 0))) H1 → hIn A (hput hp q (eI n (fun _ => 0))) → va_S A H0 H1 locs → W p l e R s m args below meth c H1 locs (cells + 1) (slots + n) Q (F0 m (pc + 2) ls (.ref q :: rest))) : W p l e R s m args below meth c H locs cells slots Q (F0 m pc ls (.int (nI n) :: rest)) := by
  refine va_newaK (atype := .int) hexec hb harr rfl hdg rfl (nI_pos (by omega)) (nI_clamp (by omega)) (by show n * 4 ≤ _; omega) hcells hslots rfl fun H1 cA e1 z1 o1 hAr hNm => ?_
  have hc : cA = G.2 0 := Option.some.inj (hNm.symm.trans (hK0.2 0 _ rfl).2)
  subst hc
  exact kk H.size H1 (hV0.none (Nat.le_refl _)) (hV0.new (e := eI n (fun _ => 0)) rfl e1 o1) (hA0.put (hA _ hS.1)) ⟨Nat.le_trans hS.1 (by omega), fun x h1 h2 => (o1 x (Nat.lt_of_lt_of_le h1 hS.1)).trans (hS.2.1 x h1 h2), hS.2.2⟩
theorem h_newJ (hexec : p.tables.exec = Jvm.exec) (hb : c.code = cc) (harr : (Cond.arrayClass .long).before args s = true) (hK0 : hK G s) (hV0 : hV G hp H) (hA0 : hIn A hp) (hS : va_S A H0 H locs) (hA : ∀ q : Nat, H0.size ≤ q → A q)
    {n : Nat} (hn : n < 2 ^ 20) (hcells : cells + 1 ≤ R.cells) (hslots : slots + n ≤ R.slots) (hdg : decode cc pc = .ok (.newarray .long, 2))
    (kk : ∀ (q : Nat) (H1 : Heap), hp q = none → hV G (hput hp q (eJ n (fun _ => 0))) H1 → hIn A (hput hp q (eJ n (fun _ => 0))) → va_S A H0 H1 locs → W p l e R s m args below meth c H1 locs (cells + 1) (slots + n) Q (F0 m (pc + 2) ls (.ref q :: rest))) : W p l e R s m args below meth c H locs cells slots Q (F0 m pc ls (.int (nI n) :: rest)) := by
  refine va_newaK (atype := .long) hexec hb harr rfl hdg rfl (nI_pos (by omega)) (nI_clamp (by omega)) (by show n * 8 ≤ _; omega) hcells hslots rfl fun H1 cA e1 z1 o1 hAr hNm => ?_
  have hc : cA = G.2 1 := Option.some.inj (hNm.symm.trans (hK0.2 1 _ rfl).2)
  subst hc
  exact kk H.size H1 (hV0.none (Nat.le_refl _)) (hV0.new (e := eJ n (fun _ => 0)) rfl e1 o1) (hA0.put (hA _ hS.1)) ⟨Nat.le_trans hS.1 (by omega), fun x h1 h2 => (o1 x (Nat.lt_of_lt_of_le h1 hS.1)).trans (hS.2.1 x h1 h2), hS.2.2⟩
theorem h_new (hexec : p.tables.exec = Jvm.exec) (hb : c.code = cc) {own C : String} {T : u_T} {N ci index : Nat} {Ts : List Cond} (hts : ∀ w ∈ Ts, w.before args s = true) (hin : ∀ w ∈ u_ws C T N, w ∈ Ts) (ty : Nat → FieldType) (hty : ∀ k, k < N → parseFieldDescriptor (T k).2.2.1 = some (ty k)) (hown : s.vm.findClass own = some m.cls) (hcl : (Cond.classLink own index C).before args s = true) (hinst : (Cond.instantiable C N).before args s = true) (hini : (Cond.initialized C).before args s = true)
    (hK0 : hK G s) (hV0 : hV G hp H) (hA0 : hIn A hp) (hS : va_S A H0 H locs) (hA : ∀ q : Nat, H0.size ≤ q → A q) (hc : vwCl[ci]? = some (C, T, N)) {fs : List Value} (hfs : ∀ j, j < N → defaultValue (ty j) = vp_V fs j) (hcells : cells + 1 ≤ R.cells) (hslots : slots + N ≤ R.slots) (hdg : decode cc pc = .ok (.new index, 3))
    (kk : ∀ (q : Nat) (H1 : Heap), hp q = none → hV G (hput hp q (eO ci fs)) H1 → hIn A (hput hp q (eO ci fs)) → va_S A H0 H1 locs → W p l e R s m args below meth c H1 locs (cells + 1) (slots + N) Q (F0 m (pc + 3) ls (.ref q :: rest))) : W p l e R s m args below meth c H locs cells slots Q (F0 m pc ls rest) := by
  have hKn := hK0.1 ci _ hc
  refine W.newcK hexec hb hown hcl hinst hini rfl hdg hcells hslots hKn.2.1 rfl fun H1 kC hkC e1 z1 o1 => ?_
  exact kk H.size H1 (hV0.none (Nat.le_refl _)) (hV0.new (e := eO ci fs) rfl ⟨_, hc, (u_born ty hts hin hKn hkC e1 hty).to hfs⟩ o1) (hA0.put (hA _ hS.1)) ⟨Nat.le_trans hS.1 (by omega), fun x h1 h2 => (o1 x (Nat.lt_of_lt_of_le h1 hS.1)).trans (hS.2.1 x h1 h2), hS.2.2⟩
end HC
theorem hput_mid (hp : HP) (a w : Nat) (e1 e2 x : hE) : hput (hput (hput hp a e1) w x) a e2 = hput (hput hp w x) a e2 := by
  funext q
  by_cases h1 : q = a
  · simp [hput, h1]
  · by_cases h2 : q = w <;> simp [hput, h1, h2]
def fillF (v : Int32) (f : Nat → Int32) (i : Nat) : Nat → Int32 := fun k => if k < i then v else f k
theorem fillF_0 (v : Int32) (f : Nat → Int32) : fillF v f 0 = f := by funext k; simp [fillF]
theorem fillF_s (v : Int32) (f : Nat → Int32) (i : Nat) : upd (fillF v f i) i v = fillF v f (i + 1) := by
  funext k
  by_cases h : k = i
  · subst h; simp [upd, fillF]
  · by_cases h2 : k < i
    · simp [upd, fillF, h, h2, Nat.lt_succ_of_lt h2]
    · have : ¬ k < i + 1 := by omega
      simp [upd, fillF, h, h2, this]
theorem hV.reI {G : hG} {hp : HP} {H : Heap} {a n : Nat} {f g : Nat → Int32} (h : hV G (hput hp a (eI n f)) H) (hfg : ∀ j, j < n → f j = g j) : hV G (hput hp a (eI n g)) H := by
  intro q x hx
  by_cases h1 : q = a
  · subst h1
    rw [hput_s] at hx
    cases hx
    exact hat_congr (h q _ (hput_s _ _ _)) hfg
  · rw [hput_n _ _ h1] at hx
    exact h q x (by rw [hput_n _ _ h1]; exact hx)
theorem hIn.re {A : Nat → Prop} {hp : HP} {a : Nat} {e e2 : hE} (h : hIn A (hput hp a e)) : hIn A (hput hp a e2) := by
  intro q x hx
  by_cases h1 : q = a
  · subst h1
    exact h q e (hput_s _ _ _)
  · rw [hput_n _ _ h1] at hx
    exact h q x (by rw [hput_n _ _ h1]; exact hx)
end
section
/-! ROWS OF 64 WORDS (-2 no slip, -1 a tomb), what is told of them; pure -/
abbrev Row : Type := Nat → Int32
def hasR (f : Row) (n : Nat) : Bool := !decide (f n = -2)
def isT (f : Row) (n : Nat) : Bool := decide (f n = -1)
def cntB (p : Nat → Bool) : Nat → Nat
  | 0 => 0
  | n + 1 => cntB p n + (if p n then 1 else 0)
def szR (f : Row) : Nat := cntB (hasR f) 64
def tbR (f : Row) : Nat := cntB (isT f) 64
def fstB (p : Nat → Bool) : Nat → Nat → Nat
  | 0, i => i
  | k + 1, i => if p i then i else fstB p k (i + 1)
def lsR (f : Row) : Nat := fstB (hasR f) 64 0
def lstB (p : Nat → Bool) : Nat → Int32
  | 0 => -1
  | n + 1 => if p n then nI n else lstB p n
def grR (f : Row) : Int32 := lstB (hasR f) 64
def opR (f : Row) (h : Nat) : Bool := hasR f h || hasR f (h + 8) || hasR f (h + 16) || hasR f (h + 24) || hasR f (h + 32) || hasR f (h + 40) || hasR f (h + 48) || hasR f (h + 56)
def svB (b : Nat → Bool) : Nat → Int32
  | 0 => 0
  | h + 1 => svB b h + (if b h then nI 1 <<< (nI h &&& 31) else nI 0)
def svR (f : Row) : Int32 := svB (opR f) 8
def toldR (f : Row) (n : Nat) : Int32 := if f n = -1 then -1 - nI n else nI 100 * nI n + f n
def nsR (f : Row) : List Nat := (List.range 64).filter (hasR f)
def nthR (f : Row) (k : Nat) : Nat := (nsR f).getD k 64
def opnC (f : Row) (n : Nat) : Bool := decide (lsR f ≤ n) && (decide (nI n ≤ grR f) && opR f (n % 8))
/-- a row is one of words: nothing beyond 64, words, marks -/
def okR (f : Row) : Prop := (∀ j, 64 ≤ j → f j = -2) ∧ ∀ j, f j = -2 ∨ f j = -1 ∨ ∃ v : Nat, v < 100 ∧ f j = nI v
abbrev slO (w : Nat) (f : Row) : List Value := [.ref w, .int (nI (szR f)), .int (nI (tbR f)), .int (nI (lsR f)), .int (grR f), .int (svR f)]
def slAt (hp : HP) (a w : Nat) (f : Row) : Prop := hp a = some (eO 1 (slO w f)) ∧ hp w = some (eI 64 f)
theorem cntB_s (p : Nat → Bool) (n : Nat) : cntB p (n + 1) = cntB p n + (if p n then 1 else 0) := rfl
theorem cntB_le (p : Nat → Bool) : ∀ n, cntB p n ≤ n
  | 0 => Nat.le_refl 0
  | n + 1 => by
    have := cntB_le p n
    unfold cntB
    split <;> omega
theorem cntB_congr {p q : Nat → Bool} : ∀ {n : Nat}, (∀ k, k < n → p k = q k) → cntB p n = cntB q n
  | 0, _ => rfl
  | n + 1, h => by
    unfold cntB
    rw [cntB_congr (fun k hk => h k (by omega)), h n (by omega)]
theorem cntB_upd {p q : Nat → Bool} {i : Nat} (h : ∀ k, k ≠ i → p k = q k) : ∀ {n : Nat}, i < n → cntB p n + (if q i then 1 else 0) = cntB q n + (if p i then 1 else 0)
  | 0, hi => absurd hi (Nat.not_lt_zero i)
  | n + 1, hi => by
    unfold cntB
    by_cases e : i = n
    · subst e
      rw [cntB_congr (p := p) (q := q) (fun k hk => h k (by omega))]
      omega
    · have := cntB_upd h (n := n) (by omega)
      rw [h n (fun q => e q.symm)]
      omega
theorem szR_le (f : Row) : szR f ≤ 64 := cntB_le _ 64
theorem tbR_le (f : Row) : tbR f ≤ 64 := cntB_le _ 64
theorem fstB_le (p : Nat → Bool) : ∀ k i, fstB p k i ≤ i + k
  | 0, i => Nat.le_refl _
  | k + 1, i => by
    unfold fstB
    split
    · omega
    · have := fstB_le p k (i + 1)
      omega
theorem lsR_le (f : Row) : lsR f ≤ 64 := fstB_le _ 64 0
theorem fstB_ge (p : Nat → Bool) : ∀ k i, i ≤ fstB p k i
  | 0, i => Nat.le_refl _
  | k + 1, i => by
    unfold fstB
    split
    · omega
    · have := fstB_ge p k (i + 1)
      omega
theorem fstB_le_of {p : Nat → Bool} {n : Nat} (hp : p n = true) : ∀ k i, i ≤ n → fstB p k i ≤ n
  | 0, i, h => h
  | k + 1, i, h => by
    unfold fstB
    split
    · exact h
    · rename_i h2
      have hne : i ≠ n := fun q => h2 (q ▸ hp)
      exact fstB_le_of hp k (i + 1) (by omega)
theorem fstB_upd {p q : Nat → Bool} {n : Nat} (h : ∀ k, k ≠ n → p k = q k) (hn : p n = true) : ∀ k i, i ≤ n → n < i + k → fstB p k i = if fstB q k i ≤ n then fstB q k i else n
  | 0, i, h1, h2 => absurd h2 (by omega)
  | k + 1, i, h1, h2 => by
    unfold fstB
    by_cases e : i = n
    · subst e
      rw [if_pos hn]
      split
      · simp
      · have := fstB_ge q k (i + 1)
        rw [if_neg (by omega)]
    · rw [h i e]
      by_cases hq : q i = true
      · simp [hq, h1]
      · rw [if_neg hq, if_neg hq]
        exact fstB_upd h hn k (i + 1) (by omega) (by omega)
theorem lstB_lt (p : Nat → Bool) : ∀ n, n < 2 ^ 31 → lstB p n < nI n ∧ -1 ≤ lstB p n
  | 0, _ => by
    unfold lstB
    decide
  | n + 1, hn => by
    have ih := lstB_lt p n (by omega)
    unfold lstB
    have h1 : nI n < nI (n + 1) := nI_lt (by omega) hn
    split
    · refine ⟨h1, ?_⟩
      have : (0 : Int32) ≤ nI n := nI_pos' (by omega)
      exact Int32.le_trans (by decide) this
    · exact ⟨Int32.lt_of_lt_of_le ih.1 (Int32.le_of_lt h1), ih.2⟩
theorem lstB_upd {p q : Nat → Bool} {i : Nat} (h : ∀ k, k ≠ i → p k = q k) (hi : p i = true) : ∀ n, n < 2 ^ 31 → i < n → lstB p n = if lstB q n < nI i then nI i else lstB q n
  | 0, _, h2 => absurd h2 (Nat.not_lt_zero i)
  | n + 1, hn, h2 => by
    unfold lstB
    by_cases e : i = n
    · subst e
      rw [if_pos hi]
      split
      · simp
      · rw [if_pos (lstB_lt q i (by omega)).1]
    · rw [h n (fun z => e z.symm)]
      split
      · rw [if_neg (fun z => absurd z (nI_nlt (by omega) (by omega)))]
      · exact lstB_upd h hi n (by omega) (by omega)
theorem hasR_upd_n (f : Row) {n k : Nat} (v : Int32) (h : k ≠ n) : hasR (upd f n v) k = hasR f k := by simp [hasR, upd, h]
theorem hasR_upd_s (f : Row) (n : Nat) {v : Int32} (h : v ≠ -2) : hasR (upd f n v) n = true := by simp [hasR, upd, h]
theorem isT_upd_n (f : Row) {n k : Nat} (v : Int32) (h : k ≠ n) : isT (upd f n v) k = isT f k := by simp [isT, upd, h]
theorem szR_upd (f : Row) {n : Nat} {v : Int32} (hn : n < 64) (h : v ≠ -2) : szR (upd f n v) = if f n = -2 then szR f + 1 else szR f := by
  have := cntB_upd (p := hasR (upd f n v)) (q := hasR f) (i := n) (fun k hk => hasR_upd_n f v hk) hn
  rw [hasR_upd_s f n h] at this
  unfold szR
  by_cases e : f n = -2
  · have e2 : hasR f n = false := by simp [hasR, e]
    rw [e2] at this
    simp at this
    rw [if_pos e, this]
  · have e2 : hasR f n = true := by simp [hasR, e]
    rw [e2] at this
    simp at this
    rw [if_neg e, this]
theorem tbR_upd (f : Row) {n : Nat} {v : Int32} (hn : n < 64) : tbR (upd f n v) + (if f n = -1 then 1 else 0) = tbR f + (if v = -1 then 1 else 0) := by
  have := cntB_upd (p := isT (upd f n v)) (q := isT f) (i := n) (fun k hk => isT_upd_n f v hk) hn
  have e1 : isT (upd f n v) n = decide (v = -1) := by simp [isT, upd]
  have e2 : isT f n = decide (f n = -1) := rfl
  rw [e1, e2] at this
  unfold tbR
  simpa using this
theorem lsR_upd (f : Row) {n : Nat} {v : Int32} (hn : n < 64) (h : v ≠ -2) : lsR (upd f n v) = if lsR f ≤ n then lsR f else n :=
  fstB_upd (fun k hk => hasR_upd_n f v hk) (hasR_upd_s f n h) 64 0 (Nat.zero_le n) (by omega)
theorem grR_upd (f : Row) {n : Nat} {v : Int32} (hn : n < 64) (h : v ≠ -2) : grR (upd f n v) = if grR f < nI n then nI n else grR f :=
  lstB_upd (fun k hk => hasR_upd_n f v hk) (hasR_upd_s f n h) 64 (by decide) hn
theorem svB_congr {b d : Nat → Bool} : ∀ {n : Nat}, (∀ k, k < n → b k = d k) → svB b n = svB d n
  | 0, _ => rfl
  | n + 1, h => by
    unfold svB
    rw [svB_congr (fun k hk => h k (by omega)), h n (by omega)]
def sv8 (b0 b1 b2 b3 b4 b5 b6 b7 : Bool) : Nat → Bool := fun k => match k with
  | 0 => b0
  | 1 => b1
  | 2 => b2
  | 3 => b3
  | 4 => b4
  | 5 => b5
  | 6 => b6
  | _ => b7
theorem sv8_or : ∀ (b0 b1 b2 b3 b4 b5 b6 b7 : Bool) (j : Fin 8), (svB (sv8 b0 b1 b2 b3 b4 b5 b6 b7) 8 ||| (nI 1 <<< (nI j.val &&& 31))) = svB (fun k => sv8 b0 b1 b2 b3 b4 b5 b6 b7 k || decide (k = j.val)) 8 := by decide +kernel
theorem sv8_bit : ∀ (b0 b1 b2 b3 b4 b5 b6 b7 : Bool) (j : Fin 8), (svB (sv8 b0 b1 b2 b3 b4 b5 b6 b7) 8 >>> (nI j.val &&& 31)) &&& nI 1 = bI (sv8 b0 b1 b2 b3 b4 b5 b6 b7 j.val) := by decide +kernel
theorem sv_all (b : Nat → Bool) : ∀ k, k < 8 → b k = sv8 (b 0) (b 1) (b 2) (b 3) (b 4) (b 5) (b 6) (b 7) k := by
  intro k hk
  match k, hk with
  | 0, _ => rfl
  | 1, _ => rfl
  | 2, _ => rfl
  | 3, _ => rfl
  | 4, _ => rfl
  | 5, _ => rfl
  | 6, _ => rfl
  | 7, _ => rfl
  | k + 8, h => exact absurd h (by omega)
theorem sv_or (b : Nat → Bool) {j : Nat} (hj : j < 8) : (svB b 8 ||| (nI 1 <<< (nI j &&& 31))) = svB (fun k => b k || decide (k = j)) 8 := by
  have h1 := sv8_or (b 0) (b 1) (b 2) (b 3) (b 4) (b 5) (b 6) (b 7) ⟨j, hj⟩
  rw [svB_congr (b := b) (d := sv8 (b 0) (b 1) (b 2) (b 3) (b 4) (b 5) (b 6) (b 7)) (fun k hk => sv_all b k hk)]
  rw [h1]
  exact svB_congr (fun k hk => by rw [← sv_all b k hk])
theorem sv_bit (b : Nat → Bool) {j : Nat} (hj : j < 8) : (svB b 8 >>> (nI j &&& 31)) &&& nI 1 = bI (b j) := by
  have h1 := sv8_bit (b 0) (b 1) (b 2) (b 3) (b 4) (b 5) (b 6) (b 7) ⟨j, hj⟩
  rw [svB_congr (b := b) (d := sv8 (b 0) (b 1) (b 2) (b 3) (b 4) (b 5) (b 6) (b 7)) (fun k hk => sv_all b k hk), h1, ← sv_all b j hj]
theorem opR_upd (f : Row) {n : Nat} {v : Int32} (hn : n < 64) (h : v ≠ -2) (k : Nat) (hk : k < 8) : opR (upd f n v) k = (opR f k || decide (k = n % 8)) := by
  by_cases e : k = n % 8
  · have h2 : n = k ∨ n = k + 8 ∨ n = k + 16 ∨ n = k + 24 ∨ n = k + 32 ∨ n = k + 40 ∨ n = k + 48 ∨ n = k + 56 := by omega
    have h3 := hasR_upd_s f n h
    simp only [decide_eq_true e, Bool.or_true]
    unfold opR
    rcases h2 with q | q | q | q | q | q | q | q <;> rw [← q, h3] <;> simp
  · have h2 : ∀ j, (k + 8 * j) ≠ n := fun j => by omega
    have h3 : ∀ j, hasR (upd f n v) (k + 8 * j) = hasR f (k + 8 * j) := fun j => hasR_upd_n f v (h2 j)
    simp only [decide_eq_false e, Bool.or_false]
    unfold opR
    rw [show hasR (upd f n v) k = hasR f k from h3 0, show hasR (upd f n v) (k + 8) = hasR f (k + 8) from h3 1, show hasR (upd f n v) (k + 16) = hasR f (k + 16) from h3 2, show hasR (upd f n v) (k + 24) = hasR f (k + 24) from h3 3, show hasR (upd f n v) (k + 32) = hasR f (k + 32) from h3 4, show hasR (upd f n v) (k + 40) = hasR f (k + 40) from h3 5, show hasR (upd f n v) (k + 48) = hasR f (k + 48) from h3 6, show hasR (upd f n v) (k + 56) = hasR f (k + 56) from h3 7]
theorem svR_upd (f : Row) {n : Nat} {v : Int32} (hn : n < 64) (h : v ≠ -2) : svR (upd f n v) = (svR f ||| (nI 1 <<< (nI (n % 8) &&& 31))) := by
  unfold svR
  rw [sv_or (opR f) (j := n % 8) (by omega)]
  exact svB_congr (fun k hk => opR_upd f hn h k hk)
/-- the k-th number of a row -/
theorem filt_nth {p : Nat → Bool} {i : Nat} (hp : p i = true) : ∀ {n : Nat}, i < n → ((List.range n).filter p)[cntB p i]? = some i
  | 0, h => absurd h (Nat.not_lt_zero i)
  | n + 1, h => by
    rw [List.range_succ, List.filter_append]
    by_cases e : i = n
    · subst e
      have hl : ∀ m, ((List.range m).filter p).length = cntB p m := by
        intro m
        induction m with
        | zero => rfl
        | succ m ih =>
          rw [List.range_succ, List.filter_append, List.length_append, ih, cntB_s]
          by_cases q : p m = true <;> simp [q]
      rw [List.getElem?_append_right (by rw [hl]; exact Nat.le_refl _), hl, Nat.sub_self]
      simp [hp]
    · have ih := filt_nth hp (n := n) (by omega)
      rw [List.getElem?_append_left (List.getElem?_eq_some_iff.mp ih).1]
      exact ih
theorem filt_len (p : Nat → Bool) : ∀ m, ((List.range m).filter p).length = cntB p m := by
  intro m
  induction m with
  | zero => rfl
  | succ m ih =>
    rw [List.range_succ, List.filter_append, List.length_append, ih, cntB_s]
    by_cases q : p m = true <;> simp [q]
theorem nsR_len (f : Row) : (nsR f).length = szR f := filt_len _ 64
theorem nthR_of {f : Row} {i k : Nat} (hi : i < 64) (hp : hasR f i = true) (hk : cntB (hasR f) i = k) : nthR f k = i := by
  unfold nthR
  rw [List.getD_eq_getElem?_getD, ← hk, show (nsR f)[cntB (hasR f) i]? = some i from filt_nth hp hi]
  rfl
theorem cntB_mono (p : Nat → Bool) (m : Nat) : ∀ n, m ≤ n → cntB p m ≤ cntB p n := by
  intro n
  induction n with
  | zero => intro h; rw [show m = 0 by omega]; exact Nat.le_refl _
  | succ n ih =>
    intro h
    by_cases e : m = n + 1
    · rw [e]; exact Nat.le_refl _
    · have := ih (by omega)
      show cntB p m ≤ cntB p n + _
      omega
end
section
set_option maxRecDepth 20000 in
theorem ggX1_init_X1_clear : GoodIn wsX1_init wsX1_clear := goodIn_r _ [10, 5, 11, 12, 13, 14, 15, 16, 17, 18, 19, 20, 21, 22, 23, 24, 25] (by decide +kernel) (by decide +kernel)
set_option maxRecDepth 20000 in
theorem gX1_init_X1_clear : GoodIn wsX1_init (wsV RX1 15 RX1 yX1_clear wsX1_clear) := goodIn_app (goodIn_of _ (by decide +kernel)) ggX1_init_X1_clear
theorem dX1_init_0 : decode cX1_init 0 = .ok (.aload_n 0, 1) := by decide +kernel
theorem dX1_init_1 : decode cX1_init 1 = .ok (.invokespecial 3, 3) := by decide +kernel
theorem dX1_init_4 : decode cX1_init 4 = .ok (.aload_n 0, 1) := by decide +kernel
theorem dX1_init_5 : decode cX1_init 5 = .ok (.bipush 64, 2) := by decide +kernel
theorem dX1_init_7 : decode cX1_init 7 = .ok (.newarray .int, 2) := by decide +kernel
theorem dX1_init_9 : decode cX1_init 9 = .ok (.putfield 9, 3) := by decide +kernel
theorem dX1_init_12 : decode cX1_init 12 = .ok (.aload_n 0, 1) := by decide +kernel
theorem dX1_init_13 : decode cX1_init 13 = .ok (.invokevirtual 15, 3) := by decide +kernel
theorem dX1_init_16 : decode cX1_init 16 = .ok (.return_, 1) := by decide +kernel
set_option maxRecDepth 20000 in
theorem ggX1_clear_J7_fill_53178 : GoodIn wsX1_clear wsJ7_fill_53178 := goodIn_r _ [10] (by decide +kernel) (by decide +kernel)
set_option maxRecDepth 20000 in
theorem gX1_clear_J7_fill_53178 : GoodIn wsX1_clear (va_wsS RX1 18 yJ7_fill_53178 wsJ7_fill_53178) := goodIn_app (goodIn_of _ (by decide +kernel)) ggX1_clear_J7_fill_53178
theorem dX1_clear_0 : decode cX1_clear 0 = .ok (.aload_n 0, 1) := by decide +kernel
theorem dX1_clear_1 : decode cX1_clear 1 = .ok (.getfield 9, 3) := by decide +kernel
theorem dX1_clear_4 : decode cX1_clear 4 = .ok (.bipush (-2), 2) := by decide +kernel
theorem dX1_clear_6 : decode cX1_clear 6 = .ok (.invokestatic 18, 3) := by decide +kernel
theorem dX1_clear_9 : decode cX1_clear 9 = .ok (.aload_n 0, 1) := by decide +kernel
theorem dX1_clear_10 : decode cX1_clear 10 = .ok (.iconst 0, 1) := by decide +kernel
theorem dX1_clear_11 : decode cX1_clear 11 = .ok (.putfield 24, 3) := by decide +kernel
theorem dX1_clear_14 : decode cX1_clear 14 = .ok (.aload_n 0, 1) := by decide +kernel
theorem dX1_clear_15 : decode cX1_clear 15 = .ok (.iconst 0, 1) := by decide +kernel
theorem dX1_clear_16 : decode cX1_clear 16 = .ok (.putfield 28, 3) := by decide +kernel
theorem dX1_clear_19 : decode cX1_clear 19 = .ok (.aload_n 0, 1) := by decide +kernel
theorem dX1_clear_20 : decode cX1_clear 20 = .ok (.bipush 64, 2) := by decide +kernel
theorem dX1_clear_22 : decode cX1_clear 22 = .ok (.putfield 31, 3) := by decide +kernel
theorem dX1_clear_25 : decode cX1_clear 25 = .ok (.aload_n 0, 1) := by decide +kernel
theorem dX1_clear_26 : decode cX1_clear 26 = .ok (.iconst (-1), 1) := by decide +kernel
theorem dX1_clear_27 : decode cX1_clear 27 = .ok (.putfield 34, 3) := by decide +kernel
theorem dX1_clear_30 : decode cX1_clear 30 = .ok (.aload_n 0, 1) := by decide +kernel
theorem dX1_clear_31 : decode cX1_clear 31 = .ok (.iconst 0, 1) := by decide +kernel
theorem dX1_clear_32 : decode cX1_clear 32 = .ok (.putfield 37, 3) := by decide +kernel
theorem dX1_clear_35 : decode cX1_clear 35 = .ok (.return_, 1) := by decide +kernel
theorem dX1_copy_0 : decode cX1_copy 0 = .ok (.aload_n 1, 1) := by decide +kernel
theorem dX1_copy_1 : decode cX1_copy 1 = .ok (.ifnonnull 4, 3) := by decide +kernel
theorem dX1_copy_4 : decode cX1_copy 4 = .ok (.return_, 1) := by decide +kernel
theorem dX1_copy_5 : decode cX1_copy 5 = .ok (.aload_n 1, 1) := by decide +kernel
theorem dX1_copy_6 : decode cX1_copy 6 = .ok (.getfield 9, 3) := by decide +kernel
theorem dX1_copy_9 : decode cX1_copy 9 = .ok (.iconst 0, 1) := by decide +kernel
theorem dX1_copy_10 : decode cX1_copy 10 = .ok (.aload_n 0, 1) := by decide +kernel
theorem dX1_copy_11 : decode cX1_copy 11 = .ok (.getfield 9, 3) := by decide +kernel
theorem dX1_copy_14 : decode cX1_copy 14 = .ok (.iconst 0, 1) := by decide +kernel
theorem dX1_copy_15 : decode cX1_copy 15 = .ok (.bipush 64, 2) := by decide +kernel
theorem dX1_copy_17 : decode cX1_copy 17 = .ok (.invokestatic 40, 3) := by decide +kernel
theorem dX1_copy_20 : decode cX1_copy 20 = .ok (.aload_n 0, 1) := by decide +kernel
theorem dX1_copy_21 : decode cX1_copy 21 = .ok (.aload_n 1, 1) := by decide +kernel
theorem dX1_copy_22 : decode cX1_copy 22 = .ok (.getfield 24, 3) := by decide +kernel
theorem dX1_copy_25 : decode cX1_copy 25 = .ok (.putfield 24, 3) := by decide +kernel
theorem dX1_copy_28 : decode cX1_copy 28 = .ok (.aload_n 0, 1) := by decide +kernel
theorem dX1_copy_29 : decode cX1_copy 29 = .ok (.aload_n 1, 1) := by decide +kernel
theorem dX1_copy_30 : decode cX1_copy 30 = .ok (.getfield 28, 3) := by decide +kernel
theorem dX1_copy_33 : decode cX1_copy 33 = .ok (.putfield 28, 3) := by decide +kernel
theorem dX1_copy_36 : decode cX1_copy 36 = .ok (.aload_n 0, 1) := by decide +kernel
theorem dX1_copy_37 : decode cX1_copy 37 = .ok (.aload_n 1, 1) := by decide +kernel
theorem dX1_copy_38 : decode cX1_copy 38 = .ok (.getfield 31, 3) := by decide +kernel
theorem dX1_copy_41 : decode cX1_copy 41 = .ok (.putfield 31, 3) := by decide +kernel
theorem dX1_copy_44 : decode cX1_copy 44 = .ok (.aload_n 0, 1) := by decide +kernel
theorem dX1_copy_45 : decode cX1_copy 45 = .ok (.aload_n 1, 1) := by decide +kernel
theorem dX1_copy_46 : decode cX1_copy 46 = .ok (.getfield 34, 3) := by decide +kernel
theorem dX1_copy_49 : decode cX1_copy 49 = .ok (.putfield 34, 3) := by decide +kernel
theorem dX1_copy_52 : decode cX1_copy 52 = .ok (.aload_n 0, 1) := by decide +kernel
theorem dX1_copy_53 : decode cX1_copy 53 = .ok (.aload_n 1, 1) := by decide +kernel
theorem dX1_copy_54 : decode cX1_copy 54 = .ok (.getfield 37, 3) := by decide +kernel
theorem dX1_copy_57 : decode cX1_copy 57 = .ok (.putfield 37, 3) := by decide +kernel
theorem dX1_copy_60 : decode cX1_copy 60 = .ok (.return_, 1) := by decide +kernel
theorem dX1_put_0 : decode cX1_put 0 = .ok (.iload_n 1, 1) := by decide +kernel
theorem dX1_put_1 : decode cX1_put 1 = .ok (.ifCond .lt 9, 3) := by decide +kernel
theorem dX1_put_4 : decode cX1_put 4 = .ok (.iload_n 1, 1) := by decide +kernel
theorem dX1_put_5 : decode cX1_put 5 = .ok (.bipush 64, 2) := by decide +kernel
theorem dX1_put_7 : decode cX1_put 7 = .ok (.if_icmp .lt 4, 3) := by decide +kernel
theorem dX1_put_10 : decode cX1_put 10 = .ok (.return_, 1) := by decide +kernel
theorem dX1_put_11 : decode cX1_put 11 = .ok (.aload_n 0, 1) := by decide +kernel
theorem dX1_put_12 : decode cX1_put 12 = .ok (.getfield 9, 3) := by decide +kernel
theorem dX1_put_15 : decode cX1_put 15 = .ok (.iload_n 1, 1) := by decide +kernel
theorem dX1_put_16 : decode cX1_put 16 = .ok (.iaload, 1) := by decide +kernel
theorem dX1_put_17 : decode cX1_put 17 = .ok (.istore_n 3, 1) := by decide +kernel
theorem dX1_put_18 : decode cX1_put 18 = .ok (.iload_n 3, 1) := by decide +kernel
theorem dX1_put_19 : decode cX1_put 19 = .ok (.bipush (-2), 2) := by decide +kernel
theorem dX1_put_21 : decode cX1_put 21 = .ok (.if_icmp .ne 13, 3) := by decide +kernel
theorem dX1_put_24 : decode cX1_put 24 = .ok (.aload_n 0, 1) := by decide +kernel
theorem dX1_put_25 : decode cX1_put 25 = .ok (.dup, 1) := by decide +kernel
theorem dX1_put_26 : decode cX1_put 26 = .ok (.getfield 24, 3) := by decide +kernel
theorem dX1_put_29 : decode cX1_put 29 = .ok (.iconst 1, 1) := by decide +kernel
theorem dX1_put_30 : decode cX1_put 30 = .ok (.iadd, 1) := by decide +kernel
theorem dX1_put_31 : decode cX1_put 31 = .ok (.putfield 24, 3) := by decide +kernel
theorem dX1_put_34 : decode cX1_put 34 = .ok (.iload_n 3, 1) := by decide +kernel
theorem dX1_put_35 : decode cX1_put 35 = .ok (.iconst (-1), 1) := by decide +kernel
theorem dX1_put_36 : decode cX1_put 36 = .ok (.if_icmp .ne 13, 3) := by decide +kernel
theorem dX1_put_39 : decode cX1_put 39 = .ok (.aload_n 0, 1) := by decide +kernel
theorem dX1_put_40 : decode cX1_put 40 = .ok (.dup, 1) := by decide +kernel
theorem dX1_put_41 : decode cX1_put 41 = .ok (.getfield 28, 3) := by decide +kernel
theorem dX1_put_44 : decode cX1_put 44 = .ok (.iconst 1, 1) := by decide +kernel
theorem dX1_put_45 : decode cX1_put 45 = .ok (.isub, 1) := by decide +kernel
theorem dX1_put_46 : decode cX1_put 46 = .ok (.putfield 28, 3) := by decide +kernel
theorem dX1_put_49 : decode cX1_put 49 = .ok (.iload_n 2, 1) := by decide +kernel
theorem dX1_put_50 : decode cX1_put 50 = .ok (.iconst (-1), 1) := by decide +kernel
theorem dX1_put_51 : decode cX1_put 51 = .ok (.if_icmp .ne 13, 3) := by decide +kernel
theorem dX1_put_54 : decode cX1_put 54 = .ok (.aload_n 0, 1) := by decide +kernel
theorem dX1_put_55 : decode cX1_put 55 = .ok (.dup, 1) := by decide +kernel
theorem dX1_put_56 : decode cX1_put 56 = .ok (.getfield 28, 3) := by decide +kernel
theorem dX1_put_59 : decode cX1_put 59 = .ok (.iconst 1, 1) := by decide +kernel
theorem dX1_put_60 : decode cX1_put 60 = .ok (.iadd, 1) := by decide +kernel
theorem dX1_put_61 : decode cX1_put 61 = .ok (.putfield 28, 3) := by decide +kernel
theorem dX1_put_64 : decode cX1_put 64 = .ok (.aload_n 0, 1) := by decide +kernel
theorem dX1_put_65 : decode cX1_put 65 = .ok (.getfield 9, 3) := by decide +kernel
theorem dX1_put_68 : decode cX1_put 68 = .ok (.iload_n 1, 1) := by decide +kernel
theorem dX1_put_69 : decode cX1_put 69 = .ok (.iload_n 2, 1) := by decide +kernel
theorem dX1_put_70 : decode cX1_put 70 = .ok (.iastore, 1) := by decide +kernel
theorem dX1_put_71 : decode cX1_put 71 = .ok (.aload_n 0, 1) := by decide +kernel
theorem dX1_put_72 : decode cX1_put 72 = .ok (.aload_n 0, 1) := by decide +kernel
theorem dX1_put_73 : decode cX1_put 73 = .ok (.getfield 31, 3) := by decide +kernel
theorem dX1_put_76 : decode cX1_put 76 = .ok (.iload_n 1, 1) := by decide +kernel
theorem dX1_put_77 : decode cX1_put 77 = .ok (.invokestatic 46, 3) := by decide +kernel
theorem dX1_put_80 : decode cX1_put 80 = .ok (.putfield 31, 3) := by decide +kernel
theorem dX1_put_83 : decode cX1_put 83 = .ok (.aload_n 0, 1) := by decide +kernel
theorem dX1_put_84 : decode cX1_put 84 = .ok (.aload_n 0, 1) := by decide +kernel
theorem dX1_put_85 : decode cX1_put 85 = .ok (.getfield 34, 3) := by decide +kernel
theorem dX1_put_88 : decode cX1_put 88 = .ok (.iload_n 1, 1) := by decide +kernel
theorem dX1_put_89 : decode cX1_put 89 = .ok (.invokestatic 52, 3) := by decide +kernel
theorem dX1_put_92 : decode cX1_put 92 = .ok (.putfield 34, 3) := by decide +kernel
theorem dX1_put_95 : decode cX1_put 95 = .ok (.aload_n 0, 1) := by decide +kernel
theorem dX1_put_96 : decode cX1_put 96 = .ok (.dup, 1) := by decide +kernel
theorem dX1_put_97 : decode cX1_put 97 = .ok (.getfield 37, 3) := by decide +kernel
theorem dX1_put_100 : decode cX1_put 100 = .ok (.iconst 1, 1) := by decide +kernel
theorem dX1_put_101 : decode cX1_put 101 = .ok (.iload_n 1, 1) := by decide +kernel
theorem dX1_put_102 : decode cX1_put 102 = .ok (.bipush 8, 2) := by decide +kernel
theorem dX1_put_104 : decode cX1_put 104 = .ok (.irem, 1) := by decide +kernel
theorem dX1_put_105 : decode cX1_put 105 = .ok (.ishl, 1) := by decide +kernel
theorem dX1_put_106 : decode cX1_put 106 = .ok (.ior, 1) := by decide +kernel
theorem dX1_put_107 : decode cX1_put 107 = .ok (.putfield 37, 3) := by decide +kernel
theorem dX1_put_110 : decode cX1_put 110 = .ok (.return_, 1) := by decide +kernel
theorem dX1_size_0 : decode cX1_size 0 = .ok (.aload_n 0, 1) := by decide +kernel
theorem dX1_size_1 : decode cX1_size 1 = .ok (.getfield 24, 3) := by decide +kernel
theorem dX1_size_4 : decode cX1_size 4 = .ok (.ireturn, 1) := by decide +kernel
theorem dX1_tombs_0 : decode cX1_tombs 0 = .ok (.aload_n 0, 1) := by decide +kernel
theorem dX1_tombs_1 : decode cX1_tombs 1 = .ok (.getfield 28, 3) := by decide +kernel
theorem dX1_tombs_4 : decode cX1_tombs 4 = .ok (.ireturn, 1) := by decide +kernel
theorem dX1_wordAt_0 : decode cX1_wordAt 0 = .ok (.iload_n 1, 1) := by decide +kernel
theorem dX1_wordAt_1 : decode cX1_wordAt 1 = .ok (.ifCond .lt 9, 3) := by decide +kernel
theorem dX1_wordAt_4 : decode cX1_wordAt 4 = .ok (.iload_n 1, 1) := by decide +kernel
theorem dX1_wordAt_5 : decode cX1_wordAt 5 = .ok (.bipush 64, 2) := by decide +kernel
theorem dX1_wordAt_7 : decode cX1_wordAt 7 = .ok (.if_icmp .lt 8, 3) := by decide +kernel
theorem dX1_wordAt_10 : decode cX1_wordAt 10 = .ok (.bipush (-2), 2) := by decide +kernel
theorem dX1_wordAt_12 : decode cX1_wordAt 12 = .ok (.goto 9, 3) := by decide +kernel
theorem dX1_wordAt_15 : decode cX1_wordAt 15 = .ok (.aload_n 0, 1) := by decide +kernel
theorem dX1_wordAt_16 : decode cX1_wordAt 16 = .ok (.getfield 9, 3) := by decide +kernel
theorem dX1_wordAt_19 : decode cX1_wordAt 19 = .ok (.iload_n 1, 1) := by decide +kernel
theorem dX1_wordAt_20 : decode cX1_wordAt 20 = .ok (.iaload, 1) := by decide +kernel
theorem dX1_wordAt_21 : decode cX1_wordAt 21 = .ok (.ireturn, 1) := by decide +kernel
set_option maxRecDepth 20000 in
theorem ggX1_has_X1_wordAt : GoodIn wsX1_has wsX1_wordAt := goodIn_r _ [5, 6, 7, 8, 9, 10, 11, 12] (by decide +kernel) (by decide +kernel)
set_option maxRecDepth 20000 in
theorem gX1_has_X1_wordAt : GoodIn wsX1_has (wsV RX1 55 RX1 yX1_wordAt wsX1_wordAt) := goodIn_app (goodIn_of _ (by decide +kernel)) ggX1_has_X1_wordAt
theorem dX1_has_0 : decode cX1_has 0 = .ok (.aload_n 0, 1) := by decide +kernel
theorem dX1_has_1 : decode cX1_has 1 = .ok (.iload_n 1, 1) := by decide +kernel
theorem dX1_has_2 : decode cX1_has 2 = .ok (.invokevirtual 55, 3) := by decide +kernel
theorem dX1_has_5 : decode cX1_has 5 = .ok (.bipush (-2), 2) := by decide +kernel
theorem dX1_has_7 : decode cX1_has 7 = .ok (.if_icmp .eq 7, 3) := by decide +kernel
theorem dX1_has_10 : decode cX1_has 10 = .ok (.iconst 1, 1) := by decide +kernel
theorem dX1_has_11 : decode cX1_has 11 = .ok (.goto 4, 3) := by decide +kernel
theorem dX1_has_14 : decode cX1_has 14 = .ok (.iconst 0, 1) := by decide +kernel
theorem dX1_has_15 : decode cX1_has 15 = .ok (.ireturn, 1) := by decide +kernel
theorem dX1_opensFor_0 : decode cX1_opensFor 0 = .ok (.iload_n 1, 1) := by decide +kernel
theorem dX1_opensFor_1 : decode cX1_opensFor 1 = .ok (.aload_n 0, 1) := by decide +kernel
theorem dX1_opensFor_2 : decode cX1_opensFor 2 = .ok (.getfield 31, 3) := by decide +kernel
theorem dX1_opensFor_5 : decode cX1_opensFor 5 = .ok (.if_icmp .lt 30, 3) := by decide +kernel
theorem dX1_opensFor_8 : decode cX1_opensFor 8 = .ok (.iload_n 1, 1) := by decide +kernel
theorem dX1_opensFor_9 : decode cX1_opensFor 9 = .ok (.aload_n 0, 1) := by decide +kernel
theorem dX1_opensFor_10 : decode cX1_opensFor 10 = .ok (.getfield 34, 3) := by decide +kernel
theorem dX1_opensFor_13 : decode cX1_opensFor 13 = .ok (.if_icmp .gt 22, 3) := by decide +kernel
theorem dX1_opensFor_16 : decode cX1_opensFor 16 = .ok (.aload_n 0, 1) := by decide +kernel
theorem dX1_opensFor_17 : decode cX1_opensFor 17 = .ok (.getfield 37, 3) := by decide +kernel
theorem dX1_opensFor_20 : decode cX1_opensFor 20 = .ok (.iload_n 1, 1) := by decide +kernel
theorem dX1_opensFor_21 : decode cX1_opensFor 21 = .ok (.bipush 8, 2) := by decide +kernel
theorem dX1_opensFor_23 : decode cX1_opensFor 23 = .ok (.irem, 1) := by decide +kernel
theorem dX1_opensFor_24 : decode cX1_opensFor 24 = .ok (.ishr, 1) := by decide +kernel
theorem dX1_opensFor_25 : decode cX1_opensFor 25 = .ok (.iconst 1, 1) := by decide +kernel
theorem dX1_opensFor_26 : decode cX1_opensFor 26 = .ok (.iand, 1) := by decide +kernel
theorem dX1_opensFor_27 : decode cX1_opensFor 27 = .ok (.iconst 1, 1) := by decide +kernel
theorem dX1_opensFor_28 : decode cX1_opensFor 28 = .ok (.if_icmp .ne 7, 3) := by decide +kernel
theorem dX1_opensFor_31 : decode cX1_opensFor 31 = .ok (.iconst 1, 1) := by decide +kernel
theorem dX1_opensFor_32 : decode cX1_opensFor 32 = .ok (.goto 4, 3) := by decide +kernel
theorem dX1_opensFor_35 : decode cX1_opensFor 35 = .ok (.iconst 0, 1) := by decide +kernel
theorem dX1_opensFor_36 : decode cX1_opensFor 36 = .ok (.ireturn, 1) := by decide +kernel
set_option maxRecDepth 20000 in
theorem ggX1_numberAt_X1_has : GoodIn wsX1_numberAt wsX1_has := goodIn_r _ [6, 7, 8, 9, 5, 10, 11, 12, 13, 14, 15, 16, 17] (by decide +kernel) (by decide +kernel)
set_option maxRecDepth 20000 in
theorem gX1_numberAt_X1_has : GoodIn wsX1_numberAt (wsV RX1 59 RX1 yX1_has wsX1_has) := goodIn_app (goodIn_of _ (by decide +kernel)) ggX1_numberAt_X1_has
theorem dX1_numberAt_0 : decode cX1_numberAt 0 = .ok (.iload_n 1, 1) := by decide +kernel
theorem dX1_numberAt_1 : decode cX1_numberAt 1 = .ok (.ifCond .lt 11, 3) := by decide +kernel
theorem dX1_numberAt_4 : decode cX1_numberAt 4 = .ok (.iload_n 1, 1) := by decide +kernel
theorem dX1_numberAt_5 : decode cX1_numberAt 5 = .ok (.aload_n 0, 1) := by decide +kernel
theorem dX1_numberAt_6 : decode cX1_numberAt 6 = .ok (.getfield 24, 3) := by decide +kernel
theorem dX1_numberAt_9 : decode cX1_numberAt 9 = .ok (.if_icmp .lt 5, 3) := by decide +kernel
theorem dX1_numberAt_12 : decode cX1_numberAt 12 = .ok (.iconst (-1), 1) := by decide +kernel
theorem dX1_numberAt_13 : decode cX1_numberAt 13 = .ok (.ireturn, 1) := by decide +kernel
theorem dX1_numberAt_14 : decode cX1_numberAt 14 = .ok (.iload_n 1, 1) := by decide +kernel
theorem dX1_numberAt_15 : decode cX1_numberAt 15 = .ok (.istore_n 2, 1) := by decide +kernel
theorem dX1_numberAt_16 : decode cX1_numberAt 16 = .ok (.iconst 0, 1) := by decide +kernel
theorem dX1_numberAt_17 : decode cX1_numberAt 17 = .ok (.istore_n 3, 1) := by decide +kernel
theorem dX1_numberAt_18 : decode cX1_numberAt 18 = .ok (.iload_n 3, 1) := by decide +kernel
theorem dX1_numberAt_19 : decode cX1_numberAt 19 = .ok (.bipush 64, 2) := by decide +kernel
theorem dX1_numberAt_21 : decode cX1_numberAt 21 = .ok (.if_icmp .ge 26, 3) := by decide +kernel
theorem dX1_numberAt_24 : decode cX1_numberAt 24 = .ok (.aload_n 0, 1) := by decide +kernel
theorem dX1_numberAt_25 : decode cX1_numberAt 25 = .ok (.iload_n 3, 1) := by decide +kernel
theorem dX1_numberAt_26 : decode cX1_numberAt 26 = .ok (.invokevirtual 59, 3) := by decide +kernel
theorem dX1_numberAt_29 : decode cX1_numberAt 29 = .ok (.ifCond .eq 12, 3) := by decide +kernel
theorem dX1_numberAt_32 : decode cX1_numberAt 32 = .ok (.iload_n 2, 1) := by decide +kernel
theorem dX1_numberAt_33 : decode cX1_numberAt 33 = .ok (.ifCond .ne 5, 3) := by decide +kernel
theorem dX1_numberAt_36 : decode cX1_numberAt 36 = .ok (.iload_n 3, 1) := by decide +kernel
theorem dX1_numberAt_37 : decode cX1_numberAt 37 = .ok (.ireturn, 1) := by decide +kernel
theorem dX1_numberAt_38 : decode cX1_numberAt 38 = .ok (.iinc 2 (-1), 3) := by decide +kernel
theorem dX1_numberAt_41 : decode cX1_numberAt 41 = .ok (.iinc 3 1, 3) := by decide +kernel
theorem dX1_numberAt_44 : decode cX1_numberAt 44 = .ok (.goto (-26), 3) := by decide +kernel
theorem dX1_numberAt_47 : decode cX1_numberAt 47 = .ok (.iconst (-1), 1) := by decide +kernel
theorem dX1_numberAt_48 : decode cX1_numberAt 48 = .ok (.ireturn, 1) := by decide +kernel
set_option maxRecDepth 20000 in
theorem ggX1_told_X1_wordAt : GoodIn wsX1_told wsX1_wordAt := goodIn_r _ [5, 6, 7, 8, 9, 10, 11, 12] (by decide +kernel) (by decide +kernel)
set_option maxRecDepth 20000 in
theorem gX1_told_X1_wordAt : GoodIn wsX1_told (wsV RX1 55 RX1 yX1_wordAt wsX1_wordAt) := goodIn_app (goodIn_of _ (by decide +kernel)) ggX1_told_X1_wordAt
theorem dX1_told_0 : decode cX1_told 0 = .ok (.aload_n 0, 1) := by decide +kernel
theorem dX1_told_1 : decode cX1_told 1 = .ok (.iload_n 1, 1) := by decide +kernel
theorem dX1_told_2 : decode cX1_told 2 = .ok (.invokevirtual 55, 3) := by decide +kernel
theorem dX1_told_5 : decode cX1_told 5 = .ok (.istore_n 2, 1) := by decide +kernel
theorem dX1_told_6 : decode cX1_told 6 = .ok (.iload_n 2, 1) := by decide +kernel
theorem dX1_told_7 : decode cX1_told 7 = .ok (.iconst (-1), 1) := by decide +kernel
theorem dX1_told_8 : decode cX1_told 8 = .ok (.if_icmp .ne 9, 3) := by decide +kernel
theorem dX1_told_11 : decode cX1_told 11 = .ok (.iconst (-1), 1) := by decide +kernel
theorem dX1_told_12 : decode cX1_told 12 = .ok (.iload_n 1, 1) := by decide +kernel
theorem dX1_told_13 : decode cX1_told 13 = .ok (.isub, 1) := by decide +kernel
theorem dX1_told_14 : decode cX1_told 14 = .ok (.goto 9, 3) := by decide +kernel
theorem dX1_told_17 : decode cX1_told 17 = .ok (.bipush 100, 2) := by decide +kernel
theorem dX1_told_19 : decode cX1_told 19 = .ok (.iload_n 1, 1) := by decide +kernel
theorem dX1_told_20 : decode cX1_told 20 = .ok (.imul, 1) := by decide +kernel
theorem dX1_told_21 : decode cX1_told 21 = .ok (.iload_n 2, 1) := by decide +kernel
theorem dX1_told_22 : decode cX1_told 22 = .ok (.iadd, 1) := by decide +kernel
theorem dX1_told_23 : decode cX1_told 23 = .ok (.ireturn, 1) := by decide +kernel
theorem dX1_fact_0 : decode cX1_fact 0 = .ok (.iload_n 1, 1) := by decide +kernel
theorem dX1_fact_1 : decode cX1_fact 1 = .ok (.tableswitch 51 0 3 #[31, 36, 41, 46], 31) := by decide +kernel
theorem dX1_fact_32 : decode cX1_fact 32 = .ok (.aload_n 0, 1) := by decide +kernel
theorem dX1_fact_33 : decode cX1_fact 33 = .ok (.getfield 24, 3) := by decide +kernel
theorem dX1_fact_36 : decode cX1_fact 36 = .ok (.ireturn, 1) := by decide +kernel
theorem dX1_fact_37 : decode cX1_fact 37 = .ok (.aload_n 0, 1) := by decide +kernel
theorem dX1_fact_38 : decode cX1_fact 38 = .ok (.getfield 31, 3) := by decide +kernel
theorem dX1_fact_41 : decode cX1_fact 41 = .ok (.ireturn, 1) := by decide +kernel
theorem dX1_fact_42 : decode cX1_fact 42 = .ok (.aload_n 0, 1) := by decide +kernel
theorem dX1_fact_43 : decode cX1_fact 43 = .ok (.getfield 34, 3) := by decide +kernel
theorem dX1_fact_46 : decode cX1_fact 46 = .ok (.ireturn, 1) := by decide +kernel
theorem dX1_fact_47 : decode cX1_fact 47 = .ok (.aload_n 0, 1) := by decide +kernel
theorem dX1_fact_48 : decode cX1_fact 48 = .ok (.getfield 37, 3) := by decide +kernel
theorem dX1_fact_51 : decode cX1_fact 51 = .ok (.ireturn, 1) := by decide +kernel
theorem dX1_fact_52 : decode cX1_fact 52 = .ok (.aload_n 0, 1) := by decide +kernel
theorem dX1_fact_53 : decode cX1_fact 53 = .ok (.getfield 28, 3) := by decide +kernel
theorem dX1_fact_56 : decode cX1_fact 56 = .ok (.ireturn, 1) := by decide +kernel
theorem dJ9_max_7cf53_0 : decode cJ9_max_7cf53 0 = .ok (.iload_n 0, 1) := by decide +kernel
theorem dJ9_max_7cf53_1 : decode cJ9_max_7cf53 1 = .ok (.iload_n 1, 1) := by decide +kernel
theorem dJ9_max_7cf53_2 : decode cJ9_max_7cf53 2 = .ok (.if_icmp .lt 7, 3) := by decide +kernel
theorem dJ9_max_7cf53_5 : decode cJ9_max_7cf53 5 = .ok (.iload_n 0, 1) := by decide +kernel
theorem dJ9_max_7cf53_6 : decode cJ9_max_7cf53 6 = .ok (.goto 4, 3) := by decide +kernel
theorem dJ9_max_7cf53_9 : decode cJ9_max_7cf53 9 = .ok (.iload_n 1, 1) := by decide +kernel
theorem dJ9_max_7cf53_10 : decode cJ9_max_7cf53 10 = .ok (.ireturn, 1) := by decide +kernel
theorem dJ9_min_7cf53_0 : decode cJ9_min_7cf53 0 = .ok (.iload_n 0, 1) := by decide +kernel
theorem dJ9_min_7cf53_1 : decode cJ9_min_7cf53 1 = .ok (.iload_n 1, 1) := by decide +kernel
theorem dJ9_min_7cf53_2 : decode cJ9_min_7cf53 2 = .ok (.if_icmp .gt 7, 3) := by decide +kernel
theorem dJ9_min_7cf53_5 : decode cJ9_min_7cf53 5 = .ok (.iload_n 0, 1) := by decide +kernel
theorem dJ9_min_7cf53_6 : decode cJ9_min_7cf53 6 = .ok (.goto 4, 3) := by decide +kernel
theorem dJ9_min_7cf53_9 : decode cJ9_min_7cf53 9 = .ok (.iload_n 1, 1) := by decide +kernel
theorem dJ9_min_7cf53_10 : decode cJ9_min_7cf53 10 = .ok (.ireturn, 1) := by decide +kernel
theorem dJ7_fill_53178_0 : decode cJ7_fill_53178 0 = .ok (.iconst 0, 1) := by decide +kernel
theorem dJ7_fill_53178_1 : decode cJ7_fill_53178 1 = .ok (.istore_n 2, 1) := by decide +kernel
theorem dJ7_fill_53178_2 : decode cJ7_fill_53178 2 = .ok (.aload_n 0, 1) := by decide +kernel
theorem dJ7_fill_53178_3 : decode cJ7_fill_53178 3 = .ok (.arraylength, 1) := by decide +kernel
theorem dJ7_fill_53178_4 : decode cJ7_fill_53178 4 = .ok (.istore_n 3, 1) := by decide +kernel
theorem dJ7_fill_53178_5 : decode cJ7_fill_53178 5 = .ok (.iload_n 2, 1) := by decide +kernel
theorem dJ7_fill_53178_6 : decode cJ7_fill_53178 6 = .ok (.iload_n 3, 1) := by decide +kernel
theorem dJ7_fill_53178_7 : decode cJ7_fill_53178 7 = .ok (.if_icmp .ge 13, 3) := by decide +kernel
theorem dJ7_fill_53178_10 : decode cJ7_fill_53178 10 = .ok (.aload_n 0, 1) := by decide +kernel
theorem dJ7_fill_53178_11 : decode cJ7_fill_53178 11 = .ok (.iload_n 2, 1) := by decide +kernel
theorem dJ7_fill_53178_12 : decode cJ7_fill_53178 12 = .ok (.iload_n 1, 1) := by decide +kernel
theorem dJ7_fill_53178_13 : decode cJ7_fill_53178 13 = .ok (.iastore, 1) := by decide +kernel
theorem dJ7_fill_53178_14 : decode cJ7_fill_53178 14 = .ok (.iinc 2 1, 3) := by decide +kernel
theorem dJ7_fill_53178_17 : decode cJ7_fill_53178 17 = .ok (.goto (-12), 3) := by decide +kernel
theorem dJ7_fill_53178_20 : decode cJ7_fill_53178 20 = .ok (.return_, 1) := by decide +kernel
end
section
theorem hasR_false {f : Row} {n : Nat} (h : f n = -2) : hasR f n = false := by simp [hasR, h]
theorem hasR_true {f : Row} {n : Nat} (h : ¬ f n = -2) : hasR f n = true := by simp [hasR, h]
theorem nI_dec {a : Nat} (h : 0 < a) : nI a + Int32.ofInt (-1) = nI (a - 1) := by
  obtain ⟨b, rfl⟩ : ∃ b, a = b + 1 := ⟨a - 1, by omega⟩
  rw [show Int32.ofInt (-1) = (-1 : Int32) from by decide]
  exact pk_m1 b
theorem opnC_1 {f : Row} {k : Nat} (h : k < lsR f) : bI (opnC f k) = nI 0 := by
  have : ¬ lsR f ≤ k := by omega
  simp [opnC, this, bI]
  rfl
theorem opnC_2 {f : Row} {k : Nat} (h : grR f < nI k) : bI (opnC f k) = nI 0 := by
  have : ¬ nI k ≤ grR f := Int32.not_le.mpr h
  simp [opnC, this, bI]
  rfl
theorem opnC_3 {f : Row} {k : Nat} (h : ¬ (svR f >>> (nI (k % 8) &&& 31)) &&& nI 1 = nI 1) : bI (opnC f k) = nI 0 := by
  rw [svR, sv_bit (opR f) (by omega)] at h
  have h2 : opR f (k % 8) = false := by
    cases hq : opR f (k % 8) with
    | false => rfl
    | true => rw [hq] at h; exact absurd rfl h
  simp [opnC, h2, bI]
  rfl
theorem opnC_4 {f : Row} {k : Nat} (h1 : ¬ k < lsR f) (h2 : ¬ grR f < nI k) (h : (svR f >>> (nI (k % 8) &&& 31)) &&& nI 1 = nI 1) : bI (opnC f k) = nI 1 := by
  rw [svR, sv_bit (opR f) (by omega)] at h
  have h3 : opR f (k % 8) = true := by
    cases hq : opR f (k % 8) with
    | true => rfl
    | false => rw [hq] at h; exact absurd h (by decide)
  have h4 : lsR f ≤ k := by omega
  have h5 : nI k ≤ grR f := Int32.not_lt.mp h2
  simp [opnC, h3, h4, h5, bI]
  rfl
def factR (f : Row) : Nat → Int32
  | 0 => nI (szR f)
  | 1 => nI (lsR f)
  | 2 => grR f
  | 3 => svR f
  | _ => nI (tbR f)

set_option maxHeartbeats 4000000 in
set_option maxRecDepth 100000 in
theorem c_X1_size (l : Launch) (G : hG) (hp : HP) (a w : Nat) (f : Row) (he : slAt hp a w f) : hRd l yX1_size wsX1_size 0 0 G hp [.ref a] (some (.int (nI (szR f)))) := by
  refine Met.ofW (cc := cX1_size) (maxL := 1) (ret := (some .int)) (by decide) rfl ?_
  intro p e s m args below meth c s₁ B hml hv
  obtain ⟨rfl, hV0, hK0⟩ := hv
  have hx := B.exec
  have hb := B.bytes
  have hr := B.returns
  have hts := atoms_spec (ws := wsX1_size) B.pre
  have hown : s.vm.findClass RX1 = some m.cls := findClass_of_methodNamed B.named
  have hlocks := B.notSynchronized
  have hF : CallFix p m c cX1_size 1 s [.ref a].toArray wsX1_size RX1 := ⟨hx, hb, hml, hown, hts⟩
  have hw0 := hts (.fieldLink RX1 24 "SlipLevels$Slips" "size" "I") (by decide +kernel)
  have hi1 : ∀ w ∈ u_ws RX1 TX1 6, w ∈ wsX1_size := by
    intro w h
    unfold wsX1_size
    simp only [List.mem_cons, List.mem_append, h, true_or, or_true]
  have hl := lv_entry ([.ref a]) (n := 1) (Nat.le_of_ble_eq_true rfl)
  rw [lg_entry_eq]
  generalize (lg_sl ([.ref a]) ++ List.replicate (1 - (lg_sl ([.ref a])).length) Slot.unset).toArray = ls at hl ⊢
  replace hl : lv_has ls 1 [(0, .ref a)] := hl
  refine lv_aload_n hx hb dX1_size_0 rfl (lv_at hl 0 rfl) ?_
  refine h_get (v := .int (nI (szR f))) hx hb hts hi1 hown hK0 hV0 he.1 rfl 1 (by decide) hw0 rfl dX1_size_1 ?_
  exact h_iretR hx hb hr hlocks (by first | rfl | assumption) dX1_size_4

set_option maxHeartbeats 4000000 in
set_option maxRecDepth 100000 in
theorem c_X1_tombs (l : Launch) (G : hG) (hp : HP) (a w : Nat) (f : Row) (he : slAt hp a w f) : hRd l yX1_tombs wsX1_tombs 0 0 G hp [.ref a] (some (.int (nI (tbR f)))) := by
  refine Met.ofW (cc := cX1_tombs) (maxL := 1) (ret := (some .int)) (by decide) rfl ?_
  intro p e s m args below meth c s₁ B hml hv
  obtain ⟨rfl, hV0, hK0⟩ := hv
  have hx := B.exec
  have hb := B.bytes
  have hr := B.returns
  have hts := atoms_spec (ws := wsX1_tombs) B.pre
  have hown : s.vm.findClass RX1 = some m.cls := findClass_of_methodNamed B.named
  have hlocks := B.notSynchronized
  have hF : CallFix p m c cX1_tombs 1 s [.ref a].toArray wsX1_tombs RX1 := ⟨hx, hb, hml, hown, hts⟩
  have hw0 := hts (.fieldLink RX1 28 "SlipLevels$Slips" "tombs" "I") (by decide +kernel)
  have hi1 : ∀ w ∈ u_ws RX1 TX1 6, w ∈ wsX1_tombs := by
    intro w h
    unfold wsX1_tombs
    simp only [List.mem_cons, List.mem_append, h, true_or, or_true]
  have hl := lv_entry ([.ref a]) (n := 1) (Nat.le_of_ble_eq_true rfl)
  rw [lg_entry_eq]
  generalize (lg_sl ([.ref a]) ++ List.replicate (1 - (lg_sl ([.ref a])).length) Slot.unset).toArray = ls at hl ⊢
  replace hl : lv_has ls 1 [(0, .ref a)] := hl
  refine lv_aload_n hx hb dX1_tombs_0 rfl (lv_at hl 0 rfl) ?_
  refine h_get (v := .int (nI (tbR f))) hx hb hts hi1 hown hK0 hV0 he.1 rfl 2 (by decide) hw0 rfl dX1_tombs_1 ?_
  exact h_iretR hx hb hr hlocks (by first | rfl | assumption) dX1_tombs_4

set_option maxHeartbeats 4000000 in
set_option maxRecDepth 100000 in
theorem c_X1_wordAt (l : Launch) (G : hG) (hp : HP) (a w : Nat) (f : Row) (he : slAt hp a w f) (k : Nat) (hk : k < 64) : hRd l yX1_wordAt wsX1_wordAt 0 0 G hp [.ref a, .int (nI k)] (some (.int (f k))) := by
  refine Met.ofW (cc := cX1_wordAt) (maxL := 2) (ret := (some .int)) (by decide) rfl ?_
  intro p e s m args below meth c s₁ B hml hv
  obtain ⟨rfl, hV0, hK0⟩ := hv
  have hx := B.exec
  have hb := B.bytes
  have hr := B.returns
  have hts := atoms_spec (ws := wsX1_wordAt) B.pre
  have hown : s.vm.findClass RX1 = some m.cls := findClass_of_methodNamed B.named
  have hlocks := B.notSynchronized
  have hF : CallFix p m c cX1_wordAt 2 s [.ref a, .int (nI k)].toArray wsX1_wordAt RX1 := ⟨hx, hb, hml, hown, hts⟩
  have hw0 := hts (.fieldLink RX1 9 "SlipLevels$Slips" "words" "[I") (by decide +kernel)
  have hi1 : ∀ w ∈ u_ws RX1 TX1 6, w ∈ wsX1_wordAt := by
    intro w h
    unfold wsX1_wordAt
    simp only [List.mem_cons, List.mem_append, h, true_or, or_true]
  have hl := lv_entry ([.ref a, .int (nI k)]) (n := 2) (Nat.le_of_ble_eq_true rfl)
  rw [lg_entry_eq]
  generalize (lg_sl ([.ref a, .int (nI k)]) ++ List.replicate (2 - (lg_sl ([.ref a, .int (nI k)])).length) Slot.unset).toArray = ls at hl ⊢
  replace hl : lv_has ls 2 [(0, .ref a), (1, .int (nI k))] := hl
  refine lv_iload_n hx hb dX1_wordAt_0 rfl (lv_at hl 1 rfl) ?_
  refine h_if_lt (a := k) (tgt := 10) hx hb dX1_wordAt_1 (by decide) (by omega) ?_
  refine lv_iload_n hx hb dX1_wordAt_4 rfl (lv_at hl 1 rfl) ?_
  refine lv_bipush (v := nI 64) hx hb dX1_wordAt_5 (by decide) ?_
  refine h_icmp_lt (a := k) (b := 64) (tgt := 15) hx hb dX1_wordAt_7 (by decide) (by omega) (by omega) (fun c_7 => ?_) (fun c_7 => absurd hk c_7)
  refine lv_aload_n hx hb dX1_wordAt_15 rfl (lv_at hl 0 rfl) ?_
  refine h_get (v := .ref w) hx hb hts hi1 hown hK0 hV0 he.1 rfl 0 (by decide) hw0 rfl dX1_wordAt_16 ?_
  refine lv_iload_n hx hb dX1_wordAt_19 rfl (lv_at hl 1 rfl) ?_
  refine h_iald (i := k) hx hb hK0 hV0 he.2 (by omega) (by omega) dX1_wordAt_20 ?_
  exact h_iretR hx hb hr hlocks (by first | rfl | assumption) dX1_wordAt_21

set_option maxHeartbeats 4000000 in
set_option maxRecDepth 100000 in
theorem c_X1_has (l : Launch) (G : hG) (hp : HP) (a w : Nat) (f : Row) (he : slAt hp a w f) (k : Nat) (hk : k < 64) : hRd l yX1_has wsX1_has 1 21 G hp [.ref a, .int (nI k)] (some (.int (bI (hasR f k)))) := by
  refine Met.ofW (cc := cX1_has) (maxL := 2) (ret := (some .boolean)) (by decide) rfl ?_
  intro p e s m args below meth c s₁ B hml hv
  obtain ⟨rfl, hV0, hK0⟩ := hv
  have hx := B.exec
  have hb := B.bytes
  have hr := B.returns
  have hts := atoms_spec (ws := wsX1_has) B.pre
  have hown : s.vm.findClass RX1 = some m.cls := findClass_of_methodNamed B.named
  have hlocks := B.notSynchronized
  have hF : CallFix p m c cX1_has 2 s [.ref a, .int (nI k)].toArray wsX1_has RX1 := ⟨hx, hb, hml, hown, hts⟩
  have hl := lv_entry ([.ref a, .int (nI k)]) (n := 2) (Nat.le_of_ble_eq_true rfl)
  rw [lg_entry_eq]
  generalize (lg_sl ([.ref a, .int (nI k)]) ++ List.replicate (2 - (lg_sl ([.ref a, .int (nI k)])).length) Slot.unset).toArray = ls at hl ⊢
  replace hl : lv_has ls 2 [(0, .ref a), (1, .int (nI k))] := hl
  refine lv_aload_n hx hb dX1_has_0 rfl (lv_at hl 0 rfl) ?_
  refine lv_iload_n hx hb dX1_has_1 rfl (lv_at hl 1 rfl) ?_
  refine h_rdV (As := [.int (nI k)]) (rest := []) hF (c_X1_wordAt l G hp a w f he k (by omega)) 1 gX1_has_X1_wordAt rfl (by decide +kernel) ⟨Nat.le_of_ble_eq_true rfl, Nat.le_of_ble_eq_true rfl⟩ hK0 hV0 he.1 rfl rfl rfl hl.1 rfl (Nat.le_of_ble_eq_true rfl) (Nat.le_refl _) (Nat.le_refl _) dX1_has_2 ?_
  refine lv_bipush (v := (-2)) hx hb dX1_has_5 (by decide) ?_
  refine lv_icmp_eq (tgt := 14) hx hb dX1_has_7 (by decide) (fun c_7 => ?_) (fun c_7 => ?_)
  · refine lv_iconst (v := nI 0) hx hb dX1_has_14 (by decide) ?_
    exact h_zretR hx hb hr hlocks (by first | (rw [hasR_false c_7]; rfl) | (rw [hasR_true c_7]; rfl)) dX1_has_15
  · refine lv_iconst (v := nI 1) hx hb dX1_has_10 (by decide) ?_
    refine lv_goto (tgt := 15) hx hb dX1_has_11 (by decide) ?_
    exact h_zretR hx hb hr hlocks (by first | (rw [hasR_false c_7]; rfl) | (rw [hasR_true c_7]; rfl)) dX1_has_15

set_option maxHeartbeats 4000000 in
set_option maxRecDepth 100000 in
theorem c_X1_opensFor (l : Launch) (G : hG) (hp : HP) (a w : Nat) (f : Row) (he : slAt hp a w f) (k : Nat) (hk : k < 64) : hRd l yX1_opensFor wsX1_opensFor 0 0 G hp [.ref a, .int (nI k)] (some (.int (bI (opnC f k)))) := by
  refine Met.ofW (cc := cX1_opensFor) (maxL := 2) (ret := (some .boolean)) (by decide) rfl ?_
  intro p e s m args below meth c s₁ B hml hv
  obtain ⟨rfl, hV0, hK0⟩ := hv
  have hx := B.exec
  have hb := B.bytes
  have hr := B.returns
  have hts := atoms_spec (ws := wsX1_opensFor) B.pre
  have hown : s.vm.findClass RX1 = some m.cls := findClass_of_methodNamed B.named
  have hlocks := B.notSynchronized
  have hF : CallFix p m c cX1_opensFor 2 s [.ref a, .int (nI k)].toArray wsX1_opensFor RX1 := ⟨hx, hb, hml, hown, hts⟩
  have hw0 := hts (.fieldLink RX1 31 "SlipLevels$Slips" "least" "I") (by decide +kernel)
  have hw1 := hts (.fieldLink RX1 34 "SlipLevels$Slips" "greatest" "I") (by decide +kernel)
  have hw2 := hts (.fieldLink RX1 37 "SlipLevels$Slips" "sieve" "I") (by decide +kernel)
  have hi1 : ∀ w ∈ u_ws RX1 TX1 6, w ∈ wsX1_opensFor := by
    intro w h
    unfold wsX1_opensFor
    simp only [List.mem_cons, List.mem_append, h, true_or, or_true]
  have hl := lv_entry ([.ref a, .int (nI k)]) (n := 2) (Nat.le_of_ble_eq_true rfl)
  rw [lg_entry_eq]
  generalize (lg_sl ([.ref a, .int (nI k)]) ++ List.replicate (2 - (lg_sl ([.ref a, .int (nI k)])).length) Slot.unset).toArray = ls at hl ⊢
  replace hl : lv_has ls 2 [(0, .ref a), (1, .int (nI k))] := hl
  have hz1 := szR_le f
  have hz2 := tbR_le f
  have hz3 := lsR_le f
  refine lv_iload_n hx hb dX1_opensFor_0 rfl (lv_at hl 1 rfl) ?_
  refine lv_aload_n hx hb dX1_opensFor_1 rfl (lv_at hl 0 rfl) ?_
  refine h_get (v := .int (nI (lsR f))) hx hb hts hi1 hown hK0 hV0 he.1 rfl 3 (by decide) hw0 rfl dX1_opensFor_2 ?_
  refine h_icmp_lt (a := k) (b := lsR f) (tgt := 35) hx hb dX1_opensFor_5 (by decide) (by omega) (by omega) (fun c_5 => ?_) (fun c_5 => ?_)
  · refine lv_iconst (v := nI 0) hx hb dX1_opensFor_35 (by decide) ?_
    exact h_zretR hx hb hr hlocks (opnC_1 c_5).symm dX1_opensFor_36
  · refine lv_iload_n hx hb dX1_opensFor_8 rfl (lv_at hl 1 rfl) ?_
    refine lv_aload_n hx hb dX1_opensFor_9 rfl (lv_at hl 0 rfl) ?_
    refine h_get (v := .int (grR f)) hx hb hts hi1 hown hK0 hV0 he.1 rfl 4 (by decide) hw1 rfl dX1_opensFor_10 ?_
    refine lv_icmp_gt (tgt := 35) hx hb dX1_opensFor_13 (by decide) (fun c_13 => ?_) (fun c_13 => ?_)
    · refine lv_iconst (v := nI 0) hx hb dX1_opensFor_35 (by decide) ?_
      exact h_zretR hx hb hr hlocks (opnC_2 c_13).symm dX1_opensFor_36
    · refine lv_aload_n hx hb dX1_opensFor_16 rfl (lv_at hl 0 rfl) ?_
      refine h_get (v := .int (svR f)) hx hb hts hi1 hown hK0 hV0 he.1 rfl 5 (by decide) hw2 rfl dX1_opensFor_17 ?_
      refine lv_iload_n hx hb dX1_opensFor_20 rfl (lv_at hl 1 rfl) ?_
      refine lv_bipush (v := nI 8) hx hb dX1_opensFor_21 (by decide) ?_
      refine h_iremN hx hb (by omega) (by decide) (by decide) dX1_opensFor_23 ?_
      refine lv_ishr hx hb dX1_opensFor_24 ?_
      refine lv_iconst (v := nI 1) hx hb dX1_opensFor_25 (by decide) ?_
      refine lv_iand hx hb dX1_opensFor_26 ?_
      refine lv_iconst (v := nI 1) hx hb dX1_opensFor_27 (by decide) ?_
      refine lv_icmp_ne (tgt := 35) hx hb dX1_opensFor_28 (by decide) (fun c_28 => ?_) (fun c_28 => ?_)
      · refine lv_iconst (v := nI 0) hx hb dX1_opensFor_35 (by decide) ?_
        exact h_zretR hx hb hr hlocks (opnC_3 c_28).symm dX1_opensFor_36
      · refine lv_iconst (v := nI 1) hx hb dX1_opensFor_31 (by decide) ?_
        refine lv_goto (tgt := 36) hx hb dX1_opensFor_32 (by decide) ?_
        exact h_zretR hx hb hr hlocks (opnC_4 c_5 c_13 c_28).symm dX1_opensFor_36

set_option maxHeartbeats 4000000 in
set_option maxRecDepth 100000 in
theorem c_X1_told (l : Launch) (G : hG) (hp : HP) (a w : Nat) (f : Row) (he : slAt hp a w f) (k : Nat) (hk : k < 64) : hRd l yX1_told wsX1_told 1 21 G hp [.ref a, .int (nI k)] (some (.int (toldR f k))) := by
  refine Met.ofW (cc := cX1_told) (maxL := 3) (ret := (some .int)) (by decide) rfl ?_
  intro p e s m args below meth c s₁ B hml hv
  obtain ⟨rfl, hV0, hK0⟩ := hv
  have hx := B.exec
  have hb := B.bytes
  have hr := B.returns
  have hts := atoms_spec (ws := wsX1_told) B.pre
  have hown : s.vm.findClass RX1 = some m.cls := findClass_of_methodNamed B.named
  have hlocks := B.notSynchronized
  have hF : CallFix p m c cX1_told 3 s [.ref a, .int (nI k)].toArray wsX1_told RX1 := ⟨hx, hb, hml, hown, hts⟩
  have hl := lv_entry ([.ref a, .int (nI k)]) (n := 3) (Nat.le_of_ble_eq_true rfl)
  rw [lg_entry_eq]
  generalize (lg_sl ([.ref a, .int (nI k)]) ++ List.replicate (3 - (lg_sl ([.ref a, .int (nI k)])).length) Slot.unset).toArray = ls at hl ⊢
  replace hl : lv_has ls 3 [(0, .ref a), (1, .int (nI k))] := hl
  refine lv_aload_n hx hb dX1_told_0 rfl (lv_at hl 0 rfl) ?_
  refine lv_iload_n hx hb dX1_told_1 rfl (lv_at hl 1 rfl) ?_
  refine h_rdV (As := [.int (nI k)]) (rest := []) hF (c_X1_wordAt l G hp a w f he k (by omega)) 1 gX1_told_X1_wordAt rfl (by decide +kernel) ⟨Nat.le_of_ble_eq_true rfl, Nat.le_of_ble_eq_true rfl⟩ hK0 hV0 he.1 rfl rfl rfl hl.1 rfl (Nat.le_of_ble_eq_true rfl) (Nat.le_refl _) (Nat.le_refl _) dX1_told_2 ?_
  refine lv_istore_n (lv' := [(2, .int (f k)), (0, .ref a), (1, .int (nI k))]) hx hb dX1_told_5 rfl hl (by decide) rfl (fun ls hl => ?_)
  refine lv_iload_n hx hb dX1_told_6 rfl (lv_at hl 0 rfl) ?_
  refine lv_iconst (v := (-1)) hx hb dX1_told_7 (by decide) ?_
  refine lv_icmp_ne (tgt := 17) hx hb dX1_told_8 (by decide) (fun c_8 => ?_) (fun c_8 => ?_)
  · refine lv_bipush (v := nI 100) hx hb dX1_told_17 (by decide) ?_
    refine lv_iload_n hx hb dX1_told_19 rfl (lv_at hl 2 rfl) ?_
    refine lv_imul hx hb dX1_told_20 ?_
    refine lv_iload_n hx hb dX1_told_21 rfl (lv_at hl 0 rfl) ?_
    refine lv_iadd hx hb dX1_told_22 ?_
    exact h_iretR hx hb hr hlocks (by unfold toldR; first | rw [if_neg c_8] | rw [if_pos c_8]; done) dX1_told_23
  · refine lv_iconst (v := (-1)) hx hb dX1_told_11 (by decide) ?_
    refine lv_iload_n hx hb dX1_told_12 rfl (lv_at hl 2 rfl) ?_
    refine lv_isub hx hb dX1_told_13 ?_
    refine lv_goto (tgt := 23) hx hb dX1_told_14 (by decide) ?_
    exact h_iretR hx hb hr hlocks (by unfold toldR; first | rw [if_neg c_8] | rw [if_pos c_8]; done) dX1_told_23

set_option maxHeartbeats 4000000 in
set_option maxRecDepth 100000 in
theorem c_X1_fact (l : Launch) (G : hG) (hp : HP) (a w : Nat) (f : Row) (he : slAt hp a w f) (wh : Nat) (hk : wh < 5) : hRd l yX1_fact wsX1_fact 0 0 G hp [.ref a, .int (nI wh)] (some (.int (factR f wh))) := by
  refine Met.ofW (cc := cX1_fact) (maxL := 2) (ret := (some .int)) (by decide) rfl ?_
  intro p e s m args below meth c s₁ B hml hv
  obtain ⟨rfl, hV0, hK0⟩ := hv
  have hx := B.exec
  have hb := B.bytes
  have hr := B.returns
  have hts := atoms_spec (ws := wsX1_fact) B.pre
  have hown : s.vm.findClass RX1 = some m.cls := findClass_of_methodNamed B.named
  have hlocks := B.notSynchronized
  have hF : CallFix p m c cX1_fact 2 s [.ref a, .int (nI wh)].toArray wsX1_fact RX1 := ⟨hx, hb, hml, hown, hts⟩
  have hw0 := hts (.fieldLink RX1 24 "SlipLevels$Slips" "size" "I") (by decide +kernel)
  have hw1 := hts (.fieldLink RX1 31 "SlipLevels$Slips" "least" "I") (by decide +kernel)
  have hw2 := hts (.fieldLink RX1 34 "SlipLevels$Slips" "greatest" "I") (by decide +kernel)
  have hw3 := hts (.fieldLink RX1 37 "SlipLevels$Slips" "sieve" "I") (by decide +kernel)
  have hw4 := hts (.fieldLink RX1 28 "SlipLevels$Slips" "tombs" "I") (by decide +kernel)
  have hi1 : ∀ w ∈ u_ws RX1 TX1 6, w ∈ wsX1_fact := by
    intro w h
    unfold wsX1_fact
    simp only [List.mem_cons, List.mem_append, h, true_or, or_true]
  have hl := lv_entry ([.ref a, .int (nI wh)]) (n := 2) (Nat.le_of_ble_eq_true rfl)
  rw [lg_entry_eq]
  generalize (lg_sl ([.ref a, .int (nI wh)]) ++ List.replicate (2 - (lg_sl ([.ref a, .int (nI wh)])).length) Slot.unset).toArray = ls at hl ⊢
  replace hl : lv_has ls 2 [(0, .ref a), (1, .int (nI wh))] := hl
  refine lv_iload_n hx hb dX1_fact_0 rfl (lv_at hl 1 rfl) ?_
  rcases (show wh = 0 ∨ wh = 1 ∨ wh = 2 ∨ wh = 3 ∨ 4 ≤ wh by omega) with hq | hq | hq | hq | hq
  · subst hq
    refine lv_tableIn (off := 31) (tgt := 32) hx hb dX1_fact_1 (by decide) (by decide) (by decide) (by decide) ?_
    refine lv_aload_n hx hb dX1_fact_32 rfl (lv_at hl 0 rfl) ?_
    refine h_get (v := .int (nI (szR f))) hx hb hts hi1 hown hK0 hV0 he.1 rfl 1 (by decide) hw0 rfl dX1_fact_33 ?_
    exact h_iretR hx hb hr hlocks (by first | rfl | (rw [show wh = 4 by omega]; rfl)) dX1_fact_36
  · subst hq
    refine lv_tableIn (off := 36) (tgt := 37) hx hb dX1_fact_1 (by decide) (by decide) (by decide) (by decide) ?_
    refine lv_aload_n hx hb dX1_fact_37 rfl (lv_at hl 0 rfl) ?_
    refine h_get (v := .int (nI (lsR f))) hx hb hts hi1 hown hK0 hV0 he.1 rfl 3 (by decide) hw1 rfl dX1_fact_38 ?_
    exact h_iretR hx hb hr hlocks (by first | rfl | (rw [show wh = 4 by omega]; rfl)) dX1_fact_41
  · subst hq
    refine lv_tableIn (off := 41) (tgt := 42) hx hb dX1_fact_1 (by decide) (by decide) (by decide) (by decide) ?_
    refine lv_aload_n hx hb dX1_fact_42 rfl (lv_at hl 0 rfl) ?_
    refine h_get (v := .int (grR f)) hx hb hts hi1 hown hK0 hV0 he.1 rfl 4 (by decide) hw2 rfl dX1_fact_43 ?_
    exact h_iretR hx hb hr hlocks (by first | rfl | (rw [show wh = 4 by omega]; rfl)) dX1_fact_46
  · subst hq
    refine lv_tableIn (off := 46) (tgt := 47) hx hb dX1_fact_1 (by decide) (by decide) (by decide) (by decide) ?_
    refine lv_aload_n hx hb dX1_fact_47 rfl (lv_at hl 0 rfl) ?_
    refine h_get (v := .int (svR f)) hx hb hts hi1 hown hK0 hV0 he.1 rfl 5 (by decide) hw3 rfl dX1_fact_48 ?_
    exact h_iretR hx hb hr hlocks (by first | rfl | (rw [show wh = 4 by omega]; rfl)) dX1_fact_51
  · refine lv_tableOut (tgt := 52) hx hb dX1_fact_1 (Or.inr (by rw [nI_toInt (by omega)]; omega)) (by decide) ?_
    refine lv_aload_n hx hb dX1_fact_52 rfl (lv_at hl 0 rfl) ?_
    refine h_get (v := .int (nI (tbR f))) hx hb hts hi1 hown hK0 hV0 he.1 rfl 2 (by decide) hw4 rfl dX1_fact_53 ?_
    exact h_iretR hx hb hr hlocks (by first | rfl | (rw [show wh = 4 by omega]; rfl)) dX1_fact_56

set_option maxHeartbeats 4000000 in
set_option maxRecDepth 100000 in
theorem c_X1_numberAt (l : Launch) (G : hG) (hp : HP) (a w : Nat) (f : Row) (he : slAt hp a w f) (k : Nat) (hk : k < szR f) : hRd l yX1_numberAt wsX1_numberAt 2 42 G hp [.ref a, .int (nI k)] (some (.int (nI (nthR f k)))) := by
  refine Met.ofW (cc := cX1_numberAt) (maxL := 4) (ret := (some .int)) (by decide) rfl ?_
  intro p e s m args below meth c s₁ B hml hv
  obtain ⟨rfl, hV0, hK0⟩ := hv
  have hx := B.exec
  have hb := B.bytes
  have hr := B.returns
  have hts := atoms_spec (ws := wsX1_numberAt) B.pre
  have hown : s.vm.findClass RX1 = some m.cls := findClass_of_methodNamed B.named
  have hlocks := B.notSynchronized
  have hF : CallFix p m c cX1_numberAt 4 s [.ref a, .int (nI k)].toArray wsX1_numberAt RX1 := ⟨hx, hb, hml, hown, hts⟩
  have hw0 := hts (.fieldLink RX1 24 "SlipLevels$Slips" "size" "I") (by decide +kernel)
  have hi1 : ∀ w ∈ u_ws RX1 TX1 6, w ∈ wsX1_numberAt := by
    intro w h
    unfold wsX1_numberAt
    simp only [List.mem_cons, List.mem_append, h, true_or, or_true]
  have hl := lv_entry ([.ref a, .int (nI k)]) (n := 4) (Nat.le_of_ble_eq_true rfl)
  rw [lg_entry_eq]
  generalize (lg_sl ([.ref a, .int (nI k)]) ++ List.replicate (4 - (lg_sl ([.ref a, .int (nI k)])).length) Slot.unset).toArray = ls at hl ⊢
  replace hl : lv_has ls 4 [(0, .ref a), (1, .int (nI k))] := hl
  have hz1 := szR_le f
  have hz2 := tbR_le f
  have hz3 := lsR_le f
  refine lv_iload_n hx hb dX1_numberAt_0 rfl (lv_at hl 1 rfl) ?_
  refine h_if_lt (a := k) (tgt := 12) hx hb dX1_numberAt_1 (by decide) (by omega) ?_
  refine lv_iload_n hx hb dX1_numberAt_4 rfl (lv_at hl 1 rfl) ?_
  refine lv_aload_n hx hb dX1_numberAt_5 rfl (lv_at hl 0 rfl) ?_
  refine h_get (v := .int (nI (szR f))) hx hb hts hi1 hown hK0 hV0 he.1 rfl 1 (by decide) hw0 rfl dX1_numberAt_6 ?_
  refine h_icmp_lt (a := k) (b := szR f) (tgt := 14) hx hb dX1_numberAt_9 (by decide) (by omega) (by omega) (fun c_9 => ?_) (fun c_9 => absurd hk c_9)
  refine lv_iload_n hx hb dX1_numberAt_14 rfl (lv_at hl 1 rfl) ?_
  refine lv_istore_n (lv' := [(2, .int (nI k)), (0, .ref a), (1, .int (nI k))]) hx hb dX1_numberAt_15 rfl hl (by decide) rfl (fun ls hl => ?_)
  refine lv_iconst (v := nI 0) hx hb dX1_numberAt_16 (by decide) ?_
  refine lv_istore_n (lv' := [(3, .int (nI 0)), (2, .int (nI k)), (0, .ref a), (1, .int (nI k))]) hx hb dX1_numberAt_17 rfl hl (by decide) rfl (fun ls hl => ?_)
  replace hl : lv_has ls 4 [(3, .int (nI 0)), (2, .int (nI (k - cntB (hasR f) 0))), (0, .ref a), (1, .int (nI k))] := lv_sub hl [0, 1, 2, 3] rfl
  revert ls
  refine h_loop 64 (fun i => [(3, .int (nI i)), (2, .int (nI (k - cntB (hasR f) i))), (0, .ref a), (1, .int (nI k))]) (fun i => cntB (hasR f) i ≤ k) (fun i hi hI ih ls hl => ?_) 0 (Nat.zero_le _) (Nat.zero_le _)
  refine lv_iload_n hx hb dX1_numberAt_18 rfl (lv_at hl 0 rfl) ?_
  refine lv_bipush (v := nI 64) hx hb dX1_numberAt_19 (by decide) ?_
  have hcle := cntB_le (hasR f) i
  refine h_icmp_ge (a := i) (b := 64) (tgt := 47) hx hb dX1_numberAt_21 (by decide) (by omega) (by omega) (fun c_21 => ?_) (fun c_21 => ?_)
  · refine lv_iconst (v := (-1)) hx hb dX1_numberAt_47 (by decide) ?_
    exact h_iretR hx hb hr hlocks (absurd hk (by rw [show i = 64 by omega] at hI; exact Nat.not_lt.mpr hI)) dX1_numberAt_48
  · refine lv_aload_n hx hb dX1_numberAt_24 rfl (lv_at hl 2 rfl) ?_
    refine lv_iload_n hx hb dX1_numberAt_25 rfl (lv_at hl 0 rfl) ?_
    refine h_rdV (As := [.int (nI i)]) (rest := []) hF (c_X1_has l G hp a w f he i (by omega)) 1 gX1_numberAt_X1_has rfl (by decide +kernel) ⟨Nat.le_of_ble_eq_true rfl, Nat.le_of_ble_eq_true rfl⟩ hK0 hV0 he.1 rfl rfl rfl hl.1 rfl (Nat.le_of_ble_eq_true rfl) (Nat.le_refl _) (Nat.le_refl _) dX1_numberAt_26 ?_
    refine h_if_eqB (tgt := 41) hx hb dX1_numberAt_29 (by decide) (fun c_29 => ?_) (fun c_29 => ?_)
    · refine lv_iinc (v := nI (i + 1)) (lv' := [(3, .int (nI (i + 1))), (2, .int (nI (k - cntB (hasR f) i))), (0, .ref a), (1, .int (nI k))]) hx hb dX1_numberAt_41 hl (k := 0) rfl (nI_add (i) 1) (by decide) rfl (fun ls hl => ?_)
      refine lv_goto (tgt := 18) hx hb dX1_numberAt_44 (by decide) ?_
      have hcs : cntB (hasR f) (i + 1) = cntB (hasR f) i := by rw [cntB_s, c_29]; rfl
      exact ih (by omega) (by rw [hcs]; exact hI) ls (by rw [hcs]; exact lv_sub hl [0, 1, 2, 3] rfl)
    · refine lv_iload_n hx hb dX1_numberAt_32 rfl (lv_at hl 1 rfl) ?_
      refine h_if_ne (a := k - cntB (hasR f) i) (tgt := 38) hx hb dX1_numberAt_33 (by decide) (by omega) (fun c_33 => ?_) (fun c_33 => ?_)
      · refine lv_iinc (v := nI (k - cntB (hasR f) i - 1)) (lv' := [(2, .int (nI (k - cntB (hasR f) i - 1))), (3, .int (nI i)), (0, .ref a), (1, .int (nI k))]) hx hb dX1_numberAt_38 hl (k := 1) rfl (nI_dec (by omega)) (by decide) rfl (fun ls hl => ?_)
        refine lv_iinc (v := nI (i + 1)) (lv' := [(3, .int (nI (i + 1))), (2, .int (nI (k - cntB (hasR f) i - 1))), (0, .ref a), (1, .int (nI k))]) hx hb dX1_numberAt_41 hl (k := 1) rfl (nI_add (i) 1) (by decide) rfl (fun ls hl => ?_)
        refine lv_goto (tgt := 18) hx hb dX1_numberAt_44 (by decide) ?_
        have hcs : cntB (hasR f) (i + 1) = cntB (hasR f) i + 1 := by rw [cntB_s, c_29]; rfl
        exact ih (by omega) (by rw [hcs]; omega) ls (by rw [hcs, show k - (cntB (hasR f) i + 1) = k - cntB (hasR f) i - 1 by omega]; exact lv_sub hl [0, 1, 2, 3] rfl)
      · refine lv_iload_n hx hb dX1_numberAt_36 rfl (lv_at hl 0 rfl) ?_
        exact h_iretR hx hb hr hlocks (by rw [nthR_of (by omega) c_29 (by omega)]) dX1_numberAt_37

set_option maxHeartbeats 4000000 in
set_option maxRecDepth 100000 in
theorem c_X1_numberAtN (l : Launch) (G : hG) (hp : HP) (a w : Nat) (f : Row) (he : slAt hp a w f) (x : Int32) (hx0 : x < 0 ∨ nI (szR f) ≤ x) : hRd l yX1_numberAt wsX1_numberAt 0 0 G hp [.ref a, .int x] (some (.int (-1))) := by
  refine Met.ofW (cc := cX1_numberAt) (maxL := 4) (ret := (some .int)) (by decide) rfl ?_
  intro p e s m args below meth c s₁ B hml hv
  obtain ⟨rfl, hV0, hK0⟩ := hv
  have hx := B.exec
  have hb := B.bytes
  have hr := B.returns
  have hts := atoms_spec (ws := wsX1_numberAt) B.pre
  have hown : s.vm.findClass RX1 = some m.cls := findClass_of_methodNamed B.named
  have hlocks := B.notSynchronized
  have hF : CallFix p m c cX1_numberAt 4 s [.ref a, .int x].toArray wsX1_numberAt RX1 := ⟨hx, hb, hml, hown, hts⟩
  have hw0 := hts (.fieldLink RX1 24 "SlipLevels$Slips" "size" "I") (by decide +kernel)
  have hi1 : ∀ w ∈ u_ws RX1 TX1 6, w ∈ wsX1_numberAt := by
    intro w h
    unfold wsX1_numberAt
    simp only [List.mem_cons, List.mem_append, h, true_or, or_true]
  have hl := lv_entry ([.ref a, .int x]) (n := 4) (Nat.le_of_ble_eq_true rfl)
  rw [lg_entry_eq]
  generalize (lg_sl ([.ref a, .int x]) ++ List.replicate (4 - (lg_sl ([.ref a, .int x])).length) Slot.unset).toArray = ls at hl ⊢
  replace hl : lv_has ls 4 [(0, .ref a), (1, .int x)] := hl
  have hz1 := szR_le f
  have hz2 := tbR_le f
  have hz3 := lsR_le f
  refine lv_iload_n hx hb dX1_numberAt_0 rfl (lv_at hl 1 rfl) ?_
  refine lv_if_lt (tgt := 12) hx hb dX1_numberAt_1 (by decide) (fun c_1 => ?_) (fun c_1 => ?_)
  · refine lv_iconst (v := (-1)) hx hb dX1_numberAt_12 (by decide) ?_
    exact h_iretR hx hb hr hlocks (by first | rfl | assumption) dX1_numberAt_13
  · refine lv_iload_n hx hb dX1_numberAt_4 rfl (lv_at hl 1 rfl) ?_
    refine lv_aload_n hx hb dX1_numberAt_5 rfl (lv_at hl 0 rfl) ?_
    refine h_get (v := .int (nI (szR f))) hx hb hts hi1 hown hK0 hV0 he.1 rfl 1 (by decide) hw0 rfl dX1_numberAt_6 ?_
    refine lv_icmp_lt (tgt := 14) hx hb dX1_numberAt_9 (by decide) (fun c_9 => absurd c_9 (by rcases hx0 with h | h; exact absurd h c_1; exact Int32.not_lt.mpr h)) (fun c_9 => ?_)
    refine lv_iconst (v := (-1)) hx hb dX1_numberAt_12 (by decide) ?_
    exact h_iretR hx hb hr hlocks (by first | rfl | assumption) dX1_numberAt_13
end
section
def emR : Row := fun _ => -2
theorem szR_em : szR emR = 0 := by decide +kernel
theorem tbR_em : tbR emR = 0 := by decide +kernel
theorem lsR_em : lsR emR = 64 := by decide +kernel
theorem grR_em : grR emR = -1 := by decide +kernel
theorem svR_em : svR emR = nI 0 := by decide +kernel
theorem slO_em (w : Nat) : slO w emR = [.ref w, .int (nI 0), .int (nI 0), .int (nI 64), .int (-1), .int (nI 0)] := by
  rw [slO, szR_em, tbR_em, lsR_em, grR_em, svR_em]
theorem slAt_ne {hp : HP} {a w b v : Nat} {f g : Row} (h : slAt hp a w f) (h2 : slAt hp b v g) : a ≠ v := fun e => by
  have h3 := h.1
  rw [e, h2.2] at h3
  cases h3
theorem cpy_row {f g : Row} (hf : ∀ j, 64 ≤ j → f j = -2) (hg : ∀ j, 64 ≤ j → g j = -2) : va_cpy g f 0 0 64 = g := by
  funext j
  by_cases h : j < 64
  · rw [pk_cpy_in (by omega) (by omega)]
    simp
  · rw [pk_cpy_out (by omega), hf j (by omega), hg j (by omega)]
theorem init_eq (hp : HP) (a w : Nat) (e1 x y z : hE) : hput (hput (hput (hput hp w x) a e1) w y) a z = hput (hput hp w y) a z := by
  funext q
  by_cases h1 : q = a
  · simp [hput, h1]
  · by_cases h2 : q = w <;> simp [hput, h1, h2]
theorem slO_gen {w : Nat} {f : Row} {k : Nat} {v x1 x2 : Int32} (hk : k < 64) (hv : v ≠ -2) (h1 : nI (szR (upd f k v)) = x1) (h2 : nI (tbR (upd f k v)) = x2) : slO w (upd f k v) = [.ref w, .int x1, .int x2, .int (if nI k < nI (lsR f) then nI k else nI (lsR f)), .int (if grR f < nI k then nI k else grR f), .int (svR f ||| (nI 1 <<< (nI (k % 8) &&& 31)))] := by
  have h3 : nI (lsR (upd f k v)) = if nI k < nI (lsR f) then nI k else nI (lsR f) := by
    have := lsR_le f
    rw [lsR_upd f hk hv]
    by_cases h : lsR f ≤ k
    · rw [if_pos h, if_neg (nI_nlt h (by omega))]
    · rw [if_neg h, if_pos (nI_lt (by omega) (by omega))]
  rw [slO, h1, h2, h3, grR_upd f hk hv, svR_upd f hk hv]
theorem sz_1 {f : Row} {k : Nat} {v : Int32} (hk : k < 64) (hv : v ≠ -2) (h : f k = -2) : nI (szR (upd f k v)) = nI (szR f) + nI 1 := by
  rw [szR_upd f hk hv, if_pos h]
  exact nI_succ _
theorem sz_2 {f : Row} {k : Nat} {v : Int32} (hk : k < 64) (hv : v ≠ -2) (h : ¬ f k = -2) : nI (szR (upd f k v)) = nI (szR f) := by
  rw [szR_upd f hk hv, if_neg h]
theorem tb_na {f : Row} {k : Nat} {v : Int32} (hk : k < 64) (h : ¬ f k = -1) (hv : ¬ v = -1) : nI (tbR (upd f k v)) = nI (tbR f) := by
  have := tbR_upd f (v := v) hk
  rw [if_neg h, if_neg hv] at this
  rw [show tbR (upd f k v) = tbR f by omega]
theorem tb_nb {f : Row} {k : Nat} {v : Int32} (hk : k < 64) (h : ¬ f k = -1) (hv : v = -1) : nI (tbR (upd f k v)) = nI (tbR f) + nI 1 := by
  have := tbR_upd f (v := v) hk
  rw [if_neg h, if_pos hv] at this
  rw [show tbR (upd f k v) = tbR f + 1 by omega]
  exact nI_succ _
theorem tb_ya {f : Row} {k : Nat} {v : Int32} (hk : k < 64) (h : f k = -1) (hv : ¬ v = -1) : nI (tbR (upd f k v)) = nI (tbR f) - nI 1 := by
  have := tbR_upd f (v := v) hk
  rw [if_pos h, if_neg hv] at this
  rw [← show tbR (upd f k v) + 1 = tbR f by omega]
  exact (nI_pred _).symm
theorem tb_yb {f : Row} {k : Nat} {v : Int32} (hk : k < 64) (h : f k = -1) (hv : v = -1) : nI (tbR (upd f k v)) = nI (tbR f) - nI 1 + nI 1 := by
  have := tbR_upd f (v := v) hk
  rw [if_pos h, if_pos hv] at this
  rw [show tbR (upd f k v) = tbR f by omega]
  simp
theorem ne_2_1 {x : Int32} (h : x = -2) : ¬ x = -1 := by rw [h]; decide
theorem ne_1_2 {x : Int32} (h : x = -1) : ¬ x = -2 := by rw [h]; decide

set_option maxHeartbeats 4000000 in
set_option maxRecDepth 100000 in
theorem c_fill (l : Launch) (G : hG) (A : Nat → Prop) (hp : HP) (w n : Nat) (f : Nat → Int32) (v : Int32) (he : hp w = some (eI n f)) (hn : n < 2 ^ 20) (hA0 : hIn A hp) : hWr l yJ7_fill_53178 wsJ7_fill_53178 0 0 0 0 G A hp [.ref w, .int v] (fun ro hp' => ro = none ∧ hp' = hput hp w (eI n (fun _ => v))) := by
  refine Met.ofW (cc := cJ7_fill_53178) (maxL := 4) (ret := none) (by decide) rfl ?_
  intro p e s m args below meth c s₁ B hml hv
  obtain ⟨rfl, hV0, hK0, hA⟩ := hv
  have hx := B.exec
  have hb := B.bytes
  have hr := B.returns
  have hts := atoms_spec (ws := wsJ7_fill_53178) B.pre
  have hown : s.vm.findClass RJ7 = some m.cls := findClass_of_methodNamed B.named
  have hlocks := B.notSynchronized
  have hF : CallFix p m c cJ7_fill_53178 4 s [.ref w, .int v].toArray wsJ7_fill_53178 RJ7 := ⟨hx, hb, hml, hown, hts⟩
  have hS : va_S A s.heap s.heap [] := va_S.rf
  have hl := lv_entry ([.ref w, .int v]) (n := 4) (Nat.le_of_ble_eq_true rfl)
  rw [lg_entry_eq]
  generalize (lg_sl ([.ref w, .int v]) ++ List.replicate (4 - (lg_sl ([.ref w, .int v])).length) Slot.unset).toArray = ls at hl ⊢
  replace hl : lv_has ls 4 [(0, .ref w), (1, .int v)] := hl
  refine lv_iconst (v := nI 0) hx hb dJ7_fill_53178_0 (by decide) ?_
  refine lv_istore_n (lv' := [(2, .int (nI 0)), (0, .ref w), (1, .int v)]) hx hb dJ7_fill_53178_1 rfl hl (by decide) rfl (fun ls hl => ?_)
  refine lv_aload_n hx hb dJ7_fill_53178_2 rfl (lv_at hl 1 rfl) ?_
  refine h_alen hx hb hK0 hV0 he rfl dJ7_fill_53178_3 ?_
  refine lv_istore_n (lv' := [(3, .int (nI n)), (2, .int (nI 0)), (0, .ref w), (1, .int v)]) hx hb dJ7_fill_53178_4 rfl hl (by decide) rfl (fun ls hl => ?_)
  replace hl : lv_has ls 4 [(2, .int (nI 0)), (3, .int (nI n)), (0, .ref w), (1, .int v)] := lv_sub hl [1, 0, 2, 3] rfl
  refine h_loopW (G := G) (A := A) (H0 := s.heap) (Wf := fun i H locs ls => W p l e (headSpec wsJ7_fill_53178 { frames := 0, cells := 0, slots := 0, locals := 0 }).room s m ([.ref w, .int v].toArray) below meth c H locs 0 0 (MQ below (hW G A (fun ro hp' => ro = none ∧ hp' = hput hp w (eI n (fun _ => v)))) ([.ref w, .int v].toArray) s 0 0 A) (F0 m 5 ls [])) n (fun i => [(2, .int (nI i)), (3, .int (nI n)), (0, .ref w), (1, .int v)]) (fun i hp' => hp' = hput hp w (eI n (fillF v f i))) (fun i hi hp' H locs hI hV0 hA0 hS ih ls hl => ?_) 0 (Nat.zero_le _) hp s.heap [] (by rw [fillF_0]; exact (hput_same he).symm) hV0 hA0 hS ls hl
  subst hI
  refine lv_iload_n hx hb dJ7_fill_53178_5 rfl (lv_at hl 0 rfl) ?_
  refine lv_iload_n hx hb dJ7_fill_53178_6 rfl (lv_at hl 1 rfl) ?_
  refine h_icmp_ge (a := i) (b := n) (tgt := 20) hx hb dJ7_fill_53178_7 (by decide) (by omega) (by omega) (fun c_7 => ?_) (fun c_7 => ?_)
  · obtain rfl : i = n := by omega
    exact W.vret hx hb hr (h_qW ⟨rfl, rfl⟩ (hV0.reI (fun j hj => by simp [fillF, hj])) hA0.re hS) hS.2.2 dJ7_fill_53178_20 hlocks
  · refine lv_aload_n hx hb dJ7_fill_53178_10 rfl (lv_at hl 2 rfl) ?_
    refine lv_iload_n hx hb dJ7_fill_53178_11 rfl (lv_at hl 0 rfl) ?_
    refine lv_iload_n hx hb dJ7_fill_53178_12 rfl (lv_at hl 3 rfl) ?_
    refine h_iast (i := i) (x := v) hx hb hK0 hV0 hA0 hS (hput_s _ _ _) (by omega) (by omega) dJ7_fill_53178_13 (fun H locs hV0 hA0 hS => ?_)
    rw [hput_hput] at hV0 hA0
    have he1 : (hput hp w (eI n (upd (fillF v f i) (i) v))) w = some (eI n (upd (fillF v f i) (i) v)) := hput_s _ _ _
    refine lv_iinc (v := nI (i + 1)) (lv' := [(2, .int (nI (i + 1))), (3, .int (nI n)), (0, .ref w), (1, .int v)]) hx hb dJ7_fill_53178_14 hl (k := 0) rfl (nI_add (i) 1) (by decide) rfl (fun ls hl => ?_)
    refine lv_goto (tgt := 5) hx hb dJ7_fill_53178_17 (by decide) ?_
    exact ih _ H locs (by omega) (by rw [fillF_s]) hV0 hA0 hS ls (lv_sub hl [0, 1, 2, 3] rfl)

set_option maxHeartbeats 4000000 in
set_option maxRecDepth 100000 in
theorem c_X1_clear (l : Launch) (G : hG) (A : Nat → Prop) (hp : HP) (a w : Nat) (f : Row) (x1 x2 x3 x4 x5 : Int32) (he : hp a = some (eO 1 [.ref w, .int x1, .int x2, .int x3, .int x4, .int x5])) (he2 : hp w = some (eI 64 f)) (hA0 : hIn A hp) : hWr l yX1_clear wsX1_clear 1 23 0 0 G A hp [.ref a] (fun ro hp' => ro = none ∧ hp' = hput (hput hp w (eI 64 emR)) a (eO 1 (slO w emR))) := by
  refine Met.ofW (cc := cX1_clear) (maxL := 1) (ret := none) (by decide) rfl ?_
  intro p e s m args below meth c s₁ B hml hv
  obtain ⟨rfl, hV0, hK0, hA⟩ := hv
  have hx := B.exec
  have hb := B.bytes
  have hr := B.returns
  have hts := atoms_spec (ws := wsX1_clear) B.pre
  have hown : s.vm.findClass RX1 = some m.cls := findClass_of_methodNamed B.named
  have hlocks := B.notSynchronized
  have hF : CallFix p m c cX1_clear 1 s [.ref a].toArray wsX1_clear RX1 := ⟨hx, hb, hml, hown, hts⟩
  have hw0 := hts (.fieldLink RX1 9 "SlipLevels$Slips" "words" "[I") (by decide +kernel)
  have hw1 := hts (.fieldLink RX1 24 "SlipLevels$Slips" "size" "I") (by decide +kernel)
  have hw2 := hts (.fieldLink RX1 28 "SlipLevels$Slips" "tombs" "I") (by decide +kernel)
  have hw3 := hts (.fieldLink RX1 31 "SlipLevels$Slips" "least" "I") (by decide +kernel)
  have hw4 := hts (.fieldLink RX1 34 "SlipLevels$Slips" "greatest" "I") (by decide +kernel)
  have hw5 := hts (.fieldLink RX1 37 "SlipLevels$Slips" "sieve" "I") (by decide +kernel)
  have hi1 : ∀ w ∈ u_ws RX1 TX1 6, w ∈ wsX1_clear := by
    intro w h
    unfold wsX1_clear
    simp only [List.mem_cons, List.mem_append, h, true_or, or_true]
  have hS : va_S A s.heap s.heap [] := va_S.rf
  have hl := lv_entry ([.ref a]) (n := 1) (Nat.le_of_ble_eq_true rfl)
  rw [lg_entry_eq]
  generalize (lg_sl ([.ref a]) ++ List.replicate (1 - (lg_sl ([.ref a])).length) Slot.unset).toArray = ls at hl ⊢
  replace hl : lv_has ls 1 [(0, .ref a)] := hl
  have hne : a ≠ w := fun h => by rw [h, he2] at he; cases he
  refine lv_aload_n hx hb dX1_clear_0 rfl (lv_at hl 0 rfl) ?_
  refine h_get (v := .ref w) hx hb hts hi1 hown hK0 hV0 he rfl 0 (by decide) hw0 rfl dX1_clear_1 ?_
  refine lv_bipush (v := (-2)) hx hb dX1_clear_4 (by decide) ?_
  refine h_wrS (As := [.ref w, .int (-2)]) (rest := []) hF (c_fill l G A hp w 64 f (-2) he2 (by decide) hA0) 2 gX1_clear_J7_fill_53178 rfl (by decide +kernel) ⟨Nat.le_of_ble_eq_true rfl, Nat.le_of_ble_eq_true rfl⟩ hK0 hV0 hA hS rfl hl.1 rfl (Nat.le_of_ble_eq_true rfl) ⟨Nat.le_of_ble_eq_true rfl, Nat.le_of_ble_eq_true rfl⟩ dX1_clear_6 (fun ro hp1 H locs hP1 hV0 hA0 hS => ?_)
  obtain ⟨rfl, rfl⟩ := hP1
  have he1 : (hput hp w (eI 64 (fun _ => (-2)))) w = some (eI 64 (fun _ => (-2))) := hput_s _ _ _
  have he2 : (hput hp w (eI 64 (fun _ => (-2)))) a = some (eO 1 [.ref w, .int x1, .int x2, .int x3, .int x4, .int x5]) := (hput_n _ _ hne).trans he
  refine lv_aload_n hx hb dX1_clear_9 rfl (lv_at hl 0 rfl) ?_
  refine lv_iconst (v := nI 0) hx hb dX1_clear_10 (by decide) ?_
  refine h_put (v := .int (nI 0)) hx hb hts hi1 tyX1 tyX1_ok nmX1 hown hK0 hV0 hA0 hS he2 rfl 1 (by decide) hw1 rfl (by rfl) (by rfl) (Nat.le_of_ble_eq_true rfl) dX1_clear_11 (fun H locs hV0 hA0 hS => ?_)
  have he3 : (hput (hput hp w (eI 64 (fun _ => (-2)))) a (eO 1 [.ref w, .int (nI 0), .int x2, .int x3, .int x4, .int x5])) a = some (eO 1 [.ref w, .int (nI 0), .int x2, .int x3, .int x4, .int x5]) := hput_s _ _ _
  have he4 : (hput (hput hp w (eI 64 (fun _ => (-2)))) a (eO 1 [.ref w, .int (nI 0), .int x2, .int x3, .int x4, .int x5])) w = some (eI 64 (fun _ => (-2))) := (hput_n _ _ (Ne.symm hne)).trans ((by first | exact he1 | exact (hput_n _ _ (Ne.symm hne)).symm.trans he1))
  refine lv_aload_n hx hb dX1_clear_14 rfl (lv_at hl 0 rfl) ?_
  refine lv_iconst (v := nI 0) hx hb dX1_clear_15 (by decide) ?_
  refine h_put (v := .int (nI 0)) hx hb hts hi1 tyX1 tyX1_ok nmX1 hown hK0 hV0 hA0 hS he3 rfl 2 (by decide) hw2 rfl (by rfl) (by rfl) (Nat.le_of_ble_eq_true rfl) dX1_clear_16 (fun H locs hV0 hA0 hS => ?_)
  rw [hput_hput] at hV0 hA0
  have he5 : (hput (hput hp w (eI 64 (fun _ => (-2)))) a (eO 1 [.ref w, .int (nI 0), .int (nI 0), .int x3, .int x4, .int x5])) a = some (eO 1 [.ref w, .int (nI 0), .int (nI 0), .int x3, .int x4, .int x5]) := hput_s _ _ _
  have he6 : (hput (hput hp w (eI 64 (fun _ => (-2)))) a (eO 1 [.ref w, .int (nI 0), .int (nI 0), .int x3, .int x4, .int x5])) w = some (eI 64 (fun _ => (-2))) := (hput_n _ _ (Ne.symm hne)).trans ((by first | exact he4 | exact (hput_n _ _ (Ne.symm hne)).symm.trans he4))
  refine lv_aload_n hx hb dX1_clear_19 rfl (lv_at hl 0 rfl) ?_
  refine lv_bipush (v := nI 64) hx hb dX1_clear_20 (by decide) ?_
  refine h_put (v := .int (nI 64)) hx hb hts hi1 tyX1 tyX1_ok nmX1 hown hK0 hV0 hA0 hS he5 rfl 3 (by decide) hw3 rfl (by rfl) (by rfl) (Nat.le_of_ble_eq_true rfl) dX1_clear_22 (fun H locs hV0 hA0 hS => ?_)
  rw [hput_hput] at hV0 hA0
  have he7 : (hput (hput hp w (eI 64 (fun _ => (-2)))) a (eO 1 [.ref w, .int (nI 0), .int (nI 0), .int (nI 64), .int x4, .int x5])) a = some (eO 1 [.ref w, .int (nI 0), .int (nI 0), .int (nI 64), .int x4, .int x5]) := hput_s _ _ _
  have he8 : (hput (hput hp w (eI 64 (fun _ => (-2)))) a (eO 1 [.ref w, .int (nI 0), .int (nI 0), .int (nI 64), .int x4, .int x5])) w = some (eI 64 (fun _ => (-2))) := (hput_n _ _ (Ne.symm hne)).trans ((by first | exact he6 | exact (hput_n _ _ (Ne.symm hne)).symm.trans he6))
  refine lv_aload_n hx hb dX1_clear_25 rfl (lv_at hl 0 rfl) ?_
  refine lv_iconst (v := (-1)) hx hb dX1_clear_26 (by decide) ?_
  refine h_put (v := .int (-1)) hx hb hts hi1 tyX1 tyX1_ok nmX1 hown hK0 hV0 hA0 hS he7 rfl 4 (by decide) hw4 rfl (by rfl) (by rfl) (Nat.le_of_ble_eq_true rfl) dX1_clear_27 (fun H locs hV0 hA0 hS => ?_)
  rw [hput_hput] at hV0 hA0
  have he9 : (hput (hput hp w (eI 64 (fun _ => (-2)))) a (eO 1 [.ref w, .int (nI 0), .int (nI 0), .int (nI 64), .int (-1), .int x5])) a = some (eO 1 [.ref w, .int (nI 0), .int (nI 0), .int (nI 64), .int (-1), .int x5]) := hput_s _ _ _
  have he10 : (hput (hput hp w (eI 64 (fun _ => (-2)))) a (eO 1 [.ref w, .int (nI 0), .int (nI 0), .int (nI 64), .int (-1), .int x5])) w = some (eI 64 (fun _ => (-2))) := (hput_n _ _ (Ne.symm hne)).trans ((by first | exact he8 | exact (hput_n _ _ (Ne.symm hne)).symm.trans he8))
  refine lv_aload_n hx hb dX1_clear_30 rfl (lv_at hl 0 rfl) ?_
  refine lv_iconst (v := nI 0) hx hb dX1_clear_31 (by decide) ?_
  refine h_put (v := .int (nI 0)) hx hb hts hi1 tyX1 tyX1_ok nmX1 hown hK0 hV0 hA0 hS he9 rfl 5 (by decide) hw5 rfl (by rfl) (by rfl) (Nat.le_of_ble_eq_true rfl) dX1_clear_32 (fun H locs hV0 hA0 hS => ?_)
  rw [hput_hput] at hV0 hA0
  have he11 : (hput (hput hp w (eI 64 (fun _ => (-2)))) a (eO 1 [.ref w, .int (nI 0), .int (nI 0), .int (nI 64), .int (-1), .int (nI 0)])) a = some (eO 1 [.ref w, .int (nI 0), .int (nI 0), .int (nI 64), .int (-1), .int (nI 0)]) := hput_s _ _ _
  have he12 : (hput (hput hp w (eI 64 (fun _ => (-2)))) a (eO 1 [.ref w, .int (nI 0), .int (nI 0), .int (nI 64), .int (-1), .int (nI 0)])) w = some (eI 64 (fun _ => (-2))) := (hput_n _ _ (Ne.symm hne)).trans ((by first | exact he10 | exact (hput_n _ _ (Ne.symm hne)).symm.trans he10))
  exact W.vret hx hb hr (h_qW ⟨rfl, by rw [slO_em]; rfl⟩ hV0 hA0 hS) hS.2.2 dX1_clear_35 hlocks

set_option maxHeartbeats 4000000 in
set_option maxRecDepth 100000 in
theorem c_X1_copy (l : Launch) (G : hG) (A : Nat → Prop) (hp : HP) (a w b v : Nat) (f g : Row) (he : slAt hp a w f) (hg : slAt hp b v g) (hab : a ≠ b) (hwv : w ≠ v) (hf : ∀ j, 64 ≤ j → f j = -2) (hgo : ∀ j, 64 ≤ j → g j = -2) (hA0 : hIn A hp) : hWr l yX1_copy wsX1_copy 1 21 0 0 G A hp [.ref a, .ref b] (fun ro hp' => ro = none ∧ hp' = hput (hput hp w (eI 64 g)) a (eO 1 (slO w g))) := by
  refine Met.ofW (cc := cX1_copy) (maxL := 2) (ret := none) (by decide) rfl ?_
  intro p e s m args below meth c s₁ B hml hv
  obtain ⟨rfl, hV0, hK0, hA⟩ := hv
  have hx := B.exec
  have hb := B.bytes
  have hr := B.returns
  have hts := atoms_spec (ws := wsX1_copy) B.pre
  have hown : s.vm.findClass RX1 = some m.cls := findClass_of_methodNamed B.named
  have hlocks := B.notSynchronized
  have hF : CallFix p m c cX1_copy 2 s [.ref a, .ref b].toArray wsX1_copy RX1 := ⟨hx, hb, hml, hown, hts⟩
  have hw0 := hts (.fieldLink RX1 9 "SlipLevels$Slips" "words" "[I") (by decide +kernel)
  have hw1 := hts (.methodLink RX1 40 arraycopyName) (by decide +kernel)
  have hw2 := hts (.native arraycopyName) (by decide +kernel)
  have hw3 := hts (.static arraycopyName) (by decide +kernel)
  have hw4 := hts (.initialized "java/lang/System") (by decide +kernel)
  have hw5 := hts (.fieldLink RX1 24 "SlipLevels$Slips" "size" "I") (by decide +kernel)
  have hw6 := hts (.fieldLink RX1 28 "SlipLevels$Slips" "tombs" "I") (by decide +kernel)
  have hw7 := hts (.fieldLink RX1 31 "SlipLevels$Slips" "least" "I") (by decide +kernel)
  have hw8 := hts (.fieldLink RX1 34 "SlipLevels$Slips" "greatest" "I") (by decide +kernel)
  have hw9 := hts (.fieldLink RX1 37 "SlipLevels$Slips" "sieve" "I") (by decide +kernel)
  have hi1 : ∀ w ∈ u_ws RX1 TX1 6, w ∈ wsX1_copy := by
    intro w h
    unfold wsX1_copy
    simp only [List.mem_cons, List.mem_append, h, true_or, or_true]
  have hS : va_S A s.heap s.heap [] := va_S.rf
  have hl := lv_entry ([.ref a, .ref b]) (n := 2) (Nat.le_of_ble_eq_true rfl)
  rw [lg_entry_eq]
  generalize (lg_sl ([.ref a, .ref b]) ++ List.replicate (2 - (lg_sl ([.ref a, .ref b])).length) Slot.unset).toArray = ls at hl ⊢
  replace hl : lv_has ls 2 [(0, .ref a), (1, .ref b)] := hl
  have ha1 := slAt_ne he he
  have ha2 := slAt_ne he hg
  have ha3 := slAt_ne hg he
  have ha4 := slAt_ne hg hg
  refine lv_aload_n hx hb dX1_copy_0 rfl (lv_at hl 1 rfl) ?_
  refine lv_ifnonnull (tgt := 5) hx hb dX1_copy_1 (by decide) ?_
  refine lv_aload_n hx hb dX1_copy_5 rfl (lv_at hl 1 rfl) ?_
  refine h_get (v := .ref v) hx hb hts hi1 hown hK0 hV0 hg.1 rfl 0 (by decide) hw0 rfl dX1_copy_6 ?_
  refine lv_iconst (v := nI 0) hx hb dX1_copy_9 (by decide) ?_
  refine lv_aload_n hx hb dX1_copy_10 rfl (lv_at hl 0 rfl) ?_
  refine h_get (v := .ref w) hx hb hts hi1 hown hK0 hV0 he.1 rfl 0 (by decide) hw0 rfl dX1_copy_11 ?_
  refine lv_iconst (v := nI 0) hx hb dX1_copy_14 (by decide) ?_
  refine lv_bipush (v := nI 64) hx hb dX1_copy_15 (by decide) ?_
  refine h_copyi (sp := 0) (dp := 0) (n := 64) hx hb (hml.trans hl.1.symm) hown hw1 hw2 hw3 hw4 hK0 hV0 hA0 hS hg.2 he.2 (by omega) (by omega) (by omega) (by omega) (Nat.le_of_ble_eq_true rfl) (Nat.le_of_ble_eq_true rfl) dX1_copy_17 (fun H locs hV0 hA0 hS => ?_)
  have he1 : (hput hp w (eI 64 (va_cpy g f 0 0 64))) w = some (eI 64 (va_cpy g f 0 0 64)) := hput_s _ _ _
  have he2 : (hput hp w (eI 64 (va_cpy g f 0 0 64))) a = some (eO 1 [.ref w, .int (nI (szR f)), .int (nI (tbR f)), .int (nI (lsR f)), .int (grR f), .int (svR f)]) := (hput_n _ _ ha1).trans ((by first | exact he.1 | exact (hput_n _ _ ha1).symm.trans he.1))
  have he3 : (hput hp w (eI 64 (va_cpy g f 0 0 64))) b = some (eO 1 [.ref v, .int (nI (szR g)), .int (nI (tbR g)), .int (nI (lsR g)), .int (grR g), .int (svR g)]) := (hput_n _ _ ha3).trans ((by first | exact hg.1 | exact (hput_n _ _ ha3).symm.trans hg.1))
  have he4 : (hput hp w (eI 64 (va_cpy g f 0 0 64))) v = some (eI 64 g) := (hput_n _ _ (Ne.symm hwv)).trans ((by first | exact hg.2 | exact (hput_n _ _ (Ne.symm hwv)).symm.trans hg.2))
  refine lv_aload_n hx hb dX1_copy_20 rfl (lv_at hl 0 rfl) ?_
  refine lv_aload_n hx hb dX1_copy_21 rfl (lv_at hl 1 rfl) ?_
  refine h_get (v := .int (nI (szR g))) hx hb hts hi1 hown hK0 hV0 he3 rfl 1 (by decide) hw5 rfl dX1_copy_22 ?_
  refine h_put (v := .int (nI (szR g))) hx hb hts hi1 tyX1 tyX1_ok nmX1 hown hK0 hV0 hA0 hS he2 rfl 1 (by decide) hw5 rfl (by rfl) (by rfl) (Nat.le_of_ble_eq_true rfl) dX1_copy_25 (fun H locs hV0 hA0 hS => ?_)
  have he5 : (hput (hput hp w (eI 64 (va_cpy g f 0 0 64))) a (eO 1 [.ref w, .int (nI (szR g)), .int (nI (tbR f)), .int (nI (lsR f)), .int (grR f), .int (svR f)])) a = some (eO 1 [.ref w, .int (nI (szR g)), .int (nI (tbR f)), .int (nI (lsR f)), .int (grR f), .int (svR f)]) := hput_s _ _ _
  have he6 : (hput (hput hp w (eI 64 (va_cpy g f 0 0 64))) a (eO 1 [.ref w, .int (nI (szR g)), .int (nI (tbR f)), .int (nI (lsR f)), .int (grR f), .int (svR f)])) w = some (eI 64 (va_cpy g f 0 0 64)) := (hput_n _ _ (Ne.symm ha1)).trans ((by first | exact he1 | exact (hput_n _ _ (Ne.symm ha1)).symm.trans he1))
  have he7 : (hput (hput hp w (eI 64 (va_cpy g f 0 0 64))) a (eO 1 [.ref w, .int (nI (szR g)), .int (nI (tbR f)), .int (nI (lsR f)), .int (grR f), .int (svR f)])) b = some (eO 1 [.ref v, .int (nI (szR g)), .int (nI (tbR g)), .int (nI (lsR g)), .int (grR g), .int (svR g)]) := (hput_n _ _ (Ne.symm hab)).trans ((by first | exact he3 | exact (hput_n _ _ (Ne.symm hab)).symm.trans he3))
  have he8 : (hput (hput hp w (eI 64 (va_cpy g f 0 0 64))) a (eO 1 [.ref w, .int (nI (szR g)), .int (nI (tbR f)), .int (nI (lsR f)), .int (grR f), .int (svR f)])) v = some (eI 64 g) := (hput_n _ _ (Ne.symm ha2)).trans ((by first | exact he4 | exact (hput_n _ _ (Ne.symm ha2)).symm.trans he4))
  refine lv_aload_n hx hb dX1_copy_28 rfl (lv_at hl 0 rfl) ?_
  refine lv_aload_n hx hb dX1_copy_29 rfl (lv_at hl 1 rfl) ?_
  refine h_get (v := .int (nI (tbR g))) hx hb hts hi1 hown hK0 hV0 he7 rfl 2 (by decide) hw6 rfl dX1_copy_30 ?_
  refine h_put (v := .int (nI (tbR g))) hx hb hts hi1 tyX1 tyX1_ok nmX1 hown hK0 hV0 hA0 hS he5 rfl 2 (by decide) hw6 rfl (by rfl) (by rfl) (Nat.le_of_ble_eq_true rfl) dX1_copy_33 (fun H locs hV0 hA0 hS => ?_)
  rw [hput_hput] at hV0 hA0
  have he9 : (hput (hput hp w (eI 64 (va_cpy g f 0 0 64))) a (eO 1 [.ref w, .int (nI (szR g)), .int (nI (tbR g)), .int (nI (lsR f)), .int (grR f), .int (svR f)])) a = some (eO 1 [.ref w, .int (nI (szR g)), .int (nI (tbR g)), .int (nI (lsR f)), .int (grR f), .int (svR f)]) := hput_s _ _ _
  have he10 : (hput (hput hp w (eI 64 (va_cpy g f 0 0 64))) a (eO 1 [.ref w, .int (nI (szR g)), .int (nI (tbR g)), .int (nI (lsR f)), .int (grR f), .int (svR f)])) w = some (eI 64 (va_cpy g f 0 0 64)) := (hput_n _ _ (Ne.symm ha1)).trans ((by first | exact he6 | exact (hput_n _ _ (Ne.symm ha1)).symm.trans he6))
  have he11 : (hput (hput hp w (eI 64 (va_cpy g f 0 0 64))) a (eO 1 [.ref w, .int (nI (szR g)), .int (nI (tbR g)), .int (nI (lsR f)), .int (grR f), .int (svR f)])) b = some (eO 1 [.ref v, .int (nI (szR g)), .int (nI (tbR g)), .int (nI (lsR g)), .int (grR g), .int (svR g)]) := (hput_n _ _ (Ne.symm hab)).trans ((by first | exact he7 | exact (hput_n _ _ (Ne.symm hab)).symm.trans he7))
  have he12 : (hput (hput hp w (eI 64 (va_cpy g f 0 0 64))) a (eO 1 [.ref w, .int (nI (szR g)), .int (nI (tbR g)), .int (nI (lsR f)), .int (grR f), .int (svR f)])) v = some (eI 64 g) := (hput_n _ _ (Ne.symm ha2)).trans ((by first | exact he8 | exact (hput_n _ _ (Ne.symm ha2)).symm.trans he8))
  refine lv_aload_n hx hb dX1_copy_36 rfl (lv_at hl 0 rfl) ?_
  refine lv_aload_n hx hb dX1_copy_37 rfl (lv_at hl 1 rfl) ?_
  refine h_get (v := .int (nI (lsR g))) hx hb hts hi1 hown hK0 hV0 he11 rfl 3 (by decide) hw7 rfl dX1_copy_38 ?_
  refine h_put (v := .int (nI (lsR g))) hx hb hts hi1 tyX1 tyX1_ok nmX1 hown hK0 hV0 hA0 hS he9 rfl 3 (by decide) hw7 rfl (by rfl) (by rfl) (Nat.le_of_ble_eq_true rfl) dX1_copy_41 (fun H locs hV0 hA0 hS => ?_)
  rw [hput_hput] at hV0 hA0
  have he13 : (hput (hput hp w (eI 64 (va_cpy g f 0 0 64))) a (eO 1 [.ref w, .int (nI (szR g)), .int (nI (tbR g)), .int (nI (lsR g)), .int (grR f), .int (svR f)])) a = some (eO 1 [.ref w, .int (nI (szR g)), .int (nI (tbR g)), .int (nI (lsR g)), .int (grR f), .int (svR f)]) := hput_s _ _ _
  have he14 : (hput (hput hp w (eI 64 (va_cpy g f 0 0 64))) a (eO 1 [.ref w, .int (nI (szR g)), .int (nI (tbR g)), .int (nI (lsR g)), .int (grR f), .int (svR f)])) w = some (eI 64 (va_cpy g f 0 0 64)) := (hput_n _ _ (Ne.symm ha1)).trans ((by first | exact he10 | exact (hput_n _ _ (Ne.symm ha1)).symm.trans he10))
  have he15 : (hput (hput hp w (eI 64 (va_cpy g f 0 0 64))) a (eO 1 [.ref w, .int (nI (szR g)), .int (nI (tbR g)), .int (nI (lsR g)), .int (grR f), .int (svR f)])) b = some (eO 1 [.ref v, .int (nI (szR g)), .int (nI (tbR g)), .int (nI (lsR g)), .int (grR g), .int (svR g)]) := (hput_n _ _ (Ne.symm hab)).trans ((by first | exact he11 | exact (hput_n _ _ (Ne.symm hab)).symm.trans he11))
  have he16 : (hput (hput hp w (eI 64 (va_cpy g f 0 0 64))) a (eO 1 [.ref w, .int (nI (szR g)), .int (nI (tbR g)), .int (nI (lsR g)), .int (grR f), .int (svR f)])) v = some (eI 64 g) := (hput_n _ _ (Ne.symm ha2)).trans ((by first | exact he12 | exact (hput_n _ _ (Ne.symm ha2)).symm.trans he12))
  refine lv_aload_n hx hb dX1_copy_44 rfl (lv_at hl 0 rfl) ?_
  refine lv_aload_n hx hb dX1_copy_45 rfl (lv_at hl 1 rfl) ?_
  refine h_get (v := .int (grR g)) hx hb hts hi1 hown hK0 hV0 he15 rfl 4 (by decide) hw8 rfl dX1_copy_46 ?_
  refine h_put (v := .int (grR g)) hx hb hts hi1 tyX1 tyX1_ok nmX1 hown hK0 hV0 hA0 hS he13 rfl 4 (by decide) hw8 rfl (by rfl) (by rfl) (Nat.le_of_ble_eq_true rfl) dX1_copy_49 (fun H locs hV0 hA0 hS => ?_)
  rw [hput_hput] at hV0 hA0
  have he17 : (hput (hput hp w (eI 64 (va_cpy g f 0 0 64))) a (eO 1 [.ref w, .int (nI (szR g)), .int (nI (tbR g)), .int (nI (lsR g)), .int (grR g), .int (svR f)])) a = some (eO 1 [.ref w, .int (nI (szR g)), .int (nI (tbR g)), .int (nI (lsR g)), .int (grR g), .int (svR f)]) := hput_s _ _ _
  have he18 : (hput (hput hp w (eI 64 (va_cpy g f 0 0 64))) a (eO 1 [.ref w, .int (nI (szR g)), .int (nI (tbR g)), .int (nI (lsR g)), .int (grR g), .int (svR f)])) w = some (eI 64 (va_cpy g f 0 0 64)) := (hput_n _ _ (Ne.symm ha1)).trans ((by first | exact he14 | exact (hput_n _ _ (Ne.symm ha1)).symm.trans he14))
  have he19 : (hput (hput hp w (eI 64 (va_cpy g f 0 0 64))) a (eO 1 [.ref w, .int (nI (szR g)), .int (nI (tbR g)), .int (nI (lsR g)), .int (grR g), .int (svR f)])) b = some (eO 1 [.ref v, .int (nI (szR g)), .int (nI (tbR g)), .int (nI (lsR g)), .int (grR g), .int (svR g)]) := (hput_n _ _ (Ne.symm hab)).trans ((by first | exact he15 | exact (hput_n _ _ (Ne.symm hab)).symm.trans he15))
  have he20 : (hput (hput hp w (eI 64 (va_cpy g f 0 0 64))) a (eO 1 [.ref w, .int (nI (szR g)), .int (nI (tbR g)), .int (nI (lsR g)), .int (grR g), .int (svR f)])) v = some (eI 64 g) := (hput_n _ _ (Ne.symm ha2)).trans ((by first | exact he16 | exact (hput_n _ _ (Ne.symm ha2)).symm.trans he16))
  refine lv_aload_n hx hb dX1_copy_52 rfl (lv_at hl 0 rfl) ?_
  refine lv_aload_n hx hb dX1_copy_53 rfl (lv_at hl 1 rfl) ?_
  refine h_get (v := .int (svR g)) hx hb hts hi1 hown hK0 hV0 he19 rfl 5 (by decide) hw9 rfl dX1_copy_54 ?_
  refine h_put (v := .int (svR g)) hx hb hts hi1 tyX1 tyX1_ok nmX1 hown hK0 hV0 hA0 hS he17 rfl 5 (by decide) hw9 rfl (by rfl) (by rfl) (Nat.le_of_ble_eq_true rfl) dX1_copy_57 (fun H locs hV0 hA0 hS => ?_)
  rw [hput_hput] at hV0 hA0
  have he21 : (hput (hput hp w (eI 64 (va_cpy g f 0 0 64))) a (eO 1 [.ref w, .int (nI (szR g)), .int (nI (tbR g)), .int (nI (lsR g)), .int (grR g), .int (svR g)])) a = some (eO 1 [.ref w, .int (nI (szR g)), .int (nI (tbR g)), .int (nI (lsR g)), .int (grR g), .int (svR g)]) := hput_s _ _ _
  have he22 : (hput (hput hp w (eI 64 (va_cpy g f 0 0 64))) a (eO 1 [.ref w, .int (nI (szR g)), .int (nI (tbR g)), .int (nI (lsR g)), .int (grR g), .int (svR g)])) w = some (eI 64 (va_cpy g f 0 0 64)) := (hput_n _ _ (Ne.symm ha1)).trans ((by first | exact he18 | exact (hput_n _ _ (Ne.symm ha1)).symm.trans he18))
  have he23 : (hput (hput hp w (eI 64 (va_cpy g f 0 0 64))) a (eO 1 [.ref w, .int (nI (szR g)), .int (nI (tbR g)), .int (nI (lsR g)), .int (grR g), .int (svR g)])) b = some (eO 1 [.ref v, .int (nI (szR g)), .int (nI (tbR g)), .int (nI (lsR g)), .int (grR g), .int (svR g)]) := (hput_n _ _ (Ne.symm hab)).trans ((by first | exact he19 | exact (hput_n _ _ (Ne.symm hab)).symm.trans he19))
  have he24 : (hput (hput hp w (eI 64 (va_cpy g f 0 0 64))) a (eO 1 [.ref w, .int (nI (szR g)), .int (nI (tbR g)), .int (nI (lsR g)), .int (grR g), .int (svR g)])) v = some (eI 64 g) := (hput_n _ _ (Ne.symm ha2)).trans ((by first | exact he20 | exact (hput_n _ _ (Ne.symm ha2)).symm.trans he20))
  exact W.vret hx hb hr (h_qW ⟨rfl, by rw [cpy_row hf hgo]; rfl⟩ hV0 hA0 hS) hS.2.2 dX1_copy_60 hlocks

set_option maxHeartbeats 4000000 in
set_option maxRecDepth 100000 in
theorem c_X1_put (l : Launch) (G : hG) (A : Nat → Prop) (hp : HP) (a w : Nat) (f : Row) (he : slAt hp a w f) (k : Nat) (v : Int32) (hk : k < 64) (hv : v ≠ -2) (hA0 : hIn A hp) : hWr l yX1_put wsX1_put 1 21 0 0 G A hp [.ref a, .int (nI k), .int v] (fun ro hp' => ro = none ∧ hp' = hput (hput hp w (eI 64 (upd f k v))) a (eO 1 (slO w (upd f k v)))) := by
  refine Met.ofW (cc := cX1_put) (maxL := 4) (ret := none) (by decide) rfl ?_
  intro p e s m args below meth c s₁ B hml hv
  obtain ⟨rfl, hV0, hK0, hA⟩ := hv
  have hx := B.exec
  have hb := B.bytes
  have hr := B.returns
  have hts := atoms_spec (ws := wsX1_put) B.pre
  have hown : s.vm.findClass RX1 = some m.cls := findClass_of_methodNamed B.named
  have hlocks := B.notSynchronized
  have hF : CallFix p m c cX1_put 4 s [.ref a, .int (nI k), .int v].toArray wsX1_put RX1 := ⟨hx, hb, hml, hown, hts⟩
  have hw0 := hts (.fieldLink RX1 9 "SlipLevels$Slips" "words" "[I") (by decide +kernel)
  have hw1 := hts (.fieldLink RX1 31 "SlipLevels$Slips" "least" "I") (by decide +kernel)
  have hw2 := hts (.methodLink RX1 46 Lib.Math.min.name) (by decide +kernel)
  have hw3 := hts (.static Lib.Math.min.name) (by decide +kernel)
  have hw4 := hts (.initialized "java/lang/Math") (by decide +kernel)
  have hw5 := hts (.code Lib.Math.min.name Lib.Math.min.code 2 (some .int)) (by decide +kernel)
  have hw6 := hts (.fieldLink RX1 34 "SlipLevels$Slips" "greatest" "I") (by decide +kernel)
  have hw7 := hts (.methodLink RX1 52 Lib.Math.max.name) (by decide +kernel)
  have hw8 := hts (.static Lib.Math.max.name) (by decide +kernel)
  have hw9 := hts (.code Lib.Math.max.name Lib.Math.max.code 2 (some .int)) (by decide +kernel)
  have hw10 := hts (.fieldLink RX1 37 "SlipLevels$Slips" "sieve" "I") (by decide +kernel)
  have hw11 := hts (.fieldLink RX1 28 "SlipLevels$Slips" "tombs" "I") (by decide +kernel)
  have hw12 := hts (.fieldLink RX1 24 "SlipLevels$Slips" "size" "I") (by decide +kernel)
  have hi1 : ∀ w ∈ u_ws RX1 TX1 6, w ∈ wsX1_put := by
    intro w h
    unfold wsX1_put
    simp only [List.mem_cons, List.mem_append, h, true_or, or_true]
  have hS : va_S A s.heap s.heap [] := va_S.rf
  have hl := lv_entry ([.ref a, .int (nI k), .int v]) (n := 4) (Nat.le_of_ble_eq_true rfl)
  rw [lg_entry_eq]
  generalize (lg_sl ([.ref a, .int (nI k), .int v]) ++ List.replicate (4 - (lg_sl ([.ref a, .int (nI k), .int v])).length) Slot.unset).toArray = ls at hl ⊢
  replace hl : lv_has ls 4 [(0, .ref a), (1, .int (nI k)), (2, .int v)] := hl
  have hne := slAt_ne he he
  have hz1 := szR_le f
  have hz2 := tbR_le f
  have hz3 := lsR_le f
  refine lv_iload_n hx hb dX1_put_0 rfl (lv_at hl 1 rfl) ?_
  refine h_if_lt (a := k) (tgt := 10) hx hb dX1_put_1 (by decide) (by omega) ?_
  refine lv_iload_n hx hb dX1_put_4 rfl (lv_at hl 1 rfl) ?_
  refine lv_bipush (v := nI 64) hx hb dX1_put_5 (by decide) ?_
  refine h_icmp_lt (a := k) (b := 64) (tgt := 11) hx hb dX1_put_7 (by decide) (by omega) (by omega) (fun c_7 => ?_) (fun c_7 => absurd hk c_7)
  refine lv_aload_n hx hb dX1_put_11 rfl (lv_at hl 0 rfl) ?_
  refine h_get (v := .ref w) hx hb hts hi1 hown hK0 hV0 he.1 rfl 0 (by decide) hw0 rfl dX1_put_12 ?_
  refine lv_iload_n hx hb dX1_put_15 rfl (lv_at hl 1 rfl) ?_
  refine h_iald (i := k) hx hb hK0 hV0 he.2 (by omega) (by omega) dX1_put_16 ?_
  refine lv_istore_n (lv' := [(3, .int (f k)), (0, .ref a), (1, .int (nI k)), (2, .int v)]) hx hb dX1_put_17 rfl hl (by decide) rfl (fun ls hl => ?_)
  refine lv_iload_n hx hb dX1_put_18 rfl (lv_at hl 0 rfl) ?_
  refine lv_bipush (v := (-2)) hx hb dX1_put_19 (by decide) ?_
  refine lv_icmp_ne (tgt := 34) hx hb dX1_put_21 (by decide) (fun c_21 => ?_) (fun c_21 => ?_)
  · refine lv_iload_n hx hb dX1_put_34 rfl (lv_at hl 0 rfl) ?_
    refine lv_iconst (v := (-1)) hx hb dX1_put_35 (by decide) ?_
    refine lv_icmp_ne (tgt := 49) hx hb dX1_put_36 (by decide) (fun c_36 => ?_) (fun c_36 => ?_)
    · refine lv_iload_n hx hb dX1_put_49 rfl (lv_at hl 3 rfl) ?_
      refine lv_iconst (v := (-1)) hx hb dX1_put_50 (by decide) ?_
      refine lv_icmp_ne (tgt := 64) hx hb dX1_put_51 (by decide) (fun c_51 => ?_) (fun c_51 => ?_)
      · refine lv_aload_n hx hb dX1_put_64 rfl (lv_at hl 1 rfl) ?_
        refine h_get (v := .ref w) hx hb hts hi1 hown hK0 hV0 he.1 rfl 0 (by decide) hw0 rfl dX1_put_65 ?_
        refine lv_iload_n hx hb dX1_put_68 rfl (lv_at hl 2 rfl) ?_
        refine lv_iload_n hx hb dX1_put_69 rfl (lv_at hl 3 rfl) ?_
        refine h_iast (i := k) (x := v) hx hb hK0 hV0 hA0 hS he.2 (by omega) (by omega) dX1_put_70 (fun H locs hV0 hA0 hS => ?_)
        have he1 : (hput hp w (eI 64 (upd f (k) v))) w = some (eI 64 (upd f (k) v)) := hput_s _ _ _
        have he2 : (hput hp w (eI 64 (upd f (k) v))) a = some (eO 1 [.ref w, .int (nI (szR f)), .int (nI (tbR f)), .int (nI (lsR f)), .int (grR f), .int (svR f)]) := (hput_n _ _ hne).trans ((by first | exact he.1 | exact (hput_n _ _ hne).symm.trans he.1))
        refine lv_aload_n hx hb dX1_put_71 rfl (lv_at hl 1 rfl) ?_
        refine lv_aload_n hx hb dX1_put_72 rfl (lv_at hl 1 rfl) ?_
        refine h_get (v := .int (nI (lsR f))) hx hb hts hi1 hown hK0 hV0 he2 rfl 3 (by decide) hw1 rfl dX1_put_73 ?_
        refine lv_iload_n hx hb dX1_put_76 rfl (lv_at hl 2 rfl) ?_
        refine va_mmin hx hb (hml.trans hl.1.symm) hown hw2 hw3 hw4 hw5 (Nat.le_of_ble_eq_true rfl) (Nat.le_of_ble_eq_true rfl) (Nat.le_of_ble_eq_true rfl) (Nat.le_of_ble_eq_true rfl) dX1_put_77 ?_
        refine h_put (v := .int ((if nI k < nI (lsR f) then nI k else nI (lsR f)))) hx hb hts hi1 tyX1 tyX1_ok nmX1 hown hK0 hV0 hA0 hS he2 rfl 3 (by decide) hw1 rfl (by rfl) (by rfl) (Nat.le_of_ble_eq_true rfl) dX1_put_80 (fun H locs hV0 hA0 hS => ?_)
        have he3 : (hput (hput hp w (eI 64 (upd f (k) v))) a (eO 1 [.ref w, .int (nI (szR f)), .int (nI (tbR f)), .int ((if nI k < nI (lsR f) then nI k else nI (lsR f))), .int (grR f), .int (svR f)])) a = some (eO 1 [.ref w, .int (nI (szR f)), .int (nI (tbR f)), .int ((if nI k < nI (lsR f) then nI k else nI (lsR f))), .int (grR f), .int (svR f)]) := hput_s _ _ _
        have he4 : (hput (hput hp w (eI 64 (upd f (k) v))) a (eO 1 [.ref w, .int (nI (szR f)), .int (nI (tbR f)), .int ((if nI k < nI (lsR f) then nI k else nI (lsR f))), .int (grR f), .int (svR f)])) w = some (eI 64 (upd f (k) v)) := (hput_n _ _ (Ne.symm hne)).trans ((by first | exact he1 | exact (hput_n _ _ (Ne.symm hne)).symm.trans he1))
        refine lv_aload_n hx hb dX1_put_83 rfl (lv_at hl 1 rfl) ?_
        refine lv_aload_n hx hb dX1_put_84 rfl (lv_at hl 1 rfl) ?_
        refine h_get (v := .int (grR f)) hx hb hts hi1 hown hK0 hV0 he3 rfl 4 (by decide) hw6 rfl dX1_put_85 ?_
        refine lv_iload_n hx hb dX1_put_88 rfl (lv_at hl 2 rfl) ?_
        refine va_mmax hx hb (hml.trans hl.1.symm) hown hw7 hw8 hw4 hw9 (Nat.le_of_ble_eq_true rfl) (Nat.le_of_ble_eq_true rfl) (Nat.le_of_ble_eq_true rfl) (Nat.le_of_ble_eq_true rfl) dX1_put_89 ?_
        refine h_put (v := .int ((if (grR f) < nI k then nI k else (grR f)))) hx hb hts hi1 tyX1 tyX1_ok nmX1 hown hK0 hV0 hA0 hS he3 rfl 4 (by decide) hw6 rfl (by rfl) (by rfl) (Nat.le_of_ble_eq_true rfl) dX1_put_92 (fun H locs hV0 hA0 hS => ?_)
        rw [hput_hput] at hV0 hA0
        have he5 : (hput (hput hp w (eI 64 (upd f (k) v))) a (eO 1 [.ref w, .int (nI (szR f)), .int (nI (tbR f)), .int ((if nI k < nI (lsR f) then nI k else nI (lsR f))), .int ((if (grR f) < nI k then nI k else (grR f))), .int (svR f)])) a = some (eO 1 [.ref w, .int (nI (szR f)), .int (nI (tbR f)), .int ((if nI k < nI (lsR f) then nI k else nI (lsR f))), .int ((if (grR f) < nI k then nI k else (grR f))), .int (svR f)]) := hput_s _ _ _
        have he6 : (hput (hput hp w (eI 64 (upd f (k) v))) a (eO 1 [.ref w, .int (nI (szR f)), .int (nI (tbR f)), .int ((if nI k < nI (lsR f) then nI k else nI (lsR f))), .int ((if (grR f) < nI k then nI k else (grR f))), .int (svR f)])) w = some (eI 64 (upd f (k) v)) := (hput_n _ _ (Ne.symm hne)).trans ((by first | exact he4 | exact (hput_n _ _ (Ne.symm hne)).symm.trans he4))
        refine lv_aload_n hx hb dX1_put_95 rfl (lv_at hl 1 rfl) ?_
        refine lv_dup hx hb dX1_put_96 rfl ?_
        refine h_get (v := .int (svR f)) hx hb hts hi1 hown hK0 hV0 he5 rfl 5 (by decide) hw10 rfl dX1_put_97 ?_
        refine lv_iconst (v := nI 1) hx hb dX1_put_100 (by decide) ?_
        refine lv_iload_n hx hb dX1_put_101 rfl (lv_at hl 2 rfl) ?_
        refine lv_bipush (v := nI 8) hx hb dX1_put_102 (by decide) ?_
        refine h_iremN hx hb (by omega) (by decide) (by decide) dX1_put_104 ?_
        refine lv_ishl hx hb dX1_put_105 ?_
        refine lv_ior hx hb dX1_put_106 ?_
        refine h_put (v := .int ((svR f) ||| (nI 1 <<< (nI (k % 8) &&& 31)))) hx hb hts hi1 tyX1 tyX1_ok nmX1 hown hK0 hV0 hA0 hS he5 rfl 5 (by decide) hw10 rfl (by rfl) (by rfl) (Nat.le_of_ble_eq_true rfl) dX1_put_107 (fun H locs hV0 hA0 hS => ?_)
        rw [hput_hput] at hV0 hA0
        have he7 : (hput (hput hp w (eI 64 (upd f (k) v))) a (eO 1 [.ref w, .int (nI (szR f)), .int (nI (tbR f)), .int ((if nI k < nI (lsR f) then nI k else nI (lsR f))), .int ((if (grR f) < nI k then nI k else (grR f))), .int ((svR f) ||| (nI 1 <<< (nI (k % 8) &&& 31)))])) a = some (eO 1 [.ref w, .int (nI (szR f)), .int (nI (tbR f)), .int ((if nI k < nI (lsR f) then nI k else nI (lsR f))), .int ((if (grR f) < nI k then nI k else (grR f))), .int ((svR f) ||| (nI 1 <<< (nI (k % 8) &&& 31)))]) := hput_s _ _ _
        have he8 : (hput (hput hp w (eI 64 (upd f (k) v))) a (eO 1 [.ref w, .int (nI (szR f)), .int (nI (tbR f)), .int ((if nI k < nI (lsR f) then nI k else nI (lsR f))), .int ((if (grR f) < nI k then nI k else (grR f))), .int ((svR f) ||| (nI 1 <<< (nI (k % 8) &&& 31)))])) w = some (eI 64 (upd f (k) v)) := (hput_n _ _ (Ne.symm hne)).trans ((by first | exact he6 | exact (hput_n _ _ (Ne.symm hne)).symm.trans he6))
        exact W.vret hx hb hr (h_qW ⟨rfl, by (try rw [hput_mid]); rw [slO_gen (w := w) hk hv (sz_2 hk hv c_21) (tb_na hk c_36 c_51)]; rfl⟩ hV0 hA0 hS) hS.2.2 dX1_put_110 hlocks
      · refine lv_aload_n hx hb dX1_put_54 rfl (lv_at hl 1 rfl) ?_
        refine lv_dup hx hb dX1_put_55 rfl ?_
        refine h_get (v := .int (nI (tbR f))) hx hb hts hi1 hown hK0 hV0 he.1 rfl 2 (by decide) hw11 rfl dX1_put_56 ?_
        refine lv_iconst (v := nI 1) hx hb dX1_put_59 (by decide) ?_
        refine lv_iadd hx hb dX1_put_60 ?_
        refine h_put (v := .int (nI (tbR f) + nI 1)) hx hb hts hi1 tyX1 tyX1_ok nmX1 hown hK0 hV0 hA0 hS he.1 rfl 2 (by decide) hw11 rfl (by rfl) (by rfl) (Nat.le_of_ble_eq_true rfl) dX1_put_61 (fun H locs hV0 hA0 hS => ?_)
        have he9 : (hput hp a (eO 1 [.ref w, .int (nI (szR f)), .int (nI (tbR f) + nI 1), .int (nI (lsR f)), .int (grR f), .int (svR f)])) a = some (eO 1 [.ref w, .int (nI (szR f)), .int (nI (tbR f) + nI 1), .int (nI (lsR f)), .int (grR f), .int (svR f)]) := hput_s _ _ _
        have he10 : (hput hp a (eO 1 [.ref w, .int (nI (szR f)), .int (nI (tbR f) + nI 1), .int (nI (lsR f)), .int (grR f), .int (svR f)])) w = some (eI 64 f) := (hput_n _ _ (Ne.symm hne)).trans ((by first | exact he.2 | exact (hput_n _ _ (Ne.symm hne)).symm.trans he.2))
        refine lv_aload_n hx hb dX1_put_64 rfl (lv_at hl 1 rfl) ?_
        refine h_get (v := .ref w) hx hb hts hi1 hown hK0 hV0 he9 rfl 0 (by decide) hw0 rfl dX1_put_65 ?_
        refine lv_iload_n hx hb dX1_put_68 rfl (lv_at hl 2 rfl) ?_
        refine lv_iload_n hx hb dX1_put_69 rfl (lv_at hl 3 rfl) ?_
        refine h_iast (i := k) (x := v) hx hb hK0 hV0 hA0 hS he10 (by omega) (by omega) dX1_put_70 (fun H locs hV0 hA0 hS => ?_)
        have he11 : (hput (hput hp a (eO 1 [.ref w, .int (nI (szR f)), .int (nI (tbR f) + nI 1), .int (nI (lsR f)), .int (grR f), .int (svR f)])) w (eI 64 (upd f (k) v))) w = some (eI 64 (upd f (k) v)) := hput_s _ _ _
        have he12 : (hput (hput hp a (eO 1 [.ref w, .int (nI (szR f)), .int (nI (tbR f) + nI 1), .int (nI (lsR f)), .int (grR f), .int (svR f)])) w (eI 64 (upd f (k) v))) a = some (eO 1 [.ref w, .int (nI (szR f)), .int (nI (tbR f) + nI 1), .int (nI (lsR f)), .int (grR f), .int (svR f)]) := (hput_n _ _ hne).trans ((by first | exact he9 | exact (hput_n _ _ hne).symm.trans he9))
        refine lv_aload_n hx hb dX1_put_71 rfl (lv_at hl 1 rfl) ?_
        refine lv_aload_n hx hb dX1_put_72 rfl (lv_at hl 1 rfl) ?_
        refine h_get (v := .int (nI (lsR f))) hx hb hts hi1 hown hK0 hV0 he12 rfl 3 (by decide) hw1 rfl dX1_put_73 ?_
        refine lv_iload_n hx hb dX1_put_76 rfl (lv_at hl 2 rfl) ?_
        refine va_mmin hx hb (hml.trans hl.1.symm) hown hw2 hw3 hw4 hw5 (Nat.le_of_ble_eq_true rfl) (Nat.le_of_ble_eq_true rfl) (Nat.le_of_ble_eq_true rfl) (Nat.le_of_ble_eq_true rfl) dX1_put_77 ?_
        refine h_put (v := .int ((if nI k < nI (lsR f) then nI k else nI (lsR f)))) hx hb hts hi1 tyX1 tyX1_ok nmX1 hown hK0 hV0 hA0 hS he12 rfl 3 (by decide) hw1 rfl (by rfl) (by rfl) (Nat.le_of_ble_eq_true rfl) dX1_put_80 (fun H locs hV0 hA0 hS => ?_)
        have he13 : (hput (hput (hput hp a (eO 1 [.ref w, .int (nI (szR f)), .int (nI (tbR f) + nI 1), .int (nI (lsR f)), .int (grR f), .int (svR f)])) w (eI 64 (upd f (k) v))) a (eO 1 [.ref w, .int (nI (szR f)), .int (nI (tbR f) + nI 1), .int ((if nI k < nI (lsR f) then nI k else nI (lsR f))), .int (grR f), .int (svR f)])) a = some (eO 1 [.ref w, .int (nI (szR f)), .int (nI (tbR f) + nI 1), .int ((if nI k < nI (lsR f) then nI k else nI (lsR f))), .int (grR f), .int (svR f)]) := hput_s _ _ _
        have he14 : (hput (hput (hput hp a (eO 1 [.ref w, .int (nI (szR f)), .int (nI (tbR f) + nI 1), .int (nI (lsR f)), .int (grR f), .int (svR f)])) w (eI 64 (upd f (k) v))) a (eO 1 [.ref w, .int (nI (szR f)), .int (nI (tbR f) + nI 1), .int ((if nI k < nI (lsR f) then nI k else nI (lsR f))), .int (grR f), .int (svR f)])) w = some (eI 64 (upd f (k) v)) := (hput_n _ _ (Ne.symm hne)).trans ((by first | exact he11 | exact (hput_n _ _ (Ne.symm hne)).symm.trans he11))
        refine lv_aload_n hx hb dX1_put_83 rfl (lv_at hl 1 rfl) ?_
        refine lv_aload_n hx hb dX1_put_84 rfl (lv_at hl 1 rfl) ?_
        refine h_get (v := .int (grR f)) hx hb hts hi1 hown hK0 hV0 he13 rfl 4 (by decide) hw6 rfl dX1_put_85 ?_
        refine lv_iload_n hx hb dX1_put_88 rfl (lv_at hl 2 rfl) ?_
        refine va_mmax hx hb (hml.trans hl.1.symm) hown hw7 hw8 hw4 hw9 (Nat.le_of_ble_eq_true rfl) (Nat.le_of_ble_eq_true rfl) (Nat.le_of_ble_eq_true rfl) (Nat.le_of_ble_eq_true rfl) dX1_put_89 ?_
        refine h_put (v := .int ((if (grR f) < nI k then nI k else (grR f)))) hx hb hts hi1 tyX1 tyX1_ok nmX1 hown hK0 hV0 hA0 hS he13 rfl 4 (by decide) hw6 rfl (by rfl) (by rfl) (Nat.le_of_ble_eq_true rfl) dX1_put_92 (fun H locs hV0 hA0 hS => ?_)
        rw [hput_hput] at hV0 hA0
        have he15 : (hput (hput (hput hp a (eO 1 [.ref w, .int (nI (szR f)), .int (nI (tbR f) + nI 1), .int (nI (lsR f)), .int (grR f), .int (svR f)])) w (eI 64 (upd f (k) v))) a (eO 1 [.ref w, .int (nI (szR f)), .int (nI (tbR f) + nI 1), .int ((if nI k < nI (lsR f) then nI k else nI (lsR f))), .int ((if (grR f) < nI k then nI k else (grR f))), .int (svR f)])) a = some (eO 1 [.ref w, .int (nI (szR f)), .int (nI (tbR f) + nI 1), .int ((if nI k < nI (lsR f) then nI k else nI (lsR f))), .int ((if (grR f) < nI k then nI k else (grR f))), .int (svR f)]) := hput_s _ _ _
        have he16 : (hput (hput (hput hp a (eO 1 [.ref w, .int (nI (szR f)), .int (nI (tbR f) + nI 1), .int (nI (lsR f)), .int (grR f), .int (svR f)])) w (eI 64 (upd f (k) v))) a (eO 1 [.ref w, .int (nI (szR f)), .int (nI (tbR f) + nI 1), .int ((if nI k < nI (lsR f) then nI k else nI (lsR f))), .int ((if (grR f) < nI k then nI k else (grR f))), .int (svR f)])) w = some (eI 64 (upd f (k) v)) := (hput_n _ _ (Ne.symm hne)).trans ((by first | exact he14 | exact (hput_n _ _ (Ne.symm hne)).symm.trans he14))
        refine lv_aload_n hx hb dX1_put_95 rfl (lv_at hl 1 rfl) ?_
        refine lv_dup hx hb dX1_put_96 rfl ?_
        refine h_get (v := .int (svR f)) hx hb hts hi1 hown hK0 hV0 he15 rfl 5 (by decide) hw10 rfl dX1_put_97 ?_
        refine lv_iconst (v := nI 1) hx hb dX1_put_100 (by decide) ?_
        refine lv_iload_n hx hb dX1_put_101 rfl (lv_at hl 2 rfl) ?_
        refine lv_bipush (v := nI 8) hx hb dX1_put_102 (by decide) ?_
        refine h_iremN hx hb (by omega) (by decide) (by decide) dX1_put_104 ?_
        refine lv_ishl hx hb dX1_put_105 ?_
        refine lv_ior hx hb dX1_put_106 ?_
        refine h_put (v := .int ((svR f) ||| (nI 1 <<< (nI (k % 8) &&& 31)))) hx hb hts hi1 tyX1 tyX1_ok nmX1 hown hK0 hV0 hA0 hS he15 rfl 5 (by decide) hw10 rfl (by rfl) (by rfl) (Nat.le_of_ble_eq_true rfl) dX1_put_107 (fun H locs hV0 hA0 hS => ?_)
        rw [hput_hput] at hV0 hA0
        have he17 : (hput (hput (hput hp a (eO 1 [.ref w, .int (nI (szR f)), .int (nI (tbR f) + nI 1), .int (nI (lsR f)), .int (grR f), .int (svR f)])) w (eI 64 (upd f (k) v))) a (eO 1 [.ref w, .int (nI (szR f)), .int (nI (tbR f) + nI 1), .int ((if nI k < nI (lsR f) then nI k else nI (lsR f))), .int ((if (grR f) < nI k then nI k else (grR f))), .int ((svR f) ||| (nI 1 <<< (nI (k % 8) &&& 31)))])) a = some (eO 1 [.ref w, .int (nI (szR f)), .int (nI (tbR f) + nI 1), .int ((if nI k < nI (lsR f) then nI k else nI (lsR f))), .int ((if (grR f) < nI k then nI k else (grR f))), .int ((svR f) ||| (nI 1 <<< (nI (k % 8) &&& 31)))]) := hput_s _ _ _
        have he18 : (hput (hput (hput hp a (eO 1 [.ref w, .int (nI (szR f)), .int (nI (tbR f) + nI 1), .int (nI (lsR f)), .int (grR f), .int (svR f)])) w (eI 64 (upd f (k) v))) a (eO 1 [.ref w, .int (nI (szR f)), .int (nI (tbR f) + nI 1), .int ((if nI k < nI (lsR f) then nI k else nI (lsR f))), .int ((if (grR f) < nI k then nI k else (grR f))), .int ((svR f) ||| (nI 1 <<< (nI (k % 8) &&& 31)))])) w = some (eI 64 (upd f (k) v)) := (hput_n _ _ (Ne.symm hne)).trans ((by first | exact he16 | exact (hput_n _ _ (Ne.symm hne)).symm.trans he16))
        exact W.vret hx hb hr (h_qW ⟨rfl, by (try rw [hput_mid]); rw [slO_gen (w := w) hk hv (sz_2 hk hv c_21) (tb_nb hk c_36 c_51)]; rfl⟩ hV0 hA0 hS) hS.2.2 dX1_put_110 hlocks
    · refine lv_aload_n hx hb dX1_put_39 rfl (lv_at hl 1 rfl) ?_
      refine lv_dup hx hb dX1_put_40 rfl ?_
      refine h_get (v := .int (nI (tbR f))) hx hb hts hi1 hown hK0 hV0 he.1 rfl 2 (by decide) hw11 rfl dX1_put_41 ?_
      refine lv_iconst (v := nI 1) hx hb dX1_put_44 (by decide) ?_
      refine lv_isub hx hb dX1_put_45 ?_
      refine h_put (v := .int (nI (tbR f) - nI 1)) hx hb hts hi1 tyX1 tyX1_ok nmX1 hown hK0 hV0 hA0 hS he.1 rfl 2 (by decide) hw11 rfl (by rfl) (by rfl) (Nat.le_of_ble_eq_true rfl) dX1_put_46 (fun H locs hV0 hA0 hS => ?_)
      have he19 : (hput hp a (eO 1 [.ref w, .int (nI (szR f)), .int (nI (tbR f) - nI 1), .int (nI (lsR f)), .int (grR f), .int (svR f)])) a = some (eO 1 [.ref w, .int (nI (szR f)), .int (nI (tbR f) - nI 1), .int (nI (lsR f)), .int (grR f), .int (svR f)]) := hput_s _ _ _
      have he20 : (hput hp a (eO 1 [.ref w, .int (nI (szR f)), .int (nI (tbR f) - nI 1), .int (nI (lsR f)), .int (grR f), .int (svR f)])) w = some (eI 64 f) := (hput_n _ _ (Ne.symm hne)).trans ((by first | exact he.2 | exact (hput_n _ _ (Ne.symm hne)).symm.trans he.2))
      refine lv_iload_n hx hb dX1_put_49 rfl (lv_at hl 3 rfl) ?_
      refine lv_iconst (v := (-1)) hx hb dX1_put_50 (by decide) ?_
      refine lv_icmp_ne (tgt := 64) hx hb dX1_put_51 (by decide) (fun c_51 => ?_) (fun c_51 => ?_)
      · refine lv_aload_n hx hb dX1_put_64 rfl (lv_at hl 1 rfl) ?_
        refine h_get (v := .ref w) hx hb hts hi1 hown hK0 hV0 he19 rfl 0 (by decide) hw0 rfl dX1_put_65 ?_
        refine lv_iload_n hx hb dX1_put_68 rfl (lv_at hl 2 rfl) ?_
        refine lv_iload_n hx hb dX1_put_69 rfl (lv_at hl 3 rfl) ?_
        refine h_iast (i := k) (x := v) hx hb hK0 hV0 hA0 hS he20 (by omega) (by omega) dX1_put_70 (fun H locs hV0 hA0 hS => ?_)
        have he21 : (hput (hput hp a (eO 1 [.ref w, .int (nI (szR f)), .int (nI (tbR f) - nI 1), .int (nI (lsR f)), .int (grR f), .int (svR f)])) w (eI 64 (upd f (k) v))) w = some (eI 64 (upd f (k) v)) := hput_s _ _ _
        have he22 : (hput (hput hp a (eO 1 [.ref w, .int (nI (szR f)), .int (nI (tbR f) - nI 1), .int (nI (lsR f)), .int (grR f), .int (svR f)])) w (eI 64 (upd f (k) v))) a = some (eO 1 [.ref w, .int (nI (szR f)), .int (nI (tbR f) - nI 1), .int (nI (lsR f)), .int (grR f), .int (svR f)]) := (hput_n _ _ hne).trans ((by first | exact he19 | exact (hput_n _ _ hne).symm.trans he19))
        refine lv_aload_n hx hb dX1_put_71 rfl (lv_at hl 1 rfl) ?_
        refine lv_aload_n hx hb dX1_put_72 rfl (lv_at hl 1 rfl) ?_
        refine h_get (v := .int (nI (lsR f))) hx hb hts hi1 hown hK0 hV0 he22 rfl 3 (by decide) hw1 rfl dX1_put_73 ?_
        refine lv_iload_n hx hb dX1_put_76 rfl (lv_at hl 2 rfl) ?_
        refine va_mmin hx hb (hml.trans hl.1.symm) hown hw2 hw3 hw4 hw5 (Nat.le_of_ble_eq_true rfl) (Nat.le_of_ble_eq_true rfl) (Nat.le_of_ble_eq_true rfl) (Nat.le_of_ble_eq_true rfl) dX1_put_77 ?_
        refine h_put (v := .int ((if nI k < nI (lsR f) then nI k else nI (lsR f)))) hx hb hts hi1 tyX1 tyX1_ok nmX1 hown hK0 hV0 hA0 hS he22 rfl 3 (by decide) hw1 rfl (by rfl) (by rfl) (Nat.le_of_ble_eq_true rfl) dX1_put_80 (fun H locs hV0 hA0 hS => ?_)
        have he23 : (hput (hput (hput hp a (eO 1 [.ref w, .int (nI (szR f)), .int (nI (tbR f) - nI 1), .int (nI (lsR f)), .int (grR f), .int (svR f)])) w (eI 64 (upd f (k) v))) a (eO 1 [.ref w, .int (nI (szR f)), .int (nI (tbR f) - nI 1), .int ((if nI k < nI (lsR f) then nI k else nI (lsR f))), .int (grR f), .int (svR f)])) a = some (eO 1 [.ref w, .int (nI (szR f)), .int (nI (tbR f) - nI 1), .int ((if nI k < nI (lsR f) then nI k else nI (lsR f))), .int (grR f), .int (svR f)]) := hput_s _ _ _
        have he24 : (hput (hput (hput hp a (eO 1 [.ref w, .int (nI (szR f)), .int (nI (tbR f) - nI 1), .int (nI (lsR f)), .int (grR f), .int (svR f)])) w (eI 64 (upd f (k) v))) a (eO 1 [.ref w, .int (nI (szR f)), .int (nI (tbR f) - nI 1), .int ((if nI k < nI (lsR f) then nI k else nI (lsR f))), .int (grR f), .int (svR f)])) w = some (eI 64 (upd f (k) v)) := (hput_n _ _ (Ne.symm hne)).trans ((by first | exact he21 | exact (hput_n _ _ (Ne.symm hne)).symm.trans he21))
        refine lv_aload_n hx hb dX1_put_83 rfl (lv_at hl 1 rfl) ?_
        refine lv_aload_n hx hb dX1_put_84 rfl (lv_at hl 1 rfl) ?_
        refine h_get (v := .int (grR f)) hx hb hts hi1 hown hK0 hV0 he23 rfl 4 (by decide) hw6 rfl dX1_put_85 ?_
        refine lv_iload_n hx hb dX1_put_88 rfl (lv_at hl 2 rfl) ?_
        refine va_mmax hx hb (hml.trans hl.1.symm) hown hw7 hw8 hw4 hw9 (Nat.le_of_ble_eq_true rfl) (Nat.le_of_ble_eq_true rfl) (Nat.le_of_ble_eq_true rfl) (Nat.le_of_ble_eq_true rfl) dX1_put_89 ?_
        refine h_put (v := .int ((if (grR f) < nI k then nI k else (grR f)))) hx hb hts hi1 tyX1 tyX1_ok nmX1 hown hK0 hV0 hA0 hS he23 rfl 4 (by decide) hw6 rfl (by rfl) (by rfl) (Nat.le_of_ble_eq_true rfl) dX1_put_92 (fun H locs hV0 hA0 hS => ?_)
        rw [hput_hput] at hV0 hA0
        have he25 : (hput (hput (hput hp a (eO 1 [.ref w, .int (nI (szR f)), .int (nI (tbR f) - nI 1), .int (nI (lsR f)), .int (grR f), .int (svR f)])) w (eI 64 (upd f (k) v))) a (eO 1 [.ref w, .int (nI (szR f)), .int (nI (tbR f) - nI 1), .int ((if nI k < nI (lsR f) then nI k else nI (lsR f))), .int ((if (grR f) < nI k then nI k else (grR f))), .int (svR f)])) a = some (eO 1 [.ref w, .int (nI (szR f)), .int (nI (tbR f) - nI 1), .int ((if nI k < nI (lsR f) then nI k else nI (lsR f))), .int ((if (grR f) < nI k then nI k else (grR f))), .int (svR f)]) := hput_s _ _ _
        have he26 : (hput (hput (hput hp a (eO 1 [.ref w, .int (nI (szR f)), .int (nI (tbR f) - nI 1), .int (nI (lsR f)), .int (grR f), .int (svR f)])) w (eI 64 (upd f (k) v))) a (eO 1 [.ref w, .int (nI (szR f)), .int (nI (tbR f) - nI 1), .int ((if nI k < nI (lsR f) then nI k else nI (lsR f))), .int ((if (grR f) < nI k then nI k else (grR f))), .int (svR f)])) w = some (eI 64 (upd f (k) v)) := (hput_n _ _ (Ne.symm hne)).trans ((by first | exact he24 | exact (hput_n _ _ (Ne.symm hne)).symm.trans he24))
        refine lv_aload_n hx hb dX1_put_95 rfl (lv_at hl 1 rfl) ?_
        refine lv_dup hx hb dX1_put_96 rfl ?_
        refine h_get (v := .int (svR f)) hx hb hts hi1 hown hK0 hV0 he25 rfl 5 (by decide) hw10 rfl dX1_put_97 ?_
        refine lv_iconst (v := nI 1) hx hb dX1_put_100 (by decide) ?_
        refine lv_iload_n hx hb dX1_put_101 rfl (lv_at hl 2 rfl) ?_
        refine lv_bipush (v := nI 8) hx hb dX1_put_102 (by decide) ?_
        refine h_iremN hx hb (by omega) (by decide) (by decide) dX1_put_104 ?_
        refine lv_ishl hx hb dX1_put_105 ?_
        refine lv_ior hx hb dX1_put_106 ?_
        refine h_put (v := .int ((svR f) ||| (nI 1 <<< (nI (k % 8) &&& 31)))) hx hb hts hi1 tyX1 tyX1_ok nmX1 hown hK0 hV0 hA0 hS he25 rfl 5 (by decide) hw10 rfl (by rfl) (by rfl) (Nat.le_of_ble_eq_true rfl) dX1_put_107 (fun H locs hV0 hA0 hS => ?_)
        rw [hput_hput] at hV0 hA0
        have he27 : (hput (hput (hput hp a (eO 1 [.ref w, .int (nI (szR f)), .int (nI (tbR f) - nI 1), .int (nI (lsR f)), .int (grR f), .int (svR f)])) w (eI 64 (upd f (k) v))) a (eO 1 [.ref w, .int (nI (szR f)), .int (nI (tbR f) - nI 1), .int ((if nI k < nI (lsR f) then nI k else nI (lsR f))), .int ((if (grR f) < nI k then nI k else (grR f))), .int ((svR f) ||| (nI 1 <<< (nI (k % 8) &&& 31)))])) a = some (eO 1 [.ref w, .int (nI (szR f)), .int (nI (tbR f) - nI 1), .int ((if nI k < nI (lsR f) then nI k else nI (lsR f))), .int ((if (grR f) < nI k then nI k else (grR f))), .int ((svR f) ||| (nI 1 <<< (nI (k % 8) &&& 31)))]) := hput_s _ _ _
        have he28 : (hput (hput (hput hp a (eO 1 [.ref w, .int (nI (szR f)), .int (nI (tbR f) - nI 1), .int (nI (lsR f)), .int (grR f), .int (svR f)])) w (eI 64 (upd f (k) v))) a (eO 1 [.ref w, .int (nI (szR f)), .int (nI (tbR f) - nI 1), .int ((if nI k < nI (lsR f) then nI k else nI (lsR f))), .int ((if (grR f) < nI k then nI k else (grR f))), .int ((svR f) ||| (nI 1 <<< (nI (k % 8) &&& 31)))])) w = some (eI 64 (upd f (k) v)) := (hput_n _ _ (Ne.symm hne)).trans ((by first | exact he26 | exact (hput_n _ _ (Ne.symm hne)).symm.trans he26))
        exact W.vret hx hb hr (h_qW ⟨rfl, by (try rw [hput_mid]); rw [slO_gen (w := w) hk hv (sz_2 hk hv c_21) (tb_ya hk c_36 c_51)]; rfl⟩ hV0 hA0 hS) hS.2.2 dX1_put_110 hlocks
      · refine lv_aload_n hx hb dX1_put_54 rfl (lv_at hl 1 rfl) ?_
        refine lv_dup hx hb dX1_put_55 rfl ?_
        refine h_get (v := .int (nI (tbR f) - nI 1)) hx hb hts hi1 hown hK0 hV0 he19 rfl 2 (by decide) hw11 rfl dX1_put_56 ?_
        refine lv_iconst (v := nI 1) hx hb dX1_put_59 (by decide) ?_
        refine lv_iadd hx hb dX1_put_60 ?_
        refine h_put (v := .int ((nI (tbR f) - nI 1) + nI 1)) hx hb hts hi1 tyX1 tyX1_ok nmX1 hown hK0 hV0 hA0 hS he19 rfl 2 (by decide) hw11 rfl (by rfl) (by rfl) (Nat.le_of_ble_eq_true rfl) dX1_put_61 (fun H locs hV0 hA0 hS => ?_)
        rw [hput_hput] at hV0 hA0
        have he29 : (hput hp a (eO 1 [.ref w, .int (nI (szR f)), .int ((nI (tbR f) - nI 1) + nI 1), .int (nI (lsR f)), .int (grR f), .int (svR f)])) a = some (eO 1 [.ref w, .int (nI (szR f)), .int ((nI (tbR f) - nI 1) + nI 1), .int (nI (lsR f)), .int (grR f), .int (svR f)]) := hput_s _ _ _
        have he30 : (hput hp a (eO 1 [.ref w, .int (nI (szR f)), .int ((nI (tbR f) - nI 1) + nI 1), .int (nI (lsR f)), .int (grR f), .int (svR f)])) w = some (eI 64 f) := (hput_n _ _ (Ne.symm hne)).trans ((by first | exact he20 | exact (hput_n _ _ (Ne.symm hne)).symm.trans he20))
        refine lv_aload_n hx hb dX1_put_64 rfl (lv_at hl 1 rfl) ?_
        refine h_get (v := .ref w) hx hb hts hi1 hown hK0 hV0 he29 rfl 0 (by decide) hw0 rfl dX1_put_65 ?_
        refine lv_iload_n hx hb dX1_put_68 rfl (lv_at hl 2 rfl) ?_
        refine lv_iload_n hx hb dX1_put_69 rfl (lv_at hl 3 rfl) ?_
        refine h_iast (i := k) (x := v) hx hb hK0 hV0 hA0 hS he30 (by omega) (by omega) dX1_put_70 (fun H locs hV0 hA0 hS => ?_)
        have he31 : (hput (hput hp a (eO 1 [.ref w, .int (nI (szR f)), .int ((nI (tbR f) - nI 1) + nI 1), .int (nI (lsR f)), .int (grR f), .int (svR f)])) w (eI 64 (upd f (k) v))) w = some (eI 64 (upd f (k) v)) := hput_s _ _ _
        have he32 : (hput (hput hp a (eO 1 [.ref w, .int (nI (szR f)), .int ((nI (tbR f) - nI 1) + nI 1), .int (nI (lsR f)), .int (grR f), .int (svR f)])) w (eI 64 (upd f (k) v))) a = some (eO 1 [.ref w, .int (nI (szR f)), .int ((nI (tbR f) - nI 1) + nI 1), .int (nI (lsR f)), .int (grR f), .int (svR f)]) := (hput_n _ _ hne).trans ((by first | exact he29 | exact (hput_n _ _ hne).symm.trans he29))
        refine lv_aload_n hx hb dX1_put_71 rfl (lv_at hl 1 rfl) ?_
        refine lv_aload_n hx hb dX1_put_72 rfl (lv_at hl 1 rfl) ?_
        refine h_get (v := .int (nI (lsR f))) hx hb hts hi1 hown hK0 hV0 he32 rfl 3 (by decide) hw1 rfl dX1_put_73 ?_
        refine lv_iload_n hx hb dX1_put_76 rfl (lv_at hl 2 rfl) ?_
        refine va_mmin hx hb (hml.trans hl.1.symm) hown hw2 hw3 hw4 hw5 (Nat.le_of_ble_eq_true rfl) (Nat.le_of_ble_eq_true rfl) (Nat.le_of_ble_eq_true rfl) (Nat.le_of_ble_eq_true rfl) dX1_put_77 ?_
        refine h_put (v := .int ((if nI k < nI (lsR f) then nI k else nI (lsR f)))) hx hb hts hi1 tyX1 tyX1_ok nmX1 hown hK0 hV0 hA0 hS he32 rfl 3 (by decide) hw1 rfl (by rfl) (by rfl) (Nat.le_of_ble_eq_true rfl) dX1_put_80 (fun H locs hV0 hA0 hS => ?_)
        have he33 : (hput (hput (hput hp a (eO 1 [.ref w, .int (nI (szR f)), .int ((nI (tbR f) - nI 1) + nI 1), .int (nI (lsR f)), .int (grR f), .int (svR f)])) w (eI 64 (upd f (k) v))) a (eO 1 [.ref w, .int (nI (szR f)), .int ((nI (tbR f) - nI 1) + nI 1), .int ((if nI k < nI (lsR f) then nI k else nI (lsR f))), .int (grR f), .int (svR f)])) a = some (eO 1 [.ref w, .int (nI (szR f)), .int ((nI (tbR f) - nI 1) + nI 1), .int ((if nI k < nI (lsR f) then nI k else nI (lsR f))), .int (grR f), .int (svR f)]) := hput_s _ _ _
        have he34 : (hput (hput (hput hp a (eO 1 [.ref w, .int (nI (szR f)), .int ((nI (tbR f) - nI 1) + nI 1), .int (nI (lsR f)), .int (grR f), .int (svR f)])) w (eI 64 (upd f (k) v))) a (eO 1 [.ref w, .int (nI (szR f)), .int ((nI (tbR f) - nI 1) + nI 1), .int ((if nI k < nI (lsR f) then nI k else nI (lsR f))), .int (grR f), .int (svR f)])) w = some (eI 64 (upd f (k) v)) := (hput_n _ _ (Ne.symm hne)).trans ((by first | exact he31 | exact (hput_n _ _ (Ne.symm hne)).symm.trans he31))
        refine lv_aload_n hx hb dX1_put_83 rfl (lv_at hl 1 rfl) ?_
        refine lv_aload_n hx hb dX1_put_84 rfl (lv_at hl 1 rfl) ?_
        refine h_get (v := .int (grR f)) hx hb hts hi1 hown hK0 hV0 he33 rfl 4 (by decide) hw6 rfl dX1_put_85 ?_
        refine lv_iload_n hx hb dX1_put_88 rfl (lv_at hl 2 rfl) ?_
        refine va_mmax hx hb (hml.trans hl.1.symm) hown hw7 hw8 hw4 hw9 (Nat.le_of_ble_eq_true rfl) (Nat.le_of_ble_eq_true rfl) (Nat.le_of_ble_eq_true rfl) (Nat.le_of_ble_eq_true rfl) dX1_put_89 ?_
        refine h_put (v := .int ((if (grR f) < nI k then nI k else (grR f)))) hx hb hts hi1 tyX1 tyX1_ok nmX1 hown hK0 hV0 hA0 hS he33 rfl 4 (by decide) hw6 rfl (by rfl) (by rfl) (Nat.le_of_ble_eq_true rfl) dX1_put_92 (fun H locs hV0 hA0 hS => ?_)
        rw [hput_hput] at hV0 hA0
        have he35 : (hput (hput (hput hp a (eO 1 [.ref w, .int (nI (szR f)), .int ((nI (tbR f) - nI 1) + nI 1), .int (nI (lsR f)), .int (grR f), .int (svR f)])) w (eI 64 (upd f (k) v))) a (eO 1 [.ref w, .int (nI (szR f)), .int ((nI (tbR f) - nI 1) + nI 1), .int ((if nI k < nI (lsR f) then nI k else nI (lsR f))), .int ((if (grR f) < nI k then nI k else (grR f))), .int (svR f)])) a = some (eO 1 [.ref w, .int (nI (szR f)), .int ((nI (tbR f) - nI 1) + nI 1), .int ((if nI k < nI (lsR f) then nI k else nI (lsR f))), .int ((if (grR f) < nI k then nI k else (grR f))), .int (svR f)]) := hput_s _ _ _
        have he36 : (hput (hput (hput hp a (eO 1 [.ref w, .int (nI (szR f)), .int ((nI (tbR f) - nI 1) + nI 1), .int (nI (lsR f)), .int (grR f), .int (svR f)])) w (eI 64 (upd f (k) v))) a (eO 1 [.ref w, .int (nI (szR f)), .int ((nI (tbR f) - nI 1) + nI 1), .int ((if nI k < nI (lsR f) then nI k else nI (lsR f))), .int ((if (grR f) < nI k then nI k else (grR f))), .int (svR f)])) w = some (eI 64 (upd f (k) v)) := (hput_n _ _ (Ne.symm hne)).trans ((by first | exact he34 | exact (hput_n _ _ (Ne.symm hne)).symm.trans he34))
        refine lv_aload_n hx hb dX1_put_95 rfl (lv_at hl 1 rfl) ?_
        refine lv_dup hx hb dX1_put_96 rfl ?_
        refine h_get (v := .int (svR f)) hx hb hts hi1 hown hK0 hV0 he35 rfl 5 (by decide) hw10 rfl dX1_put_97 ?_
        refine lv_iconst (v := nI 1) hx hb dX1_put_100 (by decide) ?_
        refine lv_iload_n hx hb dX1_put_101 rfl (lv_at hl 2 rfl) ?_
        refine lv_bipush (v := nI 8) hx hb dX1_put_102 (by decide) ?_
        refine h_iremN hx hb (by omega) (by decide) (by decide) dX1_put_104 ?_
        refine lv_ishl hx hb dX1_put_105 ?_
        refine lv_ior hx hb dX1_put_106 ?_
        refine h_put (v := .int ((svR f) ||| (nI 1 <<< (nI (k % 8) &&& 31)))) hx hb hts hi1 tyX1 tyX1_ok nmX1 hown hK0 hV0 hA0 hS he35 rfl 5 (by decide) hw10 rfl (by rfl) (by rfl) (Nat.le_of_ble_eq_true rfl) dX1_put_107 (fun H locs hV0 hA0 hS => ?_)
        rw [hput_hput] at hV0 hA0
        have he37 : (hput (hput (hput hp a (eO 1 [.ref w, .int (nI (szR f)), .int ((nI (tbR f) - nI 1) + nI 1), .int (nI (lsR f)), .int (grR f), .int (svR f)])) w (eI 64 (upd f (k) v))) a (eO 1 [.ref w, .int (nI (szR f)), .int ((nI (tbR f) - nI 1) + nI 1), .int ((if nI k < nI (lsR f) then nI k else nI (lsR f))), .int ((if (grR f) < nI k then nI k else (grR f))), .int ((svR f) ||| (nI 1 <<< (nI (k % 8) &&& 31)))])) a = some (eO 1 [.ref w, .int (nI (szR f)), .int ((nI (tbR f) - nI 1) + nI 1), .int ((if nI k < nI (lsR f) then nI k else nI (lsR f))), .int ((if (grR f) < nI k then nI k else (grR f))), .int ((svR f) ||| (nI 1 <<< (nI (k % 8) &&& 31)))]) := hput_s _ _ _
        have he38 : (hput (hput (hput hp a (eO 1 [.ref w, .int (nI (szR f)), .int ((nI (tbR f) - nI 1) + nI 1), .int (nI (lsR f)), .int (grR f), .int (svR f)])) w (eI 64 (upd f (k) v))) a (eO 1 [.ref w, .int (nI (szR f)), .int ((nI (tbR f) - nI 1) + nI 1), .int ((if nI k < nI (lsR f) then nI k else nI (lsR f))), .int ((if (grR f) < nI k then nI k else (grR f))), .int ((svR f) ||| (nI 1 <<< (nI (k % 8) &&& 31)))])) w = some (eI 64 (upd f (k) v)) := (hput_n _ _ (Ne.symm hne)).trans ((by first | exact he36 | exact (hput_n _ _ (Ne.symm hne)).symm.trans he36))
        exact W.vret hx hb hr (h_qW ⟨rfl, by (try rw [hput_mid]); rw [slO_gen (w := w) hk hv (sz_2 hk hv c_21) (tb_yb hk c_36 c_51)]; rfl⟩ hV0 hA0 hS) hS.2.2 dX1_put_110 hlocks
  · refine lv_aload_n hx hb dX1_put_24 rfl (lv_at hl 1 rfl) ?_
    refine lv_dup hx hb dX1_put_25 rfl ?_
    refine h_get (v := .int (nI (szR f))) hx hb hts hi1 hown hK0 hV0 he.1 rfl 1 (by decide) hw12 rfl dX1_put_26 ?_
    refine lv_iconst (v := nI 1) hx hb dX1_put_29 (by decide) ?_
    refine lv_iadd hx hb dX1_put_30 ?_
    refine h_put (v := .int (nI (szR f) + nI 1)) hx hb hts hi1 tyX1 tyX1_ok nmX1 hown hK0 hV0 hA0 hS he.1 rfl 1 (by decide) hw12 rfl (by rfl) (by rfl) (Nat.le_of_ble_eq_true rfl) dX1_put_31 (fun H locs hV0 hA0 hS => ?_)
    have he39 : (hput hp a (eO 1 [.ref w, .int (nI (szR f) + nI 1), .int (nI (tbR f)), .int (nI (lsR f)), .int (grR f), .int (svR f)])) a = some (eO 1 [.ref w, .int (nI (szR f) + nI 1), .int (nI (tbR f)), .int (nI (lsR f)), .int (grR f), .int (svR f)]) := hput_s _ _ _
    have he40 : (hput hp a (eO 1 [.ref w, .int (nI (szR f) + nI 1), .int (nI (tbR f)), .int (nI (lsR f)), .int (grR f), .int (svR f)])) w = some (eI 64 f) := (hput_n _ _ (Ne.symm hne)).trans ((by first | exact he.2 | exact (hput_n _ _ (Ne.symm hne)).symm.trans he.2))
    refine lv_iload_n hx hb dX1_put_34 rfl (lv_at hl 0 rfl) ?_
    refine lv_iconst (v := (-1)) hx hb dX1_put_35 (by decide) ?_
    refine lv_icmp_ne (tgt := 49) hx hb dX1_put_36 (by decide) (fun c_36 => ?_) (fun c_36 => absurd (c_21.symm.trans c_36) (by decide))
    refine lv_iload_n hx hb dX1_put_49 rfl (lv_at hl 3 rfl) ?_
    refine lv_iconst (v := (-1)) hx hb dX1_put_50 (by decide) ?_
    refine lv_icmp_ne (tgt := 64) hx hb dX1_put_51 (by decide) (fun c_51 => ?_) (fun c_51 => ?_)
    · refine lv_aload_n hx hb dX1_put_64 rfl (lv_at hl 1 rfl) ?_
      refine h_get (v := .ref w) hx hb hts hi1 hown hK0 hV0 he39 rfl 0 (by decide) hw0 rfl dX1_put_65 ?_
      refine lv_iload_n hx hb dX1_put_68 rfl (lv_at hl 2 rfl) ?_
      refine lv_iload_n hx hb dX1_put_69 rfl (lv_at hl 3 rfl) ?_
      refine h_iast (i := k) (x := v) hx hb hK0 hV0 hA0 hS he40 (by omega) (by omega) dX1_put_70 (fun H locs hV0 hA0 hS => ?_)
      have he41 : (hput (hput hp a (eO 1 [.ref w, .int (nI (szR f) + nI 1), .int (nI (tbR f)), .int (nI (lsR f)), .int (grR f), .int (svR f)])) w (eI 64 (upd f (k) v))) w = some (eI 64 (upd f (k) v)) := hput_s _ _ _
      have he42 : (hput (hput hp a (eO 1 [.ref w, .int (nI (szR f) + nI 1), .int (nI (tbR f)), .int (nI (lsR f)), .int (grR f), .int (svR f)])) w (eI 64 (upd f (k) v))) a = some (eO 1 [.ref w, .int (nI (szR f) + nI 1), .int (nI (tbR f)), .int (nI (lsR f)), .int (grR f), .int (svR f)]) := (hput_n _ _ hne).trans ((by first | exact he39 | exact (hput_n _ _ hne).symm.trans he39))
      refine lv_aload_n hx hb dX1_put_71 rfl (lv_at hl 1 rfl) ?_
      refine lv_aload_n hx hb dX1_put_72 rfl (lv_at hl 1 rfl) ?_
      refine h_get (v := .int (nI (lsR f))) hx hb hts hi1 hown hK0 hV0 he42 rfl 3 (by decide) hw1 rfl dX1_put_73 ?_
      refine lv_iload_n hx hb dX1_put_76 rfl (lv_at hl 2 rfl) ?_
      refine va_mmin hx hb (hml.trans hl.1.symm) hown hw2 hw3 hw4 hw5 (Nat.le_of_ble_eq_true rfl) (Nat.le_of_ble_eq_true rfl) (Nat.le_of_ble_eq_true rfl) (Nat.le_of_ble_eq_true rfl) dX1_put_77 ?_
      refine h_put (v := .int ((if nI k < nI (lsR f) then nI k else nI (lsR f)))) hx hb hts hi1 tyX1 tyX1_ok nmX1 hown hK0 hV0 hA0 hS he42 rfl 3 (by decide) hw1 rfl (by rfl) (by rfl) (Nat.le_of_ble_eq_true rfl) dX1_put_80 (fun H locs hV0 hA0 hS => ?_)
      have he43 : (hput (hput (hput hp a (eO 1 [.ref w, .int (nI (szR f) + nI 1), .int (nI (tbR f)), .int (nI (lsR f)), .int (grR f), .int (svR f)])) w (eI 64 (upd f (k) v))) a (eO 1 [.ref w, .int (nI (szR f) + nI 1), .int (nI (tbR f)), .int ((if nI k < nI (lsR f) then nI k else nI (lsR f))), .int (grR f), .int (svR f)])) a = some (eO 1 [.ref w, .int (nI (szR f) + nI 1), .int (nI (tbR f)), .int ((if nI k < nI (lsR f) then nI k else nI (lsR f))), .int (grR f), .int (svR f)]) := hput_s _ _ _
      have he44 : (hput (hput (hput hp a (eO 1 [.ref w, .int (nI (szR f) + nI 1), .int (nI (tbR f)), .int (nI (lsR f)), .int (grR f), .int (svR f)])) w (eI 64 (upd f (k) v))) a (eO 1 [.ref w, .int (nI (szR f) + nI 1), .int (nI (tbR f)), .int ((if nI k < nI (lsR f) then nI k else nI (lsR f))), .int (grR f), .int (svR f)])) w = some (eI 64 (upd f (k) v)) := (hput_n _ _ (Ne.symm hne)).trans ((by first | exact he41 | exact (hput_n _ _ (Ne.symm hne)).symm.trans he41))
      refine lv_aload_n hx hb dX1_put_83 rfl (lv_at hl 1 rfl) ?_
      refine lv_aload_n hx hb dX1_put_84 rfl (lv_at hl 1 rfl) ?_
      refine h_get (v := .int (grR f)) hx hb hts hi1 hown hK0 hV0 he43 rfl 4 (by decide) hw6 rfl dX1_put_85 ?_
      refine lv_iload_n hx hb dX1_put_88 rfl (lv_at hl 2 rfl) ?_
      refine va_mmax hx hb (hml.trans hl.1.symm) hown hw7 hw8 hw4 hw9 (Nat.le_of_ble_eq_true rfl) (Nat.le_of_ble_eq_true rfl) (Nat.le_of_ble_eq_true rfl) (Nat.le_of_ble_eq_true rfl) dX1_put_89 ?_
      refine h_put (v := .int ((if (grR f) < nI k then nI k else (grR f)))) hx hb hts hi1 tyX1 tyX1_ok nmX1 hown hK0 hV0 hA0 hS he43 rfl 4 (by decide) hw6 rfl (by rfl) (by rfl) (Nat.le_of_ble_eq_true rfl) dX1_put_92 (fun H locs hV0 hA0 hS => ?_)
      rw [hput_hput] at hV0 hA0
      have he45 : (hput (hput (hput hp a (eO 1 [.ref w, .int (nI (szR f) + nI 1), .int (nI (tbR f)), .int (nI (lsR f)), .int (grR f), .int (svR f)])) w (eI 64 (upd f (k) v))) a (eO 1 [.ref w, .int (nI (szR f) + nI 1), .int (nI (tbR f)), .int ((if nI k < nI (lsR f) then nI k else nI (lsR f))), .int ((if (grR f) < nI k then nI k else (grR f))), .int (svR f)])) a = some (eO 1 [.ref w, .int (nI (szR f) + nI 1), .int (nI (tbR f)), .int ((if nI k < nI (lsR f) then nI k else nI (lsR f))), .int ((if (grR f) < nI k then nI k else (grR f))), .int (svR f)]) := hput_s _ _ _
      have he46 : (hput (hput (hput hp a (eO 1 [.ref w, .int (nI (szR f) + nI 1), .int (nI (tbR f)), .int (nI (lsR f)), .int (grR f), .int (svR f)])) w (eI 64 (upd f (k) v))) a (eO 1 [.ref w, .int (nI (szR f) + nI 1), .int (nI (tbR f)), .int ((if nI k < nI (lsR f) then nI k else nI (lsR f))), .int ((if (grR f) < nI k then nI k else (grR f))), .int (svR f)])) w = some (eI 64 (upd f (k) v)) := (hput_n _ _ (Ne.symm hne)).trans ((by first | exact he44 | exact (hput_n _ _ (Ne.symm hne)).symm.trans he44))
      refine lv_aload_n hx hb dX1_put_95 rfl (lv_at hl 1 rfl) ?_
      refine lv_dup hx hb dX1_put_96 rfl ?_
      refine h_get (v := .int (svR f)) hx hb hts hi1 hown hK0 hV0 he45 rfl 5 (by decide) hw10 rfl dX1_put_97 ?_
      refine lv_iconst (v := nI 1) hx hb dX1_put_100 (by decide) ?_
      refine lv_iload_n hx hb dX1_put_101 rfl (lv_at hl 2 rfl) ?_
      refine lv_bipush (v := nI 8) hx hb dX1_put_102 (by decide) ?_
      refine h_iremN hx hb (by omega) (by decide) (by decide) dX1_put_104 ?_
      refine lv_ishl hx hb dX1_put_105 ?_
      refine lv_ior hx hb dX1_put_106 ?_
      refine h_put (v := .int ((svR f) ||| (nI 1 <<< (nI (k % 8) &&& 31)))) hx hb hts hi1 tyX1 tyX1_ok nmX1 hown hK0 hV0 hA0 hS he45 rfl 5 (by decide) hw10 rfl (by rfl) (by rfl) (Nat.le_of_ble_eq_true rfl) dX1_put_107 (fun H locs hV0 hA0 hS => ?_)
      rw [hput_hput] at hV0 hA0
      have he47 : (hput (hput (hput hp a (eO 1 [.ref w, .int (nI (szR f) + nI 1), .int (nI (tbR f)), .int (nI (lsR f)), .int (grR f), .int (svR f)])) w (eI 64 (upd f (k) v))) a (eO 1 [.ref w, .int (nI (szR f) + nI 1), .int (nI (tbR f)), .int ((if nI k < nI (lsR f) then nI k else nI (lsR f))), .int ((if (grR f) < nI k then nI k else (grR f))), .int ((svR f) ||| (nI 1 <<< (nI (k % 8) &&& 31)))])) a = some (eO 1 [.ref w, .int (nI (szR f) + nI 1), .int (nI (tbR f)), .int ((if nI k < nI (lsR f) then nI k else nI (lsR f))), .int ((if (grR f) < nI k then nI k else (grR f))), .int ((svR f) ||| (nI 1 <<< (nI (k % 8) &&& 31)))]) := hput_s _ _ _
      have he48 : (hput (hput (hput hp a (eO 1 [.ref w, .int (nI (szR f) + nI 1), .int (nI (tbR f)), .int (nI (lsR f)), .int (grR f), .int (svR f)])) w (eI 64 (upd f (k) v))) a (eO 1 [.ref w, .int (nI (szR f) + nI 1), .int (nI (tbR f)), .int ((if nI k < nI (lsR f) then nI k else nI (lsR f))), .int ((if (grR f) < nI k then nI k else (grR f))), .int ((svR f) ||| (nI 1 <<< (nI (k % 8) &&& 31)))])) w = some (eI 64 (upd f (k) v)) := (hput_n _ _ (Ne.symm hne)).trans ((by first | exact he46 | exact (hput_n _ _ (Ne.symm hne)).symm.trans he46))
      exact W.vret hx hb hr (h_qW ⟨rfl, by (try rw [hput_mid]); rw [slO_gen (w := w) hk hv (sz_1 hk hv c_21) (tb_na hk (ne_2_1 c_21) c_51)]; rfl⟩ hV0 hA0 hS) hS.2.2 dX1_put_110 hlocks
    · refine lv_aload_n hx hb dX1_put_54 rfl (lv_at hl 1 rfl) ?_
      refine lv_dup hx hb dX1_put_55 rfl ?_
      refine h_get (v := .int (nI (tbR f))) hx hb hts hi1 hown hK0 hV0 he39 rfl 2 (by decide) hw11 rfl dX1_put_56 ?_
      refine lv_iconst (v := nI 1) hx hb dX1_put_59 (by decide) ?_
      refine lv_iadd hx hb dX1_put_60 ?_
      refine h_put (v := .int (nI (tbR f) + nI 1)) hx hb hts hi1 tyX1 tyX1_ok nmX1 hown hK0 hV0 hA0 hS he39 rfl 2 (by decide) hw11 rfl (by rfl) (by rfl) (Nat.le_of_ble_eq_true rfl) dX1_put_61 (fun H locs hV0 hA0 hS => ?_)
      rw [hput_hput] at hV0 hA0
      have he49 : (hput hp a (eO 1 [.ref w, .int (nI (szR f) + nI 1), .int (nI (tbR f) + nI 1), .int (nI (lsR f)), .int (grR f), .int (svR f)])) a = some (eO 1 [.ref w, .int (nI (szR f) + nI 1), .int (nI (tbR f) + nI 1), .int (nI (lsR f)), .int (grR f), .int (svR f)]) := hput_s _ _ _
      have he50 : (hput hp a (eO 1 [.ref w, .int (nI (szR f) + nI 1), .int (nI (tbR f) + nI 1), .int (nI (lsR f)), .int (grR f), .int (svR f)])) w = some (eI 64 f) := (hput_n _ _ (Ne.symm hne)).trans ((by first | exact he40 | exact (hput_n _ _ (Ne.symm hne)).symm.trans he40))
      refine lv_aload_n hx hb dX1_put_64 rfl (lv_at hl 1 rfl) ?_
      refine h_get (v := .ref w) hx hb hts hi1 hown hK0 hV0 he49 rfl 0 (by decide) hw0 rfl dX1_put_65 ?_
      refine lv_iload_n hx hb dX1_put_68 rfl (lv_at hl 2 rfl) ?_
      refine lv_iload_n hx hb dX1_put_69 rfl (lv_at hl 3 rfl) ?_
      refine h_iast (i := k) (x := v) hx hb hK0 hV0 hA0 hS he50 (by omega) (by omega) dX1_put_70 (fun H locs hV0 hA0 hS => ?_)
      have he51 : (hput (hput hp a (eO 1 [.ref w, .int (nI (szR f) + nI 1), .int (nI (tbR f) + nI 1), .int (nI (lsR f)), .int (grR f), .int (svR f)])) w (eI 64 (upd f (k) v))) w = some (eI 64 (upd f (k) v)) := hput_s _ _ _
      have he52 : (hput (hput hp a (eO 1 [.ref w, .int (nI (szR f) + nI 1), .int (nI (tbR f) + nI 1), .int (nI (lsR f)), .int (grR f), .int (svR f)])) w (eI 64 (upd f (k) v))) a = some (eO 1 [.ref w, .int (nI (szR f) + nI 1), .int (nI (tbR f) + nI 1), .int (nI (lsR f)), .int (grR f), .int (svR f)]) := (hput_n _ _ hne).trans ((by first | exact he49 | exact (hput_n _ _ hne).symm.trans he49))
      refine lv_aload_n hx hb dX1_put_71 rfl (lv_at hl 1 rfl) ?_
      refine lv_aload_n hx hb dX1_put_72 rfl (lv_at hl 1 rfl) ?_
      refine h_get (v := .int (nI (lsR f))) hx hb hts hi1 hown hK0 hV0 he52 rfl 3 (by decide) hw1 rfl dX1_put_73 ?_
      refine lv_iload_n hx hb dX1_put_76 rfl (lv_at hl 2 rfl) ?_
      refine va_mmin hx hb (hml.trans hl.1.symm) hown hw2 hw3 hw4 hw5 (Nat.le_of_ble_eq_true rfl) (Nat.le_of_ble_eq_true rfl) (Nat.le_of_ble_eq_true rfl) (Nat.le_of_ble_eq_true rfl) dX1_put_77 ?_
      refine h_put (v := .int ((if nI k < nI (lsR f) then nI k else nI (lsR f)))) hx hb hts hi1 tyX1 tyX1_ok nmX1 hown hK0 hV0 hA0 hS he52 rfl 3 (by decide) hw1 rfl (by rfl) (by rfl) (Nat.le_of_ble_eq_true rfl) dX1_put_80 (fun H locs hV0 hA0 hS => ?_)
      have he53 : (hput (hput (hput hp a (eO 1 [.ref w, .int (nI (szR f) + nI 1), .int (nI (tbR f) + nI 1), .int (nI (lsR f)), .int (grR f), .int (svR f)])) w (eI 64 (upd f (k) v))) a (eO 1 [.ref w, .int (nI (szR f) + nI 1), .int (nI (tbR f) + nI 1), .int ((if nI k < nI (lsR f) then nI k else nI (lsR f))), .int (grR f), .int (svR f)])) a = some (eO 1 [.ref w, .int (nI (szR f) + nI 1), .int (nI (tbR f) + nI 1), .int ((if nI k < nI (lsR f) then nI k else nI (lsR f))), .int (grR f), .int (svR f)]) := hput_s _ _ _
      have he54 : (hput (hput (hput hp a (eO 1 [.ref w, .int (nI (szR f) + nI 1), .int (nI (tbR f) + nI 1), .int (nI (lsR f)), .int (grR f), .int (svR f)])) w (eI 64 (upd f (k) v))) a (eO 1 [.ref w, .int (nI (szR f) + nI 1), .int (nI (tbR f) + nI 1), .int ((if nI k < nI (lsR f) then nI k else nI (lsR f))), .int (grR f), .int (svR f)])) w = some (eI 64 (upd f (k) v)) := (hput_n _ _ (Ne.symm hne)).trans ((by first | exact he51 | exact (hput_n _ _ (Ne.symm hne)).symm.trans he51))
      refine lv_aload_n hx hb dX1_put_83 rfl (lv_at hl 1 rfl) ?_
      refine lv_aload_n hx hb dX1_put_84 rfl (lv_at hl 1 rfl) ?_
      refine h_get (v := .int (grR f)) hx hb hts hi1 hown hK0 hV0 he53 rfl 4 (by decide) hw6 rfl dX1_put_85 ?_
      refine lv_iload_n hx hb dX1_put_88 rfl (lv_at hl 2 rfl) ?_
      refine va_mmax hx hb (hml.trans hl.1.symm) hown hw7 hw8 hw4 hw9 (Nat.le_of_ble_eq_true rfl) (Nat.le_of_ble_eq_true rfl) (Nat.le_of_ble_eq_true rfl) (Nat.le_of_ble_eq_true rfl) dX1_put_89 ?_
      refine h_put (v := .int ((if (grR f) < nI k then nI k else (grR f)))) hx hb hts hi1 tyX1 tyX1_ok nmX1 hown hK0 hV0 hA0 hS he53 rfl 4 (by decide) hw6 rfl (by rfl) (by rfl) (Nat.le_of_ble_eq_true rfl) dX1_put_92 (fun H locs hV0 hA0 hS => ?_)
      rw [hput_hput] at hV0 hA0
      have he55 : (hput (hput (hput hp a (eO 1 [.ref w, .int (nI (szR f) + nI 1), .int (nI (tbR f) + nI 1), .int (nI (lsR f)), .int (grR f), .int (svR f)])) w (eI 64 (upd f (k) v))) a (eO 1 [.ref w, .int (nI (szR f) + nI 1), .int (nI (tbR f) + nI 1), .int ((if nI k < nI (lsR f) then nI k else nI (lsR f))), .int ((if (grR f) < nI k then nI k else (grR f))), .int (svR f)])) a = some (eO 1 [.ref w, .int (nI (szR f) + nI 1), .int (nI (tbR f) + nI 1), .int ((if nI k < nI (lsR f) then nI k else nI (lsR f))), .int ((if (grR f) < nI k then nI k else (grR f))), .int (svR f)]) := hput_s _ _ _
      have he56 : (hput (hput (hput hp a (eO 1 [.ref w, .int (nI (szR f) + nI 1), .int (nI (tbR f) + nI 1), .int (nI (lsR f)), .int (grR f), .int (svR f)])) w (eI 64 (upd f (k) v))) a (eO 1 [.ref w, .int (nI (szR f) + nI 1), .int (nI (tbR f) + nI 1), .int ((if nI k < nI (lsR f) then nI k else nI (lsR f))), .int ((if (grR f) < nI k then nI k else (grR f))), .int (svR f)])) w = some (eI 64 (upd f (k) v)) := (hput_n _ _ (Ne.symm hne)).trans ((by first | exact he54 | exact (hput_n _ _ (Ne.symm hne)).symm.trans he54))
      refine lv_aload_n hx hb dX1_put_95 rfl (lv_at hl 1 rfl) ?_
      refine lv_dup hx hb dX1_put_96 rfl ?_
      refine h_get (v := .int (svR f)) hx hb hts hi1 hown hK0 hV0 he55 rfl 5 (by decide) hw10 rfl dX1_put_97 ?_
      refine lv_iconst (v := nI 1) hx hb dX1_put_100 (by decide) ?_
      refine lv_iload_n hx hb dX1_put_101 rfl (lv_at hl 2 rfl) ?_
      refine lv_bipush (v := nI 8) hx hb dX1_put_102 (by decide) ?_
      refine h_iremN hx hb (by omega) (by decide) (by decide) dX1_put_104 ?_
      refine lv_ishl hx hb dX1_put_105 ?_
      refine lv_ior hx hb dX1_put_106 ?_
      refine h_put (v := .int ((svR f) ||| (nI 1 <<< (nI (k % 8) &&& 31)))) hx hb hts hi1 tyX1 tyX1_ok nmX1 hown hK0 hV0 hA0 hS he55 rfl 5 (by decide) hw10 rfl (by rfl) (by rfl) (Nat.le_of_ble_eq_true rfl) dX1_put_107 (fun H locs hV0 hA0 hS => ?_)
      rw [hput_hput] at hV0 hA0
      have he57 : (hput (hput (hput hp a (eO 1 [.ref w, .int (nI (szR f) + nI 1), .int (nI (tbR f) + nI 1), .int (nI (lsR f)), .int (grR f), .int (svR f)])) w (eI 64 (upd f (k) v))) a (eO 1 [.ref w, .int (nI (szR f) + nI 1), .int (nI (tbR f) + nI 1), .int ((if nI k < nI (lsR f) then nI k else nI (lsR f))), .int ((if (grR f) < nI k then nI k else (grR f))), .int ((svR f) ||| (nI 1 <<< (nI (k % 8) &&& 31)))])) a = some (eO 1 [.ref w, .int (nI (szR f) + nI 1), .int (nI (tbR f) + nI 1), .int ((if nI k < nI (lsR f) then nI k else nI (lsR f))), .int ((if (grR f) < nI k then nI k else (grR f))), .int ((svR f) ||| (nI 1 <<< (nI (k % 8) &&& 31)))]) := hput_s _ _ _
      have he58 : (hput (hput (hput hp a (eO 1 [.ref w, .int (nI (szR f) + nI 1), .int (nI (tbR f) + nI 1), .int (nI (lsR f)), .int (grR f), .int (svR f)])) w (eI 64 (upd f (k) v))) a (eO 1 [.ref w, .int (nI (szR f) + nI 1), .int (nI (tbR f) + nI 1), .int ((if nI k < nI (lsR f) then nI k else nI (lsR f))), .int ((if (grR f) < nI k then nI k else (grR f))), .int ((svR f) ||| (nI 1 <<< (nI (k % 8) &&& 31)))])) w = some (eI 64 (upd f (k) v)) := (hput_n _ _ (Ne.symm hne)).trans ((by first | exact he56 | exact (hput_n _ _ (Ne.symm hne)).symm.trans he56))
      exact W.vret hx hb hr (h_qW ⟨rfl, by (try rw [hput_mid]); rw [slO_gen (w := w) hk hv (sz_1 hk hv c_21) (tb_nb hk (ne_2_1 c_21) c_51)]; rfl⟩ hV0 hA0 hS) hS.2.2 dX1_put_110 hlocks

set_option maxHeartbeats 4000000 in
set_option maxRecDepth 100000 in
theorem c_X1_init (l : Launch) (G : hG) (A : Nat → Prop) (hp : HP) (a : Nat) (he : hp a = some (eO 1 [.null, .int 0, .int 0, .int 0, .int 0, .int 0])) (hA0 : hIn A hp) : hWr l yX1_init wsX1_init 2 43 1 64 G A hp [.ref a] (fun ro hp' => ro = none ∧ ∃ w, hp w = none ∧ hp' = hput (hput hp w (eI 64 emR)) a (eO 1 (slO w emR))) := by
  refine Met.ofW (cc := cX1_init) (maxL := 1) (ret := none) (by decide) rfl ?_
  intro p e s m args below meth c s₁ B hml hv
  obtain ⟨rfl, hV0, hK0, hA⟩ := hv
  have hx := B.exec
  have hb := B.bytes
  have hr := B.returns
  have hts := atoms_spec (ws := wsX1_init) B.pre
  have hown : s.vm.findClass RX1 = some m.cls := findClass_of_methodNamed B.named
  have hlocks := B.notSynchronized
  have hin0 : meth.name = "<init>" := (name_of_methodNamed B.named B.method).1
  have hF : CallFix p m c cX1_init 1 s [.ref a].toArray wsX1_init RX1 := ⟨hx, hb, hml, hown, hts⟩
  have hw0 := hts (.methodLink RX1 3 objectInit) (by decide +kernel)
  have hw1 := hts (.instanceMethod objectInit) (by decide +kernel)
  have hw2 := hts (.code objectInit ⟨#[0xb1]⟩ 1 none) (by decide +kernel)
  have hw3 := hts (.arrayClass .int) (by decide +kernel)
  have hw4 := hts (.fieldLink RX1 9 "SlipLevels$Slips" "words" "[I") (by decide +kernel)
  have hi1 : ∀ w ∈ u_ws RX1 TX1 6, w ∈ wsX1_init := by
    intro w h
    unfold wsX1_init
    simp only [List.mem_cons, List.mem_append, h, true_or, or_true]
  have hS : va_S A s.heap s.heap [] := va_S.rf
  have hl := lv_entry ([.ref a]) (n := 1) (Nat.le_of_ble_eq_true rfl)
  rw [lg_entry_eq]
  generalize (lg_sl ([.ref a]) ++ List.replicate (1 - (lg_sl ([.ref a])).length) Slot.unset).toArray = ls at hl ⊢
  replace hl : lv_has ls 1 [(0, .ref a)] := hl
  refine lv_aload_n hx hb dX1_init_0 rfl (lv_at hl 0 rfl) ?_
  refine W.objInit hx hb hown hw0 hw1 hw2 rfl (by rw [hml]; exact hl.1) rfl dX1_init_1 (Nat.le_of_ble_eq_true rfl) (Nat.le_of_ble_eq_true rfl) ?_
  refine W.eq (g2 := F0 m 4 ls []) rfl ?_
  refine lv_aload_n hx hb dX1_init_4 rfl (lv_at hl 0 rfl) ?_
  refine lv_bipush (v := nI 64) hx hb dX1_init_5 (by decide) ?_
  refine h_newI hx hb hw3 hK0 hV0 hA0 hS hA (n := 64) (by omega) (Nat.le_of_ble_eq_true rfl) (Nat.le_of_ble_eq_true rfl) dX1_init_7 (fun q1 H hqq1 hV0 hA0 hS => ?_)
  have hn_q1_a : a ≠ q1 := fun h => absurd ((he).symm.trans ((congrArg hp h).trans hqq1)) (fun h => by cases h)
  have he2 : (hput hp q1 (eI 64 (fun _ => 0))) q1 = some (eI 64 (fun _ => 0)) := hput_s _ _ _
  have he3 : (hput hp q1 (eI 64 (fun _ => 0))) a = some (eO 1 [.null, .int 0, .int 0, .int 0, .int 0, .int 0]) := (hput_n _ _ hn_q1_a).trans he
  refine h_putF (v := .ref q1) hx hb hts hi1 tyX1 tyX1_ok nmX1 hown hK0 hV0 hA0 hS he3 rfl 0 (by decide) hw4 rfl hin0 rfl (by rfl) (by rfl) (Nat.le_of_ble_eq_true rfl) dX1_init_9 (fun H locs hV0 hA0 hS => ?_)
  have he4 : (hput (hput hp q1 (eI 64 (fun _ => 0))) a (eO 1 [.ref q1, .int 0, .int 0, .int 0, .int 0, .int 0])) a = some (eO 1 [.ref q1, .int 0, .int 0, .int 0, .int 0, .int 0]) := hput_s _ _ _
  have he5 : (hput (hput hp q1 (eI 64 (fun _ => 0))) a (eO 1 [.ref q1, .int 0, .int 0, .int 0, .int 0, .int 0])) q1 = some (eI 64 (fun _ => 0)) := (hput_n _ _ (Ne.symm hn_q1_a)).trans ((by first | exact he2 | exact (hput_n _ _ (Ne.symm hn_q1_a)).symm.trans he2))
  refine lv_aload_n hx hb dX1_init_12 rfl (lv_at hl 0 rfl) ?_
  refine h_wrV (As := []) (rest := []) hF (c_X1_clear l G A (hput (hput hp q1 (eI 64 (fun _ => 0))) a (eO 1 [.ref q1, .int 0, .int 0, .int 0, .int 0, .int 0])) a q1 (fun _ => 0) 0 0 0 0 0 he4 he5 hA0) 0 gX1_init_X1_clear rfl (by decide +kernel) ⟨Nat.le_of_ble_eq_true rfl, Nat.le_of_ble_eq_true rfl⟩ hK0 hV0 hA hS he4 rfl rfl rfl hl.1 rfl (Nat.le_of_ble_eq_true rfl) ⟨Nat.le_of_ble_eq_true rfl, Nat.le_of_ble_eq_true rfl⟩ dX1_init_13 (fun ro hp1 H locs hP1 hV0 hA0 hS => ?_)
  obtain ⟨rfl, rfl⟩ := hP1
  exact W.vret hx hb hr (h_qW ⟨rfl, _, hqq1, init_eq _ _ _ _ _ _ _⟩ hV0 hA0 hS) hS.2.2 dX1_init_16 hlocks
end
section
/-! THE CLASS' STATE: 61 cells at addresses ad 0 .. ad 60, what they hold by a state of rows, counts and numbers.
Slips j (j < 27): 0 the desk's, 1 + 13 k + i row i of binder k, 13 + 13 k its 'merged'. -/
abbrev CS : Type := (Nat → Row) × (Nat → Nat → Nat) × (Nat → Int32) × (Nat → Int32) × Int32 × Int32
def sF (S : CS) : Nat → Row := S.1
def sN (S : CS) : Nat → Nat → Nat := S.2.1
def sV (S : CS) : Nat → Int32 := S.2.2.1
def sG (S : CS) : Nat → Int32 := S.2.2.2.1
def sR (S : CS) : Int32 := S.2.2.2.2.1
def sD (S : CS) : Int32 := S.2.2.2.2.2
def uF (S : CS) (j : Nat) (f : Row) : CS := (fun i => if i = j then f else sF S i, sN S, sV S, sG S, sR S, sD S)
def uN (S : CS) (k l v : Nat) : CS := (sF S, fun k2 l2 => if k2 = k ∧ l2 = l then v else sN S k2 l2, sV S, sG S, sR S, sD S)
def uV (S : CS) (k : Nat) (v : Int32) : CS := (sF S, sN S, fun k2 => if k2 = k then v else sV S k2, sG S, sR S, sD S)
def uG (S : CS) (k : Nat) (v : Int32) : CS := (sF S, sN S, sV S, fun k2 => if k2 = k then v else sG S k2, sR S, sD S)
def uR (S : CS) (v : Int32) : CS := (sF S, sN S, sV S, sG S, v, sD S)
def uD (S : CS) (v : Int32) : CS := (sF S, sN S, sV S, sG S, sR S, v)
def aS (ad : Nat → Nat) (j : Nat) : Nat := ad (2 * j)
def aW (ad : Nat → Nat) (j : Nat) : Nat := ad (2 * j + 1)
def aB (ad : Nat → Nat) (k : Nat) : Nat := ad (54 + 3 * k)
def aQ (ad : Nat → Nat) (k : Nat) : Nat := ad (55 + 3 * k)
def aN (ad : Nat → Nat) (k : Nat) : Nat := ad (56 + 3 * k)
def aX (ad : Nat → Nat) : Nat := ad 60
abbrev boO (ad : Nat → Nat) (S : CS) (k : Nat) : List Value := [.ref (aQ ad k), .ref (aN ad k), .ref (aS ad (13 + 13 * k)), .int (sV S k), .int (sG S k)]
abbrev xO (ad : Nat → Nat) (S : CS) : List Value := [.ref (aS ad 0), .ref (aB ad 0), .ref (aB ad 1), .int (sR S), .int (sD S)]
def cE (ad : Nat → Nat) (S : CS) (key : Nat) : hE :=
  if key < 54 then (if key % 2 = 0 then eO 1 (slO (aW ad (key / 2)) (sF S (key / 2))) else eI 64 (sF S (key / 2)))
  else if key = 60 then eO 2 (xO ad S)
  else if (key - 54) % 3 = 0 then eO 0 (boO ad S ((key - 54) / 3))
  else if (key - 54) % 3 = 1 then eQ 2 12 (fun i => some (aS ad (1 + 13 * ((key - 54) / 3) + i)))
  else eI 4 (fun l => nI (sN S ((key - 54) / 3) l))
def cOk (S : CS) : Prop := (∀ j, okR (sF S j)) ∧ (∀ k l, sN S k l ≤ 3) ∧ ∀ k l, 4 ≤ l → sN S k l = 0
def cW (ad : Nat → Nat) (S : CS) (hp : HP) : Prop := (∀ i j, i < 61 → j < 61 → ad i = ad j → i = j) ∧ cOk S ∧ ∀ key, key < 61 → hp (ad key) = some (cE ad S key)
def cFr (ad : Nat → Nat) (hp hp' : HP) : Prop := ∀ q, (∀ key, key < 61 → q ≠ ad key) → hp' q = hp q
theorem cFr.rf {ad : Nat → Nat} {hp : HP} : cFr ad hp hp := fun _ _ => rfl
theorem cFr.tr {ad : Nat → Nat} {h1 h2 h3 : HP} (a : cFr ad h1 h2) (b : cFr ad h2 h3) : cFr ad h1 h3 := fun q hq => (b q hq).trans (a q hq)
theorem cFr.put {ad : Nat → Nat} {h1 h2 : HP} (a : cFr ad h1 h2) {key : Nat} (hk : key < 61) (e : hE) : cFr ad h1 (hput h2 (ad key) e) := fun q hq => (hput_n _ _ (hq key hk)).trans (a q hq)
theorem cW.sl {ad : Nat → Nat} {S : CS} {hp : HP} (h : cW ad S hp) {j : Nat} (hj : j < 27) : slAt hp (aS ad j) (aW ad j) (sF S j) := by
  have h1 := h.2.2 (2 * j) (by omega)
  have h2 := h.2.2 (2 * j + 1) (by omega)
  unfold cE at h1 h2
  rw [if_pos (by omega), if_pos (by omega), show 2 * j / 2 = j by omega] at h1
  rw [if_pos (by omega), if_neg (by omega), show (2 * j + 1) / 2 = j by omega] at h2
  exact ⟨h1, h2⟩
theorem cW.bo {ad : Nat → Nat} {S : CS} {hp : HP} (h : cW ad S hp) {k : Nat} (hk : k < 2) : hp (aB ad k) = some (eO 0 (boO ad S k)) := by
  have h1 := h.2.2 (54 + 3 * k) (by omega)
  unfold cE at h1
  rw [if_neg (by omega), if_neg (by omega), if_pos (by omega), show (54 + 3 * k - 54) / 3 = k by omega] at h1
  exact h1
theorem cW.bq {ad : Nat → Nat} {S : CS} {hp : HP} (h : cW ad S hp) {k : Nat} (hk : k < 2) : hp (aQ ad k) = some (eQ 2 12 (fun i => some (aS ad (1 + 13 * k + i)))) := by
  have h1 := h.2.2 (55 + 3 * k) (by omega)
  unfold cE at h1
  rw [if_neg (by omega), if_neg (by omega), if_neg (by omega), if_pos (by omega), show (55 + 3 * k - 54) / 3 = k by omega] at h1
  exact h1
theorem cW.bn {ad : Nat → Nat} {S : CS} {hp : HP} (h : cW ad S hp) {k : Nat} (hk : k < 2) : hp (aN ad k) = some (eI 4 (fun l => nI (sN S k l))) := by
  have h1 := h.2.2 (56 + 3 * k) (by omega)
  unfold cE at h1
  rw [if_neg (by omega), if_neg (by omega), if_neg (by omega), if_neg (by omega), show (56 + 3 * k - 54) / 3 = k by omega] at h1
  exact h1
theorem cW.xo {ad : Nat → Nat} {S : CS} {hp : HP} (h : cW ad S hp) : hp (aX ad) = some (eO 2 (xO ad S)) := by
  have h1 := h.2.2 60 (by omega)
  unfold cE at h1
  rw [if_neg (by omega), if_pos rfl] at h1
  exact h1
theorem cW.ok {ad : Nat → Nat} {S : CS} {hp : HP} (h : cW ad S hp) : cOk S := h.2.1
/-- one cell more is written: the state behind it -/
theorem cW.put {ad : Nat → Nat} {S S' : CS} {hp : HP} (h : cW ad S hp) {key : Nat} (hk : key < 61) {e : hE} (hok : cOk S') (he : cE ad S' key = e) (ho : ∀ q, q < 61 → q ≠ key → cE ad S' q = cE ad S q) : cW ad S' (hput hp (ad key) e) := by
  refine ⟨h.1, hok, fun q hq => ?_⟩
  by_cases e1 : q = key
  · subst e1
    rw [hput_s, he]
  · rw [hput_n _ _ (fun z => e1 (h.1 q key hq hk z)), ho q hq e1]
    exact h.2.2 q hq
theorem cW.put2 {ad : Nat → Nat} {S S' : CS} {hp : HP} (h : cW ad S hp) {key key2 : Nat} (hk : key < 61) (hk2 : key2 < 61) {e e2 : hE} (hne : key ≠ key2) (hok : cOk S') (he : cE ad S' key = e) (he2 : cE ad S' key2 = e2) (ho : ∀ q, q < 61 → q ≠ key → q ≠ key2 → cE ad S' q = cE ad S q) : cW ad S' (hput (hput hp (ad key) e) (ad key2) e2) := by
  refine ⟨h.1, hok, fun q hq => ?_⟩
  by_cases e2 : q = key2
  · subst e2
    rw [hput_s, he2]
  · rw [hput_n _ _ (fun z => e2 (h.1 q key2 hq hk2 z))]
    by_cases e1 : q = key
    · subst e1
      rw [hput_s, he]
    · rw [hput_n _ _ (fun z => e1 (h.1 q key hq hk z)), ho q hq e1 e2]
      exact h.2.2 q hq
theorem cOk.uF {S : CS} (h : cOk S) (j : Nat) {f : Row} (hf : okR f) : cOk (uF S j f) := by
  refine ⟨fun i => ?_, h.2⟩
  show okR (if i = j then f else sF S i)
  split
  · exact hf
  · exact h.1 i
theorem cOk.uN {S : CS} (h : cOk S) (k : Nat) {l v : Nat} (hl : l < 4) (hv : v ≤ 3) : cOk (uN S k l v) := by
  refine ⟨h.1, fun k2 l2 => ?_, fun k2 l2 h4 => ?_⟩
  · show (if k2 = k ∧ l2 = l then v else sN S k2 l2) ≤ 3
    split
    · exact hv
    · exact h.2.1 k2 l2
  · show (if k2 = k ∧ l2 = l then v else sN S k2 l2) = 0
    rw [if_neg (fun z => by omega)]
    exact h.2.2 k2 l2 h4
theorem cW.setF {ad : Nat → Nat} {S : CS} {hp : HP} (h : cW ad S hp) {j : Nat} (hj : j < 27) {f : Row} (hf : okR f) : cW ad (uF S j f) (hput (hput hp (aW ad j) (eI 64 f)) (aS ad j) (eO 1 (slO (aW ad j) f))) := by
  refine h.put2 (key := 2 * j + 1) (key2 := 2 * j) (by omega) (by omega) (by omega) (h.ok.uF j hf) ?_ ?_ (fun q hq h1 h2 => ?_)
  · unfold cE
    rw [if_pos (by omega), if_neg (by omega), show (2 * j + 1) / 2 = j by omega]
    show eI 64 (if j = j then f else sF S j) = _
    rw [if_pos rfl]
  · unfold cE
    rw [if_pos (by omega), if_pos (by omega), show 2 * j / 2 = j by omega]
    show eO 1 (slO (aW ad j) (if j = j then f else sF S j)) = _
    rw [if_pos rfl]
  · unfold cE
    by_cases h3 : q < 54
    · rw [if_pos h3, if_pos h3]
      have e : sF (uF S j f) (q / 2) = sF S (q / 2) := if_neg (by omega)
      rw [e]
    · rw [if_neg h3, if_neg h3]
      rfl
theorem cFr.setF {ad : Nat → Nat} {h1 h2 : HP} (a : cFr ad h1 h2) {j : Nat} (hj : j < 27) (e e2 : hE) : cFr ad h1 (hput (hput h2 (aW ad j) e) (aS ad j) e2) := (a.put (key := 2 * j + 1) (by omega) e).put (key := 2 * j) (by omega) e2
theorem cW.setN {ad : Nat → Nat} {S : CS} {hp : HP} (h : cW ad S hp) {k : Nat} (hk : k < 2) {l v : Nat} (hl : l < 4) (hv : v ≤ 3) : cW ad (uN S k l v) (hput hp (aN ad k) (eI 4 (upd (fun l => nI (sN S k l)) l (nI v)))) := by
  refine h.put (key := 56 + 3 * k) (by omega) (h.ok.uN k hl hv) ?_ (fun q hq h1 => ?_)
  · unfold cE
    rw [if_neg (by omega), if_neg (by omega), if_neg (by omega), if_neg (by omega), show (56 + 3 * k - 54) / 3 = k by omega]
    congr 3
    funext l2
    show nI (if k = k ∧ l2 = l then v else sN S k l2) = _
    unfold upd
    by_cases e : l2 = l <;> simp [e]
  · unfold cE
    split
    · rfl
    · split
      · rfl
      · split
        · rfl
        · split
          · rfl
          · rename_i h2 h3 h4 h5
            have e : ∀ l2, sN (uN S k l v) ((q - 54) / 3) l2 = sN S ((q - 54) / 3) l2 := fun l2 => if_neg (fun z => by omega)
            simp only [e]
theorem cFr.setN {ad : Nat → Nat} {h1 h2 : HP} (a : cFr ad h1 h2) {k : Nat} (hk : k < 2) (e : hE) : cFr ad h1 (hput h2 (aN ad k) e) := a.put (key := 56 + 3 * k) (by omega) e
theorem cE_bo {ad : Nat → Nat} {S S' : CS} {k : Nat} (hk : k < 2) (h1 : sF S' = sF S) (h2 : sN S' = sN S) (h3 : sR S' = sR S) (h4 : sD S' = sD S) (h5 : ∀ k2, k2 ≠ k → sV S' k2 = sV S k2) (h6 : ∀ k2, k2 ≠ k → sG S' k2 = sG S k2) : ∀ q, q < 61 → q ≠ 54 + 3 * k → cE ad S' q = cE ad S q := by
  intro q hq hne
  unfold cE boO xO
  rw [h1, h2, h3, h4]
  split
  · rfl
  · split
    · rfl
    · split
      · rw [h5 _ (by omega), h6 _ (by omega)]
      · rfl
theorem cW.setV {ad : Nat → Nat} {S : CS} {hp : HP} (h : cW ad S hp) {k : Nat} (hk : k < 2) (v : Int32) : cW ad (uV S k v) (hput hp (aB ad k) (eO 0 [.ref (aQ ad k), .ref (aN ad k), .ref (aS ad (13 + 13 * k)), .int v, .int (sG S k)])) := by
  refine h.put (key := 54 + 3 * k) (by omega) h.ok ?_ (cE_bo hk rfl rfl rfl rfl (fun k2 e => if_neg e) (fun _ _ => rfl))
  unfold cE
  rw [if_neg (by omega), if_neg (by omega), if_pos (by omega), show (54 + 3 * k - 54) / 3 = k by omega]
  show eO 0 [.ref (aQ ad k), .ref (aN ad k), .ref (aS ad (13 + 13 * k)), .int (if k = k then v else sV S k), .int (sG S k)] = _
  rw [if_pos rfl]
theorem cW.setG {ad : Nat → Nat} {S : CS} {hp : HP} (h : cW ad S hp) {k : Nat} (hk : k < 2) (v : Int32) : cW ad (uG S k v) (hput hp (aB ad k) (eO 0 [.ref (aQ ad k), .ref (aN ad k), .ref (aS ad (13 + 13 * k)), .int (sV S k), .int v])) := by
  refine h.put (key := 54 + 3 * k) (by omega) h.ok ?_ (cE_bo hk rfl rfl rfl rfl (fun _ _ => rfl) (fun k2 e => if_neg e))
  unfold cE
  rw [if_neg (by omega), if_neg (by omega), if_pos (by omega), show (54 + 3 * k - 54) / 3 = k by omega]
  show eO 0 [.ref (aQ ad k), .ref (aN ad k), .ref (aS ad (13 + 13 * k)), .int (sV S k), .int (if k = k then v else sG S k)] = _
  rw [if_pos rfl]
theorem cFr.setB {ad : Nat → Nat} {h1 h2 : HP} (a : cFr ad h1 h2) {k : Nat} (hk : k < 2) (e : hE) : cFr ad h1 (hput h2 (aB ad k) e) := a.put (key := 54 + 3 * k) (by omega) e
theorem cE_x {ad : Nat → Nat} {S S' : CS} (h1 : sF S' = sF S) (h2 : sN S' = sN S) (h5 : sV S' = sV S) (h6 : sG S' = sG S) : ∀ q, q < 61 → q ≠ 60 → cE ad S' q = cE ad S q := by
  intro q hq hne
  unfold cE boO
  rw [h1, h2, h5, h6]
  split
  · rfl
  · rfl
theorem cW.setR {ad : Nat → Nat} {S : CS} {hp : HP} (h : cW ad S hp) (v : Int32) : cW ad (uR S v) (hput hp (aX ad) (eO 2 [.ref (aS ad 0), .ref (aB ad 0), .ref (aB ad 1), .int v, .int (sD S)])) := by
  refine h.put (key := 60) (by omega) h.ok ?_ (cE_x rfl rfl rfl rfl)
  unfold cE
  rw [if_neg (by omega), if_pos rfl]
  rfl
theorem cW.setD {ad : Nat → Nat} {S : CS} {hp : HP} (h : cW ad S hp) (v : Int32) : cW ad (uD S v) (hput hp (aX ad) (eO 2 [.ref (aS ad 0), .ref (aB ad 0), .ref (aB ad 1), .int (sR S), .int v])) := by
  refine h.put (key := 60) (by omega) h.ok ?_ (cE_x rfl rfl rfl rfl)
  unfold cE
  rw [if_neg (by omega), if_pos rfl]
  rfl
theorem cFr.setX {ad : Nat → Nat} {h1 h2 : HP} (a : cFr ad h1 h2) (e : hE) : cFr ad h1 (hput h2 (aX ad) e) := a.put (key := 60) (by omega) e
theorem cW.ne {ad : Nat → Nat} {S : CS} {hp : HP} (h : cW ad S hp) {i j : Nat} (hi : i < 27) (hj : j < 27) (hij : i ≠ j) : aS ad i ≠ aS ad j ∧ aW ad i ≠ aW ad j :=
  ⟨fun e => by have := h.1 (2 * i) (2 * j) (by omega) (by omega) e; omega, fun e => by have := h.1 (2 * i + 1) (2 * j + 1) (by omega) (by omega) e; omega⟩
/-- the r-th latest run of level l of binder k -/
def gC (S : CS) (k l r : Nat) : Row := if r < sN S k l then sF S (1 + 13 * k + (3 * l + (sN S k l - 1 - r))) else emR
end
section
set_option maxRecDepth 20000 in
theorem ggX0_init_X1_init : GoodIn wsX0_init wsX1_init := goodIn_r _ [15, 16, 2, 3, 6, 17, 18, 19, 20, 9, 21, 22, 23, 24, 25, 26, 27, 28, 29, 30, 36, 37, 38, 39, 40, 41] (by decide +kernel) (by decide +kernel)
set_option maxRecDepth 20000 in
theorem gX0_init_X1_init : GoodIn wsX0_init (wsX1_init) := ggX0_init_X1_init
theorem dX0_init_0 : decode cX0_init 0 = .ok (.aload_n 0, 1) := by decide +kernel
theorem dX0_init_1 : decode cX0_init 1 = .ok (.invokespecial 3, 3) := by decide +kernel
theorem dX0_init_4 : decode cX0_init 4 = .ok (.aload_n 0, 1) := by decide +kernel
theorem dX0_init_5 : decode cX0_init 5 = .ok (.bipush 12, 2) := by decide +kernel
theorem dX0_init_7 : decode cX0_init 7 = .ok (.anewarray 9, 3) := by decide +kernel
theorem dX0_init_10 : decode cX0_init 10 = .ok (.putfield 11, 3) := by decide +kernel
theorem dX0_init_13 : decode cX0_init 13 = .ok (.aload_n 0, 1) := by decide +kernel
theorem dX0_init_14 : decode cX0_init 14 = .ok (.iconst 4, 1) := by decide +kernel
theorem dX0_init_15 : decode cX0_init 15 = .ok (.newarray .int, 2) := by decide +kernel
theorem dX0_init_17 : decode cX0_init 17 = .ok (.putfield 17, 3) := by decide +kernel
theorem dX0_init_20 : decode cX0_init 20 = .ok (.aload_n 0, 1) := by decide +kernel
theorem dX0_init_21 : decode cX0_init 21 = .ok (.new 9, 3) := by decide +kernel
theorem dX0_init_24 : decode cX0_init 24 = .ok (.dup, 1) := by decide +kernel
theorem dX0_init_25 : decode cX0_init 25 = .ok (.invokespecial 21, 3) := by decide +kernel
theorem dX0_init_28 : decode cX0_init 28 = .ok (.putfield 22, 3) := by decide +kernel
theorem dX0_init_31 : decode cX0_init 31 = .ok (.iconst 0, 1) := by decide +kernel
theorem dX0_init_32 : decode cX0_init 32 = .ok (.istore_n 1, 1) := by decide +kernel
theorem dX0_init_33 : decode cX0_init 33 = .ok (.iload_n 1, 1) := by decide +kernel
theorem dX0_init_34 : decode cX0_init 34 = .ok (.aload_n 0, 1) := by decide +kernel
theorem dX0_init_35 : decode cX0_init 35 = .ok (.getfield 11, 3) := by decide +kernel
theorem dX0_init_38 : decode cX0_init 38 = .ok (.arraylength, 1) := by decide +kernel
theorem dX0_init_39 : decode cX0_init 39 = .ok (.if_icmp .ge 22, 3) := by decide +kernel
theorem dX0_init_42 : decode cX0_init 42 = .ok (.aload_n 0, 1) := by decide +kernel
theorem dX0_init_43 : decode cX0_init 43 = .ok (.getfield 11, 3) := by decide +kernel
theorem dX0_init_46 : decode cX0_init 46 = .ok (.iload_n 1, 1) := by decide +kernel
theorem dX0_init_47 : decode cX0_init 47 = .ok (.new 9, 3) := by decide +kernel
theorem dX0_init_50 : decode cX0_init 50 = .ok (.dup, 1) := by decide +kernel
theorem dX0_init_51 : decode cX0_init 51 = .ok (.invokespecial 21, 3) := by decide +kernel
theorem dX0_init_54 : decode cX0_init 54 = .ok (.aastore, 1) := by decide +kernel
theorem dX0_init_55 : decode cX0_init 55 = .ok (.iinc 1 1, 3) := by decide +kernel
theorem dX0_init_58 : decode cX0_init 58 = .ok (.goto (-25), 3) := by decide +kernel
theorem dX0_init_61 : decode cX0_init 61 = .ok (.aload_n 0, 1) := by decide +kernel
theorem dX0_init_62 : decode cX0_init 62 = .ok (.iconst 0, 1) := by decide +kernel
theorem dX0_init_63 : decode cX0_init 63 = .ok (.putfield 26, 3) := by decide +kernel
theorem dX0_init_66 : decode cX0_init 66 = .ok (.aload_n 0, 1) := by decide +kernel
theorem dX0_init_67 : decode cX0_init 67 = .ok (.iconst 0, 1) := by decide +kernel
theorem dX0_init_68 : decode cX0_init 68 = .ok (.putfield 30, 3) := by decide +kernel
theorem dX0_init_71 : decode cX0_init 71 = .ok (.return_, 1) := by decide +kernel
theorem dX0_moves_0 : decode cX0_moves 0 = .ok (.aload_n 0, 1) := by decide +kernel
theorem dX0_moves_1 : decode cX0_moves 1 = .ok (.getfield 26, 3) := by decide +kernel
theorem dX0_moves_4 : decode cX0_moves 4 = .ok (.ireturn, 1) := by decide +kernel
theorem dX0_mergings_0 : decode cX0_mergings 0 = .ok (.aload_n 0, 1) := by decide +kernel
theorem dX0_mergings_1 : decode cX0_mergings 1 = .ok (.getfield 30, 3) := by decide +kernel
theorem dX0_mergings_4 : decode cX0_mergings 4 = .ok (.ireturn, 1) := by decide +kernel
theorem dX0_runsOf_0 : decode cX0_runsOf 0 = .ok (.iload_n 1, 1) := by decide +kernel
theorem dX0_runsOf_1 : decode cX0_runsOf 1 = .ok (.ifCond .lt 8, 3) := by decide +kernel
theorem dX0_runsOf_4 : decode cX0_runsOf 4 = .ok (.iload_n 1, 1) := by decide +kernel
theorem dX0_runsOf_5 : decode cX0_runsOf 5 = .ok (.iconst 4, 1) := by decide +kernel
theorem dX0_runsOf_6 : decode cX0_runsOf 6 = .ok (.if_icmp .lt 7, 3) := by decide +kernel
theorem dX0_runsOf_9 : decode cX0_runsOf 9 = .ok (.iconst 0, 1) := by decide +kernel
theorem dX0_runsOf_10 : decode cX0_runsOf 10 = .ok (.goto 9, 3) := by decide +kernel
theorem dX0_runsOf_13 : decode cX0_runsOf 13 = .ok (.aload_n 0, 1) := by decide +kernel
theorem dX0_runsOf_14 : decode cX0_runsOf 14 = .ok (.getfield 17, 3) := by decide +kernel
theorem dX0_runsOf_17 : decode cX0_runsOf 17 = .ok (.iload_n 1, 1) := by decide +kernel
theorem dX0_runsOf_18 : decode cX0_runsOf 18 = .ok (.iaload, 1) := by decide +kernel
theorem dX0_runsOf_19 : decode cX0_runsOf 19 = .ok (.ireturn, 1) := by decide +kernel
theorem dX0_runAt_0 : decode cX0_runAt 0 = .ok (.iload_n 1, 1) := by decide +kernel
theorem dX0_runAt_1 : decode cX0_runAt 1 = .ok (.ifCond .lt 22, 3) := by decide +kernel
theorem dX0_runAt_4 : decode cX0_runAt 4 = .ok (.iload_n 1, 1) := by decide +kernel
theorem dX0_runAt_5 : decode cX0_runAt 5 = .ok (.iconst 4, 1) := by decide +kernel
theorem dX0_runAt_6 : decode cX0_runAt 6 = .ok (.if_icmp .ge 17, 3) := by decide +kernel
theorem dX0_runAt_9 : decode cX0_runAt 9 = .ok (.iload_n 2, 1) := by decide +kernel
theorem dX0_runAt_10 : decode cX0_runAt 10 = .ok (.ifCond .lt 13, 3) := by decide +kernel
theorem dX0_runAt_13 : decode cX0_runAt 13 = .ok (.iload_n 2, 1) := by decide +kernel
theorem dX0_runAt_14 : decode cX0_runAt 14 = .ok (.aload_n 0, 1) := by decide +kernel
theorem dX0_runAt_15 : decode cX0_runAt 15 = .ok (.getfield 17, 3) := by decide +kernel
theorem dX0_runAt_18 : decode cX0_runAt 18 = .ok (.iload_n 1, 1) := by decide +kernel
theorem dX0_runAt_19 : decode cX0_runAt 19 = .ok (.iaload, 1) := by decide +kernel
theorem dX0_runAt_20 : decode cX0_runAt 20 = .ok (.if_icmp .lt 5, 3) := by decide +kernel
theorem dX0_runAt_23 : decode cX0_runAt 23 = .ok (.aconst_null, 1) := by decide +kernel
theorem dX0_runAt_24 : decode cX0_runAt 24 = .ok (.areturn, 1) := by decide +kernel
theorem dX0_runAt_25 : decode cX0_runAt 25 = .ok (.iload_n 1, 1) := by decide +kernel
theorem dX0_runAt_26 : decode cX0_runAt 26 = .ok (.iconst 3, 1) := by decide +kernel
theorem dX0_runAt_27 : decode cX0_runAt 27 = .ok (.imul, 1) := by decide +kernel
theorem dX0_runAt_28 : decode cX0_runAt 28 = .ok (.aload_n 0, 1) := by decide +kernel
theorem dX0_runAt_29 : decode cX0_runAt 29 = .ok (.getfield 17, 3) := by decide +kernel
theorem dX0_runAt_32 : decode cX0_runAt 32 = .ok (.iload_n 1, 1) := by decide +kernel
theorem dX0_runAt_33 : decode cX0_runAt 33 = .ok (.iaload, 1) := by decide +kernel
theorem dX0_runAt_34 : decode cX0_runAt 34 = .ok (.iadd, 1) := by decide +kernel
theorem dX0_runAt_35 : decode cX0_runAt 35 = .ok (.iconst 1, 1) := by decide +kernel
theorem dX0_runAt_36 : decode cX0_runAt 36 = .ok (.isub, 1) := by decide +kernel
theorem dX0_runAt_37 : decode cX0_runAt 37 = .ok (.iload_n 2, 1) := by decide +kernel
theorem dX0_runAt_38 : decode cX0_runAt 38 = .ok (.isub, 1) := by decide +kernel
theorem dX0_runAt_39 : decode cX0_runAt 39 = .ok (.istore_n 3, 1) := by decide +kernel
theorem dX0_runAt_40 : decode cX0_runAt 40 = .ok (.iload_n 3, 1) := by decide +kernel
theorem dX0_runAt_41 : decode cX0_runAt 41 = .ok (.ifCond .lt 12, 3) := by decide +kernel
theorem dX0_runAt_44 : decode cX0_runAt 44 = .ok (.iload_n 3, 1) := by decide +kernel
theorem dX0_runAt_45 : decode cX0_runAt 45 = .ok (.aload_n 0, 1) := by decide +kernel
theorem dX0_runAt_46 : decode cX0_runAt 46 = .ok (.getfield 11, 3) := by decide +kernel
theorem dX0_runAt_49 : decode cX0_runAt 49 = .ok (.arraylength, 1) := by decide +kernel
theorem dX0_runAt_50 : decode cX0_runAt 50 = .ok (.if_icmp .lt 7, 3) := by decide +kernel
theorem dX0_runAt_53 : decode cX0_runAt 53 = .ok (.aconst_null, 1) := by decide +kernel
theorem dX0_runAt_54 : decode cX0_runAt 54 = .ok (.goto 9, 3) := by decide +kernel
theorem dX0_runAt_57 : decode cX0_runAt 57 = .ok (.aload_n 0, 1) := by decide +kernel
theorem dX0_runAt_58 : decode cX0_runAt 58 = .ok (.getfield 11, 3) := by decide +kernel
theorem dX0_runAt_61 : decode cX0_runAt 61 = .ok (.iload_n 3, 1) := by decide +kernel
theorem dX0_runAt_62 : decode cX0_runAt 62 = .ok (.aaload, 1) := by decide +kernel
theorem dX0_runAt_63 : decode cX0_runAt 63 = .ok (.areturn, 1) := by decide +kernel
theorem dX0_rowAt_0 : decode cX0_rowAt 0 = .ok (.iload_n 1, 1) := by decide +kernel
theorem dX0_rowAt_1 : decode cX0_rowAt 1 = .ok (.ifCond .lt 17, 3) := by decide +kernel
theorem dX0_rowAt_4 : decode cX0_rowAt 4 = .ok (.iload_n 1, 1) := by decide +kernel
theorem dX0_rowAt_5 : decode cX0_rowAt 5 = .ok (.iconst 4, 1) := by decide +kernel
theorem dX0_rowAt_6 : decode cX0_rowAt 6 = .ok (.if_icmp .ge 12, 3) := by decide +kernel
theorem dX0_rowAt_9 : decode cX0_rowAt 9 = .ok (.iload_n 2, 1) := by decide +kernel
theorem dX0_rowAt_10 : decode cX0_rowAt 10 = .ok (.ifCond .lt 8, 3) := by decide +kernel
theorem dX0_rowAt_13 : decode cX0_rowAt 13 = .ok (.iload_n 2, 1) := by decide +kernel
theorem dX0_rowAt_14 : decode cX0_rowAt 14 = .ok (.iconst 3, 1) := by decide +kernel
theorem dX0_rowAt_15 : decode cX0_rowAt 15 = .ok (.if_icmp .lt 5, 3) := by decide +kernel
theorem dX0_rowAt_18 : decode cX0_rowAt 18 = .ok (.aconst_null, 1) := by decide +kernel
theorem dX0_rowAt_19 : decode cX0_rowAt 19 = .ok (.areturn, 1) := by decide +kernel
theorem dX0_rowAt_20 : decode cX0_rowAt 20 = .ok (.aload_n 0, 1) := by decide +kernel
theorem dX0_rowAt_21 : decode cX0_rowAt 21 = .ok (.getfield 11, 3) := by decide +kernel
theorem dX0_rowAt_24 : decode cX0_rowAt 24 = .ok (.iload_n 1, 1) := by decide +kernel
theorem dX0_rowAt_25 : decode cX0_rowAt 25 = .ok (.iconst 3, 1) := by decide +kernel
theorem dX0_rowAt_26 : decode cX0_rowAt 26 = .ok (.imul, 1) := by decide +kernel
theorem dX0_rowAt_27 : decode cX0_rowAt 27 = .ok (.iload_n 2, 1) := by decide +kernel
theorem dX0_rowAt_28 : decode cX0_rowAt 28 = .ok (.iadd, 1) := by decide +kernel
theorem dX0_rowAt_29 : decode cX0_rowAt 29 = .ok (.aaload, 1) := by decide +kernel
theorem dX0_rowAt_30 : decode cX0_rowAt 30 = .ok (.areturn, 1) := by decide +kernel
set_option maxRecDepth 20000 in
theorem ggX0_slipsOf_X0_runsOf : GoodIn wsX0_slipsOf wsX0_runsOf := goodIn_r _ [5, 6, 18, 19, 20, 21, 22] (by decide +kernel) (by decide +kernel)
set_option maxRecDepth 20000 in
theorem gX0_slipsOf_X0_runsOf : GoodIn wsX0_slipsOf (wsV RX0 33 RX0 yX0_runsOf wsX0_runsOf) := goodIn_app (goodIn_of _ (by decide +kernel)) ggX0_slipsOf_X0_runsOf
set_option maxRecDepth 20000 in
theorem ggX0_slipsOf_X0_runAt : GoodIn wsX0_slipsOf wsX0_runAt := goodIn_r _ [10, 6, 11, 18, 19, 20, 21, 22] (by decide +kernel) (by decide +kernel)
set_option maxRecDepth 20000 in
theorem gX0_slipsOf_X0_runAt : GoodIn wsX0_slipsOf (wsV RX0 37 RX0 yX0_runAt wsX0_runAt) := goodIn_app (goodIn_of _ (by decide +kernel)) ggX0_slipsOf_X0_runAt
set_option maxRecDepth 20000 in
theorem ggX0_slipsOf_X1_size : GoodIn wsX0_slipsOf wsX1_size := goodIn_r _ [16, 17, 23, 24, 25, 26, 27, 28] (by decide +kernel) (by decide +kernel)
set_option maxRecDepth 20000 in
theorem gX0_slipsOf_X1_size : GoodIn wsX0_slipsOf (wsV RX0 41 RX1 yX1_size wsX1_size) := goodIn_app (goodIn_of _ (by decide +kernel)) ggX0_slipsOf_X1_size
theorem dX0_slipsOf_0 : decode cX0_slipsOf 0 = .ok (.iconst 0, 1) := by decide +kernel
theorem dX0_slipsOf_1 : decode cX0_slipsOf 1 = .ok (.istore_n 2, 1) := by decide +kernel
theorem dX0_slipsOf_2 : decode cX0_slipsOf 2 = .ok (.iconst 0, 1) := by decide +kernel
theorem dX0_slipsOf_3 : decode cX0_slipsOf 3 = .ok (.istore_n 3, 1) := by decide +kernel
theorem dX0_slipsOf_4 : decode cX0_slipsOf 4 = .ok (.iload_n 3, 1) := by decide +kernel
theorem dX0_slipsOf_5 : decode cX0_slipsOf 5 = .ok (.aload_n 0, 1) := by decide +kernel
theorem dX0_slipsOf_6 : decode cX0_slipsOf 6 = .ok (.iload_n 1, 1) := by decide +kernel
theorem dX0_slipsOf_7 : decode cX0_slipsOf 7 = .ok (.invokevirtual 33, 3) := by decide +kernel
theorem dX0_slipsOf_10 : decode cX0_slipsOf 10 = .ok (.if_icmp .ge 34, 3) := by decide +kernel
theorem dX0_slipsOf_13 : decode cX0_slipsOf 13 = .ok (.aload_n 0, 1) := by decide +kernel
theorem dX0_slipsOf_14 : decode cX0_slipsOf 14 = .ok (.iload_n 1, 1) := by decide +kernel
theorem dX0_slipsOf_15 : decode cX0_slipsOf 15 = .ok (.iload_n 3, 1) := by decide +kernel
theorem dX0_slipsOf_16 : decode cX0_slipsOf 16 = .ok (.invokevirtual 37, 3) := by decide +kernel
theorem dX0_slipsOf_19 : decode cX0_slipsOf 19 = .ok (.astore 4, 2) := by decide +kernel
theorem dX0_slipsOf_21 : decode cX0_slipsOf 21 = .ok (.iload_n 2, 1) := by decide +kernel
theorem dX0_slipsOf_22 : decode cX0_slipsOf 22 = .ok (.aload 4, 2) := by decide +kernel
theorem dX0_slipsOf_24 : decode cX0_slipsOf 24 = .ok (.ifnonnull 7, 3) := by decide +kernel
theorem dX0_slipsOf_27 : decode cX0_slipsOf 27 = .ok (.iconst 0, 1) := by decide +kernel
theorem dX0_slipsOf_28 : decode cX0_slipsOf 28 = .ok (.goto 8, 3) := by decide +kernel
theorem dX0_slipsOf_31 : decode cX0_slipsOf 31 = .ok (.aload 4, 2) := by decide +kernel
theorem dX0_slipsOf_33 : decode cX0_slipsOf 33 = .ok (.invokevirtual 41, 3) := by decide +kernel
theorem dX0_slipsOf_36 : decode cX0_slipsOf 36 = .ok (.iadd, 1) := by decide +kernel
theorem dX0_slipsOf_37 : decode cX0_slipsOf 37 = .ok (.istore_n 2, 1) := by decide +kernel
theorem dX0_slipsOf_38 : decode cX0_slipsOf 38 = .ok (.iinc 3 1, 3) := by decide +kernel
theorem dX0_slipsOf_41 : decode cX0_slipsOf 41 = .ok (.goto (-37), 3) := by decide +kernel
theorem dX0_slipsOf_44 : decode cX0_slipsOf 44 = .ok (.iload_n 2, 1) := by decide +kernel
theorem dX0_slipsOf_45 : decode cX0_slipsOf 45 = .ok (.ireturn, 1) := by decide +kernel
set_option maxRecDepth 20000 in
theorem ggX0_tombsOf_X0_runsOf : GoodIn wsX0_tombsOf wsX0_runsOf := goodIn_r _ [5, 6, 18, 19, 20, 21, 22] (by decide +kernel) (by decide +kernel)
set_option maxRecDepth 20000 in
theorem gX0_tombsOf_X0_runsOf : GoodIn wsX0_tombsOf (wsV RX0 33 RX0 yX0_runsOf wsX0_runsOf) := goodIn_app (goodIn_of _ (by decide +kernel)) ggX0_tombsOf_X0_runsOf
set_option maxRecDepth 20000 in
theorem ggX0_tombsOf_X0_runAt : GoodIn wsX0_tombsOf wsX0_runAt := goodIn_r _ [10, 6, 11, 18, 19, 20, 21, 22] (by decide +kernel) (by decide +kernel)
set_option maxRecDepth 20000 in
theorem gX0_tombsOf_X0_runAt : GoodIn wsX0_tombsOf (wsV RX0 37 RX0 yX0_runAt wsX0_runAt) := goodIn_app (goodIn_of _ (by decide +kernel)) ggX0_tombsOf_X0_runAt
set_option maxRecDepth 20000 in
theorem ggX0_tombsOf_X1_tombs : GoodIn wsX0_tombsOf wsX1_tombs := goodIn_r _ [16, 17, 23, 24, 25, 26, 27, 28] (by decide +kernel) (by decide +kernel)
set_option maxRecDepth 20000 in
theorem gX0_tombsOf_X1_tombs : GoodIn wsX0_tombsOf (wsV RX0 45 RX1 yX1_tombs wsX1_tombs) := goodIn_app (goodIn_of _ (by decide +kernel)) ggX0_tombsOf_X1_tombs
theorem dX0_tombsOf_0 : decode cX0_tombsOf 0 = .ok (.iconst 0, 1) := by decide +kernel
theorem dX0_tombsOf_1 : decode cX0_tombsOf 1 = .ok (.istore_n 2, 1) := by decide +kernel
theorem dX0_tombsOf_2 : decode cX0_tombsOf 2 = .ok (.iconst 0, 1) := by decide +kernel
theorem dX0_tombsOf_3 : decode cX0_tombsOf 3 = .ok (.istore_n 3, 1) := by decide +kernel
theorem dX0_tombsOf_4 : decode cX0_tombsOf 4 = .ok (.iload_n 3, 1) := by decide +kernel
theorem dX0_tombsOf_5 : decode cX0_tombsOf 5 = .ok (.aload_n 0, 1) := by decide +kernel
theorem dX0_tombsOf_6 : decode cX0_tombsOf 6 = .ok (.iload_n 1, 1) := by decide +kernel
theorem dX0_tombsOf_7 : decode cX0_tombsOf 7 = .ok (.invokevirtual 33, 3) := by decide +kernel
theorem dX0_tombsOf_10 : decode cX0_tombsOf 10 = .ok (.if_icmp .ge 34, 3) := by decide +kernel
theorem dX0_tombsOf_13 : decode cX0_tombsOf 13 = .ok (.aload_n 0, 1) := by decide +kernel
theorem dX0_tombsOf_14 : decode cX0_tombsOf 14 = .ok (.iload_n 1, 1) := by decide +kernel
theorem dX0_tombsOf_15 : decode cX0_tombsOf 15 = .ok (.iload_n 3, 1) := by decide +kernel
theorem dX0_tombsOf_16 : decode cX0_tombsOf 16 = .ok (.invokevirtual 37, 3) := by decide +kernel
theorem dX0_tombsOf_19 : decode cX0_tombsOf 19 = .ok (.astore 4, 2) := by decide +kernel
theorem dX0_tombsOf_21 : decode cX0_tombsOf 21 = .ok (.iload_n 2, 1) := by decide +kernel
theorem dX0_tombsOf_22 : decode cX0_tombsOf 22 = .ok (.aload 4, 2) := by decide +kernel
theorem dX0_tombsOf_24 : decode cX0_tombsOf 24 = .ok (.ifnonnull 7, 3) := by decide +kernel
theorem dX0_tombsOf_27 : decode cX0_tombsOf 27 = .ok (.iconst 0, 1) := by decide +kernel
theorem dX0_tombsOf_28 : decode cX0_tombsOf 28 = .ok (.goto 8, 3) := by decide +kernel
theorem dX0_tombsOf_31 : decode cX0_tombsOf 31 = .ok (.aload 4, 2) := by decide +kernel
theorem dX0_tombsOf_33 : decode cX0_tombsOf 33 = .ok (.invokevirtual 45, 3) := by decide +kernel
theorem dX0_tombsOf_36 : decode cX0_tombsOf 36 = .ok (.iadd, 1) := by decide +kernel
theorem dX0_tombsOf_37 : decode cX0_tombsOf 37 = .ok (.istore_n 2, 1) := by decide +kernel
theorem dX0_tombsOf_38 : decode cX0_tombsOf 38 = .ok (.iinc 3 1, 3) := by decide +kernel
theorem dX0_tombsOf_41 : decode cX0_tombsOf 41 = .ok (.goto (-37), 3) := by decide +kernel
theorem dX0_tombsOf_44 : decode cX0_tombsOf 44 = .ok (.iload_n 2, 1) := by decide +kernel
theorem dX0_tombsOf_45 : decode cX0_tombsOf 45 = .ok (.ireturn, 1) := by decide +kernel
set_option maxRecDepth 20000 in
theorem ggX0_slips_X0_slipsOf : GoodIn wsX0_slips wsX0_slipsOf := goodIn_r _ [5, 6, 7, 8, 4, 9, 10, 11, 12, 13, 14, 15, 16, 17, 18, 19, 20, 21, 22, 23, 24, 25, 26, 27, 28, 29, 30, 31, 32] (by decide +kernel) (by decide +kernel)
set_option maxRecDepth 20000 in
theorem gX0_slips_X0_slipsOf : GoodIn wsX0_slips (wsV RX0 48 RX0 yX0_slipsOf wsX0_slipsOf) := goodIn_app (goodIn_of _ (by decide +kernel)) ggX0_slips_X0_slipsOf
theorem dX0_slips_0 : decode cX0_slips 0 = .ok (.iconst 0, 1) := by decide +kernel
theorem dX0_slips_1 : decode cX0_slips 1 = .ok (.istore_n 1, 1) := by decide +kernel
theorem dX0_slips_2 : decode cX0_slips 2 = .ok (.iconst 0, 1) := by decide +kernel
theorem dX0_slips_3 : decode cX0_slips 3 = .ok (.istore_n 2, 1) := by decide +kernel
theorem dX0_slips_4 : decode cX0_slips 4 = .ok (.iload_n 2, 1) := by decide +kernel
theorem dX0_slips_5 : decode cX0_slips 5 = .ok (.iconst 4, 1) := by decide +kernel
theorem dX0_slips_6 : decode cX0_slips 6 = .ok (.if_icmp .ge 17, 3) := by decide +kernel
theorem dX0_slips_9 : decode cX0_slips 9 = .ok (.iload_n 1, 1) := by decide +kernel
theorem dX0_slips_10 : decode cX0_slips 10 = .ok (.aload_n 0, 1) := by decide +kernel
theorem dX0_slips_11 : decode cX0_slips 11 = .ok (.iload_n 2, 1) := by decide +kernel
theorem dX0_slips_12 : decode cX0_slips 12 = .ok (.invokevirtual 48, 3) := by decide +kernel
theorem dX0_slips_15 : decode cX0_slips 15 = .ok (.iadd, 1) := by decide +kernel
theorem dX0_slips_16 : decode cX0_slips 16 = .ok (.istore_n 1, 1) := by decide +kernel
theorem dX0_slips_17 : decode cX0_slips 17 = .ok (.iinc 2 1, 3) := by decide +kernel
theorem dX0_slips_20 : decode cX0_slips 20 = .ok (.goto (-16), 3) := by decide +kernel
theorem dX0_slips_23 : decode cX0_slips 23 = .ok (.iload_n 1, 1) := by decide +kernel
theorem dX0_slips_24 : decode cX0_slips 24 = .ok (.ireturn, 1) := by decide +kernel
set_option maxRecDepth 20000 in
theorem ggX0_firstWordIn_X0_runAt : GoodIn wsX0_firstWordIn wsX0_runAt := goodIn_r _ [5, 6, 7, 14, 15, 16, 17, 18] (by decide +kernel) (by decide +kernel)
set_option maxRecDepth 20000 in
theorem gX0_firstWordIn_X0_runAt : GoodIn wsX0_firstWordIn (wsV RX0 37 RX0 yX0_runAt wsX0_runAt) := goodIn_app (goodIn_of _ (by decide +kernel)) ggX0_firstWordIn_X0_runAt
set_option maxRecDepth 20000 in
theorem ggX0_firstWordIn_X1_wordAt : GoodIn wsX0_firstWordIn wsX1_wordAt := goodIn_r _ [12, 13, 19, 20, 21, 22, 23, 24] (by decide +kernel) (by decide +kernel)
set_option maxRecDepth 20000 in
theorem gX0_firstWordIn_X1_wordAt : GoodIn wsX0_firstWordIn (wsV RX0 51 RX1 yX1_wordAt wsX1_wordAt) := goodIn_app (goodIn_of _ (by decide +kernel)) ggX0_firstWordIn_X1_wordAt
theorem dX0_firstWordIn_0 : decode cX0_firstWordIn 0 = .ok (.iconst 0, 1) := by decide +kernel
theorem dX0_firstWordIn_1 : decode cX0_firstWordIn 1 = .ok (.istore_n 3, 1) := by decide +kernel
theorem dX0_firstWordIn_2 : decode cX0_firstWordIn 2 = .ok (.iload_n 3, 1) := by decide +kernel
theorem dX0_firstWordIn_3 : decode cX0_firstWordIn 3 = .ok (.iconst 3, 1) := by decide +kernel
theorem dX0_firstWordIn_4 : decode cX0_firstWordIn 4 = .ok (.if_icmp .ge 40, 3) := by decide +kernel
theorem dX0_firstWordIn_7 : decode cX0_firstWordIn 7 = .ok (.aload_n 0, 1) := by decide +kernel
theorem dX0_firstWordIn_8 : decode cX0_firstWordIn 8 = .ok (.iload_n 1, 1) := by decide +kernel
theorem dX0_firstWordIn_9 : decode cX0_firstWordIn 9 = .ok (.iload_n 3, 1) := by decide +kernel
theorem dX0_firstWordIn_10 : decode cX0_firstWordIn 10 = .ok (.invokevirtual 37, 3) := by decide +kernel
theorem dX0_firstWordIn_13 : decode cX0_firstWordIn 13 = .ok (.astore 4, 2) := by decide +kernel
theorem dX0_firstWordIn_15 : decode cX0_firstWordIn 15 = .ok (.aload 4, 2) := by decide +kernel
theorem dX0_firstWordIn_17 : decode cX0_firstWordIn 17 = .ok (.ifnull 21, 3) := by decide +kernel
theorem dX0_firstWordIn_20 : decode cX0_firstWordIn 20 = .ok (.aload 4, 2) := by decide +kernel
theorem dX0_firstWordIn_22 : decode cX0_firstWordIn 22 = .ok (.iload_n 2, 1) := by decide +kernel
theorem dX0_firstWordIn_23 : decode cX0_firstWordIn 23 = .ok (.invokevirtual 51, 3) := by decide +kernel
theorem dX0_firstWordIn_26 : decode cX0_firstWordIn 26 = .ok (.bipush (-2), 2) := by decide +kernel
theorem dX0_firstWordIn_28 : decode cX0_firstWordIn 28 = .ok (.if_icmp .eq 10, 3) := by decide +kernel
theorem dX0_firstWordIn_31 : decode cX0_firstWordIn 31 = .ok (.aload 4, 2) := by decide +kernel
theorem dX0_firstWordIn_33 : decode cX0_firstWordIn 33 = .ok (.iload_n 2, 1) := by decide +kernel
theorem dX0_firstWordIn_34 : decode cX0_firstWordIn 34 = .ok (.invokevirtual 51, 3) := by decide +kernel
theorem dX0_firstWordIn_37 : decode cX0_firstWordIn 37 = .ok (.ireturn, 1) := by decide +kernel
theorem dX0_firstWordIn_38 : decode cX0_firstWordIn 38 = .ok (.iinc 3 1, 3) := by decide +kernel
theorem dX0_firstWordIn_41 : decode cX0_firstWordIn 41 = .ok (.goto (-39), 3) := by decide +kernel
theorem dX0_firstWordIn_44 : decode cX0_firstWordIn 44 = .ok (.bipush (-2), 2) := by decide +kernel
theorem dX0_firstWordIn_46 : decode cX0_firstWordIn 46 = .ok (.ireturn, 1) := by decide +kernel
set_option maxRecDepth 20000 in
theorem ggX0_firstWord_X0_firstWordIn : GoodIn wsX0_firstWord wsX0_firstWordIn := goodIn_r _ [5, 6, 7, 8, 4, 9, 10, 11, 12, 13, 14, 15, 16, 17, 18, 19, 20, 21, 22, 23, 24, 25, 26, 27, 28] (by decide +kernel) (by decide +kernel)
set_option maxRecDepth 20000 in
theorem gX0_firstWord_X0_firstWordIn : GoodIn wsX0_firstWord (wsV RX0 54 RX0 yX0_firstWordIn wsX0_firstWordIn) := goodIn_app (goodIn_of _ (by decide +kernel)) ggX0_firstWord_X0_firstWordIn
theorem dX0_firstWord_0 : decode cX0_firstWord 0 = .ok (.iconst 0, 1) := by decide +kernel
theorem dX0_firstWord_1 : decode cX0_firstWord 1 = .ok (.istore_n 2, 1) := by decide +kernel
theorem dX0_firstWord_2 : decode cX0_firstWord 2 = .ok (.iload_n 2, 1) := by decide +kernel
theorem dX0_firstWord_3 : decode cX0_firstWord 3 = .ok (.iconst 4, 1) := by decide +kernel
theorem dX0_firstWord_4 : decode cX0_firstWord 4 = .ok (.if_icmp .ge 24, 3) := by decide +kernel
theorem dX0_firstWord_7 : decode cX0_firstWord 7 = .ok (.aload_n 0, 1) := by decide +kernel
theorem dX0_firstWord_8 : decode cX0_firstWord 8 = .ok (.iload_n 2, 1) := by decide +kernel
theorem dX0_firstWord_9 : decode cX0_firstWord 9 = .ok (.iload_n 1, 1) := by decide +kernel
theorem dX0_firstWord_10 : decode cX0_firstWord 10 = .ok (.invokevirtual 54, 3) := by decide +kernel
theorem dX0_firstWord_13 : decode cX0_firstWord 13 = .ok (.istore_n 3, 1) := by decide +kernel
theorem dX0_firstWord_14 : decode cX0_firstWord 14 = .ok (.iload_n 3, 1) := by decide +kernel
theorem dX0_firstWord_15 : decode cX0_firstWord 15 = .ok (.bipush (-2), 2) := by decide +kernel
theorem dX0_firstWord_17 : decode cX0_firstWord 17 = .ok (.if_icmp .eq 5, 3) := by decide +kernel
theorem dX0_firstWord_20 : decode cX0_firstWord 20 = .ok (.iload_n 3, 1) := by decide +kernel
theorem dX0_firstWord_21 : decode cX0_firstWord 21 = .ok (.ireturn, 1) := by decide +kernel
theorem dX0_firstWord_22 : decode cX0_firstWord 22 = .ok (.iinc 2 1, 3) := by decide +kernel
theorem dX0_firstWord_25 : decode cX0_firstWord 25 = .ok (.goto (-23), 3) := by decide +kernel
theorem dX0_firstWord_28 : decode cX0_firstWord 28 = .ok (.bipush (-2), 2) := by decide +kernel
theorem dX0_firstWord_30 : decode cX0_firstWord 30 = .ok (.ireturn, 1) := by decide +kernel
set_option maxRecDepth 20000 in
theorem ggX0_isFirst_X0_firstWordIn : GoodIn wsX0_isFirst wsX0_firstWordIn := goodIn_r _ [5, 6, 7, 8, 4, 9, 10, 11, 12, 13, 14, 15, 16, 17, 23, 24, 25, 26, 27, 28, 29, 30, 31, 32, 33] (by decide +kernel) (by decide +kernel)
set_option maxRecDepth 20000 in
theorem gX0_isFirst_X0_firstWordIn : GoodIn wsX0_isFirst (wsV RX0 54 RX0 yX0_firstWordIn wsX0_firstWordIn) := goodIn_app (goodIn_of _ (by decide +kernel)) ggX0_isFirst_X0_firstWordIn
set_option maxRecDepth 20000 in
theorem ggX0_isFirst_X0_runAt : GoodIn wsX0_isFirst wsX0_runAt := goodIn_r _ [9, 10, 11, 23, 24, 25, 26, 27] (by decide +kernel) (by decide +kernel)
set_option maxRecDepth 20000 in
theorem gX0_isFirst_X0_runAt : GoodIn wsX0_isFirst (wsV RX0 37 RX0 yX0_runAt wsX0_runAt) := goodIn_app (goodIn_of _ (by decide +kernel)) ggX0_isFirst_X0_runAt
set_option maxRecDepth 20000 in
theorem ggX0_isFirst_X1_has : GoodIn wsX0_isFirst wsX1_has := goodIn_r _ [21, 22, 13, 14, 15, 16, 17, 28, 29, 30, 31, 32, 33] (by decide +kernel) (by decide +kernel)
set_option maxRecDepth 20000 in
theorem gX0_isFirst_X1_has : GoodIn wsX0_isFirst (wsV RX0 58 RX1 yX1_has wsX1_has) := goodIn_app (goodIn_of _ (by decide +kernel)) ggX0_isFirst_X1_has
theorem dX0_isFirst_0 : decode cX0_isFirst 0 = .ok (.iconst 0, 1) := by decide +kernel
theorem dX0_isFirst_1 : decode cX0_isFirst 1 = .ok (.istore 4, 2) := by decide +kernel
theorem dX0_isFirst_3 : decode cX0_isFirst 3 = .ok (.iload 4, 2) := by decide +kernel
theorem dX0_isFirst_5 : decode cX0_isFirst 5 = .ok (.iload_n 1, 1) := by decide +kernel
theorem dX0_isFirst_6 : decode cX0_isFirst 6 = .ok (.if_icmp .ge 23, 3) := by decide +kernel
theorem dX0_isFirst_9 : decode cX0_isFirst 9 = .ok (.aload_n 0, 1) := by decide +kernel
theorem dX0_isFirst_10 : decode cX0_isFirst 10 = .ok (.iload 4, 2) := by decide +kernel
theorem dX0_isFirst_12 : decode cX0_isFirst 12 = .ok (.iload_n 3, 1) := by decide +kernel
theorem dX0_isFirst_13 : decode cX0_isFirst 13 = .ok (.invokevirtual 54, 3) := by decide +kernel
theorem dX0_isFirst_16 : decode cX0_isFirst 16 = .ok (.bipush (-2), 2) := by decide +kernel
theorem dX0_isFirst_18 : decode cX0_isFirst 18 = .ok (.if_icmp .eq 5, 3) := by decide +kernel
theorem dX0_isFirst_21 : decode cX0_isFirst 21 = .ok (.iconst 0, 1) := by decide +kernel
theorem dX0_isFirst_22 : decode cX0_isFirst 22 = .ok (.ireturn, 1) := by decide +kernel
theorem dX0_isFirst_23 : decode cX0_isFirst 23 = .ok (.iinc 4 1, 3) := by decide +kernel
theorem dX0_isFirst_26 : decode cX0_isFirst 26 = .ok (.goto (-23), 3) := by decide +kernel
theorem dX0_isFirst_29 : decode cX0_isFirst 29 = .ok (.iconst 0, 1) := by decide +kernel
theorem dX0_isFirst_30 : decode cX0_isFirst 30 = .ok (.istore 4, 2) := by decide +kernel
theorem dX0_isFirst_32 : decode cX0_isFirst 32 = .ok (.iload 4, 2) := by decide +kernel
theorem dX0_isFirst_34 : decode cX0_isFirst 34 = .ok (.iload_n 2, 1) := by decide +kernel
theorem dX0_isFirst_35 : decode cX0_isFirst 35 = .ok (.if_icmp .ge 34, 3) := by decide +kernel
theorem dX0_isFirst_38 : decode cX0_isFirst 38 = .ok (.aload_n 0, 1) := by decide +kernel
theorem dX0_isFirst_39 : decode cX0_isFirst 39 = .ok (.iload_n 1, 1) := by decide +kernel
theorem dX0_isFirst_40 : decode cX0_isFirst 40 = .ok (.iload 4, 2) := by decide +kernel
theorem dX0_isFirst_42 : decode cX0_isFirst 42 = .ok (.invokevirtual 37, 3) := by decide +kernel
theorem dX0_isFirst_45 : decode cX0_isFirst 45 = .ok (.astore 5, 2) := by decide +kernel
theorem dX0_isFirst_47 : decode cX0_isFirst 47 = .ok (.aload 5, 2) := by decide +kernel
theorem dX0_isFirst_49 : decode cX0_isFirst 49 = .ok (.ifnull 14, 3) := by decide +kernel
theorem dX0_isFirst_52 : decode cX0_isFirst 52 = .ok (.aload 5, 2) := by decide +kernel
theorem dX0_isFirst_54 : decode cX0_isFirst 54 = .ok (.iload_n 3, 1) := by decide +kernel
theorem dX0_isFirst_55 : decode cX0_isFirst 55 = .ok (.invokevirtual 58, 3) := by decide +kernel
theorem dX0_isFirst_58 : decode cX0_isFirst 58 = .ok (.ifCond .eq 5, 3) := by decide +kernel
theorem dX0_isFirst_61 : decode cX0_isFirst 61 = .ok (.iconst 0, 1) := by decide +kernel
theorem dX0_isFirst_62 : decode cX0_isFirst 62 = .ok (.ireturn, 1) := by decide +kernel
theorem dX0_isFirst_63 : decode cX0_isFirst 63 = .ok (.iinc 4 1, 3) := by decide +kernel
theorem dX0_isFirst_66 : decode cX0_isFirst 66 = .ok (.goto (-34), 3) := by decide +kernel
theorem dX0_isFirst_69 : decode cX0_isFirst 69 = .ok (.aload_n 0, 1) := by decide +kernel
theorem dX0_isFirst_70 : decode cX0_isFirst 70 = .ok (.iload_n 1, 1) := by decide +kernel
theorem dX0_isFirst_71 : decode cX0_isFirst 71 = .ok (.iload_n 2, 1) := by decide +kernel
theorem dX0_isFirst_72 : decode cX0_isFirst 72 = .ok (.invokevirtual 37, 3) := by decide +kernel
theorem dX0_isFirst_75 : decode cX0_isFirst 75 = .ok (.astore 4, 2) := by decide +kernel
theorem dX0_isFirst_77 : decode cX0_isFirst 77 = .ok (.aload 4, 2) := by decide +kernel
theorem dX0_isFirst_79 : decode cX0_isFirst 79 = .ok (.ifnull 16, 3) := by decide +kernel
theorem dX0_isFirst_82 : decode cX0_isFirst 82 = .ok (.aload 4, 2) := by decide +kernel
theorem dX0_isFirst_84 : decode cX0_isFirst 84 = .ok (.iload_n 3, 1) := by decide +kernel
theorem dX0_isFirst_85 : decode cX0_isFirst 85 = .ok (.invokevirtual 58, 3) := by decide +kernel
theorem dX0_isFirst_88 : decode cX0_isFirst 88 = .ok (.ifCond .eq 7, 3) := by decide +kernel
theorem dX0_isFirst_91 : decode cX0_isFirst 91 = .ok (.iconst 1, 1) := by decide +kernel
theorem dX0_isFirst_92 : decode cX0_isFirst 92 = .ok (.goto 4, 3) := by decide +kernel
theorem dX0_isFirst_95 : decode cX0_isFirst 95 = .ok (.iconst 0, 1) := by decide +kernel
theorem dX0_isFirst_96 : decode cX0_isFirst 96 = .ok (.ireturn, 1) := by decide +kernel
set_option maxRecDepth 20000 in
theorem ggX0_detoursTo_X0_runsOf : GoodIn wsX0_detoursTo wsX0_runsOf := goodIn_r _ [5, 6, 29, 30, 31, 32, 33] (by decide +kernel) (by decide +kernel)
set_option maxRecDepth 20000 in
theorem gX0_detoursTo_X0_runsOf : GoodIn wsX0_detoursTo (wsV RX0 33 RX0 yX0_runsOf wsX0_runsOf) := goodIn_app (goodIn_of _ (by decide +kernel)) ggX0_detoursTo_X0_runsOf
set_option maxRecDepth 20000 in
theorem ggX0_detoursTo_X0_runAt : GoodIn wsX0_detoursTo wsX0_runAt := goodIn_r _ [10, 6, 11, 29, 30, 31, 32, 33] (by decide +kernel) (by decide +kernel)
set_option maxRecDepth 20000 in
theorem gX0_detoursTo_X0_runAt : GoodIn wsX0_detoursTo (wsV RX0 37 RX0 yX0_runAt wsX0_runAt) := goodIn_app (goodIn_of _ (by decide +kernel)) ggX0_detoursTo_X0_runAt
set_option maxRecDepth 20000 in
theorem ggX0_detoursTo_X1_opensFor : GoodIn wsX0_detoursTo wsX1_opensFor := goodIn_r _ [16, 17, 18, 19, 34, 35, 36, 37, 38, 39] (by decide +kernel) (by decide +kernel)
set_option maxRecDepth 20000 in
theorem gX0_detoursTo_X1_opensFor : GoodIn wsX0_detoursTo (wsV RX0 62 RX1 yX1_opensFor wsX1_opensFor) := goodIn_app (goodIn_of _ (by decide +kernel)) ggX0_detoursTo_X1_opensFor
set_option maxRecDepth 20000 in
theorem ggX0_detoursTo_X1_has : GoodIn wsX0_detoursTo wsX1_has := goodIn_r _ [23, 24, 25, 26, 15, 27, 28, 34, 35, 36, 37, 38, 39] (by decide +kernel) (by decide +kernel)
set_option maxRecDepth 20000 in
theorem gX0_detoursTo_X1_has : GoodIn wsX0_detoursTo (wsV RX0 58 RX1 yX1_has wsX1_has) := goodIn_app (goodIn_of _ (by decide +kernel)) ggX0_detoursTo_X1_has
theorem dX0_detoursTo_0 : decode cX0_detoursTo 0 = .ok (.iconst 0, 1) := by decide +kernel
theorem dX0_detoursTo_1 : decode cX0_detoursTo 1 = .ok (.istore_n 2, 1) := by decide +kernel
theorem dX0_detoursTo_2 : decode cX0_detoursTo 2 = .ok (.iconst 0, 1) := by decide +kernel
theorem dX0_detoursTo_3 : decode cX0_detoursTo 3 = .ok (.istore_n 3, 1) := by decide +kernel
theorem dX0_detoursTo_4 : decode cX0_detoursTo 4 = .ok (.iload_n 3, 1) := by decide +kernel
theorem dX0_detoursTo_5 : decode cX0_detoursTo 5 = .ok (.iconst 4, 1) := by decide +kernel
theorem dX0_detoursTo_6 : decode cX0_detoursTo 6 = .ok (.if_icmp .ge 68, 3) := by decide +kernel
theorem dX0_detoursTo_9 : decode cX0_detoursTo 9 = .ok (.iconst 0, 1) := by decide +kernel
theorem dX0_detoursTo_10 : decode cX0_detoursTo 10 = .ok (.istore 4, 2) := by decide +kernel
theorem dX0_detoursTo_12 : decode cX0_detoursTo 12 = .ok (.iload 4, 2) := by decide +kernel
theorem dX0_detoursTo_14 : decode cX0_detoursTo 14 = .ok (.aload_n 0, 1) := by decide +kernel
theorem dX0_detoursTo_15 : decode cX0_detoursTo 15 = .ok (.iload_n 3, 1) := by decide +kernel
theorem dX0_detoursTo_16 : decode cX0_detoursTo 16 = .ok (.invokevirtual 33, 3) := by decide +kernel
theorem dX0_detoursTo_19 : decode cX0_detoursTo 19 = .ok (.if_icmp .ge 49, 3) := by decide +kernel
theorem dX0_detoursTo_22 : decode cX0_detoursTo 22 = .ok (.aload_n 0, 1) := by decide +kernel
theorem dX0_detoursTo_23 : decode cX0_detoursTo 23 = .ok (.iload_n 3, 1) := by decide +kernel
theorem dX0_detoursTo_24 : decode cX0_detoursTo 24 = .ok (.iload 4, 2) := by decide +kernel
theorem dX0_detoursTo_26 : decode cX0_detoursTo 26 = .ok (.invokevirtual 37, 3) := by decide +kernel
theorem dX0_detoursTo_29 : decode cX0_detoursTo 29 = .ok (.astore 5, 2) := by decide +kernel
theorem dX0_detoursTo_31 : decode cX0_detoursTo 31 = .ok (.aload 5, 2) := by decide +kernel
theorem dX0_detoursTo_33 : decode cX0_detoursTo 33 = .ok (.ifnull 29, 3) := by decide +kernel
theorem dX0_detoursTo_36 : decode cX0_detoursTo 36 = .ok (.aload 5, 2) := by decide +kernel
theorem dX0_detoursTo_38 : decode cX0_detoursTo 38 = .ok (.iload_n 1, 1) := by decide +kernel
theorem dX0_detoursTo_39 : decode cX0_detoursTo 39 = .ok (.invokevirtual 62, 3) := by decide +kernel
theorem dX0_detoursTo_42 : decode cX0_detoursTo 42 = .ok (.ifCond .ne 6, 3) := by decide +kernel
theorem dX0_detoursTo_45 : decode cX0_detoursTo 45 = .ok (.goto 17, 3) := by decide +kernel
theorem dX0_detoursTo_48 : decode cX0_detoursTo 48 = .ok (.iinc 2 1, 3) := by decide +kernel
theorem dX0_detoursTo_51 : decode cX0_detoursTo 51 = .ok (.aload 5, 2) := by decide +kernel
theorem dX0_detoursTo_53 : decode cX0_detoursTo 53 = .ok (.iload_n 1, 1) := by decide +kernel
theorem dX0_detoursTo_54 : decode cX0_detoursTo 54 = .ok (.invokevirtual 58, 3) := by decide +kernel
theorem dX0_detoursTo_57 : decode cX0_detoursTo 57 = .ok (.ifCond .eq 5, 3) := by decide +kernel
theorem dX0_detoursTo_60 : decode cX0_detoursTo 60 = .ok (.iload_n 2, 1) := by decide +kernel
theorem dX0_detoursTo_61 : decode cX0_detoursTo 61 = .ok (.ireturn, 1) := by decide +kernel
theorem dX0_detoursTo_62 : decode cX0_detoursTo 62 = .ok (.iinc 4 1, 3) := by decide +kernel
theorem dX0_detoursTo_65 : decode cX0_detoursTo 65 = .ok (.goto (-53), 3) := by decide +kernel
theorem dX0_detoursTo_68 : decode cX0_detoursTo 68 = .ok (.iinc 3 1, 3) := by decide +kernel
theorem dX0_detoursTo_71 : decode cX0_detoursTo 71 = .ok (.goto (-67), 3) := by decide +kernel
theorem dX0_detoursTo_74 : decode cX0_detoursTo 74 = .ok (.iload_n 2, 1) := by decide +kernel
theorem dX0_detoursTo_75 : decode cX0_detoursTo 75 = .ok (.ireturn, 1) := by decide +kernel
set_option maxRecDepth 20000 in
theorem ggX0_settle_X0_runsOf : GoodIn wsX0_settle wsX0_runsOf := goodIn_r _ [5, 6, 82, 83, 84, 85, 86] (by decide +kernel) (by decide +kernel)
set_option maxRecDepth 20000 in
theorem gX0_settle_X0_runsOf : GoodIn wsX0_settle (wsV RX0 33 RX0 yX0_runsOf wsX0_runsOf) := goodIn_app (goodIn_of _ (by decide +kernel)) ggX0_settle_X0_runsOf
set_option maxRecDepth 20000 in
theorem ggX0_settle_X0_mergeLevel : GoodIn wsX0_settle wsX0_mergeLevel := goodIn_r _ [10, 6, 11, 12, 13, 14, 15, 16, 17, 18, 19, 4, 20, 1, 2, 3, 5, 21, 22, 23, 24, 25, 26, 27, 28, 29, 30, 31, 32, 33, 34, 35, 36, 37, 38, 39, 40, 41, 42, 43, 44, 45, 46, 47, 48, 49, 50, 51, 52, 53, 54, 55, 56, 57, 58, 59, 60, 61, 62, 63, 64, 65, 66, 67, 68, 69, 70, 71, 72, 73, 74, 75, 76, 77, 78, 79, 80, 81, 82, 83, 84, 85, 86, 87, 88, 89, 90, 91, 92] (by decide +kernel) (by decide +kernel)
set_option maxRecDepth 20000 in
theorem gX0_settle_X0_mergeLevel : GoodIn wsX0_settle (wsV RX0 65 RX0 yX0_mergeLevel wsX0_mergeLevel) := goodIn_app (goodIn_of _ (by decide +kernel)) ggX0_settle_X0_mergeLevel
theorem dX0_settle_0 : decode cX0_settle 0 = .ok (.iconst 0, 1) := by decide +kernel
theorem dX0_settle_1 : decode cX0_settle 1 = .ok (.istore_n 1, 1) := by decide +kernel
theorem dX0_settle_2 : decode cX0_settle 2 = .ok (.iload_n 1, 1) := by decide +kernel
theorem dX0_settle_3 : decode cX0_settle 3 = .ok (.iconst 4, 1) := by decide +kernel
theorem dX0_settle_4 : decode cX0_settle 4 = .ok (.if_icmp .ge 23, 3) := by decide +kernel
theorem dX0_settle_7 : decode cX0_settle 7 = .ok (.aload_n 0, 1) := by decide +kernel
theorem dX0_settle_8 : decode cX0_settle 8 = .ok (.iload_n 1, 1) := by decide +kernel
theorem dX0_settle_9 : decode cX0_settle 9 = .ok (.invokevirtual 33, 3) := by decide +kernel
theorem dX0_settle_12 : decode cX0_settle 12 = .ok (.iconst 3, 1) := by decide +kernel
theorem dX0_settle_13 : decode cX0_settle 13 = .ok (.if_icmp .lt 8, 3) := by decide +kernel
theorem dX0_settle_16 : decode cX0_settle 16 = .ok (.aload_n 0, 1) := by decide +kernel
theorem dX0_settle_17 : decode cX0_settle 17 = .ok (.iload_n 1, 1) := by decide +kernel
theorem dX0_settle_18 : decode cX0_settle 18 = .ok (.invokevirtual 65, 3) := by decide +kernel
theorem dX0_settle_21 : decode cX0_settle 21 = .ok (.iinc 1 1, 3) := by decide +kernel
theorem dX0_settle_24 : decode cX0_settle 24 = .ok (.goto (-22), 3) := by decide +kernel
theorem dX0_settle_27 : decode cX0_settle 27 = .ok (.return_, 1) := by decide +kernel
set_option maxRecDepth 20000 in
theorem ggX0_mergeLevel_X0_nothingBehind : GoodIn wsX0_mergeLevel wsX0_nothingBehind := goodIn_r _ [12, 13, 14, 15, 11, 16, 1, 78, 79, 80, 81, 82] (by decide +kernel) (by decide +kernel)
set_option maxRecDepth 20000 in
theorem gX0_mergeLevel_X0_nothingBehind : GoodIn wsX0_mergeLevel (wsV RX0 69 RX0 yX0_nothingBehind wsX0_nothingBehind) := goodIn_app (goodIn_of _ (by decide +kernel)) ggX0_mergeLevel_X0_nothingBehind
set_option maxRecDepth 20000 in
theorem ggX0_mergeLevel_X0_gather : GoodIn wsX0_mergeLevel wsX0_gather := goodIn_r _ [20, 6, 21, 22, 23, 24, 25, 26, 27, 28, 29, 30, 31, 32, 33, 34, 35, 36, 37, 38, 11, 39, 40, 41, 42, 43, 1, 44, 45, 46, 47, 48, 49, 50, 51, 52, 53, 3, 4, 5, 54, 55, 56, 78, 79, 80, 81, 82, 83, 84, 85, 86, 87, 88] (by decide +kernel) (by decide +kernel)
set_option maxRecDepth 20000 in
theorem gX0_mergeLevel_X0_gather : GoodIn wsX0_mergeLevel (wsV RX0 72 RX0 yX0_gather wsX0_gather) := goodIn_app (goodIn_of _ (by decide +kernel)) ggX0_mergeLevel_X0_gather
set_option maxRecDepth 20000 in
theorem ggX0_mergeLevel_X0_addRun : GoodIn wsX0_mergeLevel wsX0_addRun := goodIn_r _ [60, 1, 61, 13, 14, 15, 11, 16, 62, 63, 64, 65, 44, 66, 67, 68, 24, 69, 27, 70, 71, 72, 73, 26, 74, 75, 76, 77, 28, 29, 30, 31, 78, 79, 80, 81, 82, 83, 84, 85, 86, 87, 88] (by decide +kernel) (by decide +kernel)
set_option maxRecDepth 20000 in
theorem gX0_mergeLevel_X0_addRun : GoodIn wsX0_mergeLevel (wsV RX0 81 RX0 yX0_addRun wsX0_addRun) := goodIn_app (goodIn_of _ (by decide +kernel)) ggX0_mergeLevel_X0_addRun
theorem dX0_mergeLevel_0 : decode cX0_mergeLevel 0 = .ok (.iload_n 1, 1) := by decide +kernel
theorem dX0_mergeLevel_1 : decode cX0_mergeLevel 1 = .ok (.ifCond .lt 8, 3) := by decide +kernel
theorem dX0_mergeLevel_4 : decode cX0_mergeLevel 4 = .ok (.iload_n 1, 1) := by decide +kernel
theorem dX0_mergeLevel_5 : decode cX0_mergeLevel 5 = .ok (.iconst 4, 1) := by decide +kernel
theorem dX0_mergeLevel_6 : decode cX0_mergeLevel 6 = .ok (.if_icmp .lt 4, 3) := by decide +kernel
theorem dX0_mergeLevel_9 : decode cX0_mergeLevel 9 = .ok (.return_, 1) := by decide +kernel
theorem dX0_mergeLevel_10 : decode cX0_mergeLevel 10 = .ok (.aload_n 0, 1) := by decide +kernel
theorem dX0_mergeLevel_11 : decode cX0_mergeLevel 11 = .ok (.iload_n 1, 1) := by decide +kernel
theorem dX0_mergeLevel_12 : decode cX0_mergeLevel 12 = .ok (.aload_n 0, 1) := by decide +kernel
theorem dX0_mergeLevel_13 : decode cX0_mergeLevel 13 = .ok (.iload_n 1, 1) := by decide +kernel
theorem dX0_mergeLevel_14 : decode cX0_mergeLevel 14 = .ok (.invokevirtual 69, 3) := by decide +kernel
theorem dX0_mergeLevel_17 : decode cX0_mergeLevel 17 = .ok (.invokevirtual 72, 3) := by decide +kernel
theorem dX0_mergeLevel_20 : decode cX0_mergeLevel 20 = .ok (.aload_n 0, 1) := by decide +kernel
theorem dX0_mergeLevel_21 : decode cX0_mergeLevel 21 = .ok (.getfield 17, 3) := by decide +kernel
theorem dX0_mergeLevel_24 : decode cX0_mergeLevel 24 = .ok (.iload_n 1, 1) := by decide +kernel
theorem dX0_mergeLevel_25 : decode cX0_mergeLevel 25 = .ok (.iconst 0, 1) := by decide +kernel
theorem dX0_mergeLevel_26 : decode cX0_mergeLevel 26 = .ok (.iastore, 1) := by decide +kernel
theorem dX0_mergeLevel_27 : decode cX0_mergeLevel 27 = .ok (.aload_n 0, 1) := by decide +kernel
theorem dX0_mergeLevel_28 : decode cX0_mergeLevel 28 = .ok (.iload_n 1, 1) := by decide +kernel
theorem dX0_mergeLevel_29 : decode cX0_mergeLevel 29 = .ok (.iconst 1, 1) := by decide +kernel
theorem dX0_mergeLevel_30 : decode cX0_mergeLevel 30 = .ok (.iadd, 1) := by decide +kernel
theorem dX0_mergeLevel_31 : decode cX0_mergeLevel 31 = .ok (.iconst 3, 1) := by decide +kernel
theorem dX0_mergeLevel_32 : decode cX0_mergeLevel 32 = .ok (.invokestatic 76, 3) := by decide +kernel
theorem dX0_mergeLevel_35 : decode cX0_mergeLevel 35 = .ok (.aload_n 0, 1) := by decide +kernel
theorem dX0_mergeLevel_36 : decode cX0_mergeLevel 36 = .ok (.getfield 22, 3) := by decide +kernel
theorem dX0_mergeLevel_39 : decode cX0_mergeLevel 39 = .ok (.invokevirtual 81, 3) := by decide +kernel
theorem dX0_mergeLevel_42 : decode cX0_mergeLevel 42 = .ok (.aload_n 0, 1) := by decide +kernel
theorem dX0_mergeLevel_43 : decode cX0_mergeLevel 43 = .ok (.dup, 1) := by decide +kernel
theorem dX0_mergeLevel_44 : decode cX0_mergeLevel 44 = .ok (.getfield 30, 3) := by decide +kernel
theorem dX0_mergeLevel_47 : decode cX0_mergeLevel 47 = .ok (.iconst 1, 1) := by decide +kernel
theorem dX0_mergeLevel_48 : decode cX0_mergeLevel 48 = .ok (.iadd, 1) := by decide +kernel
theorem dX0_mergeLevel_49 : decode cX0_mergeLevel 49 = .ok (.putfield 30, 3) := by decide +kernel
theorem dX0_mergeLevel_52 : decode cX0_mergeLevel 52 = .ok (.return_, 1) := by decide +kernel
set_option maxRecDepth 20000 in
theorem ggX0_nothingBehind_X0_runsOf : GoodIn wsX0_nothingBehind wsX0_runsOf := goodIn_r _ [5, 6, 7, 8, 9, 10, 11] (by decide +kernel) (by decide +kernel)
set_option maxRecDepth 20000 in
theorem gX0_nothingBehind_X0_runsOf : GoodIn wsX0_nothingBehind (wsV RX0 33 RX0 yX0_runsOf wsX0_runsOf) := goodIn_app (goodIn_of _ (by decide +kernel)) ggX0_nothingBehind_X0_runsOf
theorem dX0_nothingBehind_0 : decode cX0_nothingBehind 0 = .ok (.iload_n 1, 1) := by decide +kernel
theorem dX0_nothingBehind_1 : decode cX0_nothingBehind 1 = .ok (.iconst 1, 1) := by decide +kernel
theorem dX0_nothingBehind_2 : decode cX0_nothingBehind 2 = .ok (.iadd, 1) := by decide +kernel
theorem dX0_nothingBehind_3 : decode cX0_nothingBehind 3 = .ok (.istore_n 2, 1) := by decide +kernel
theorem dX0_nothingBehind_4 : decode cX0_nothingBehind 4 = .ok (.iload_n 2, 1) := by decide +kernel
theorem dX0_nothingBehind_5 : decode cX0_nothingBehind 5 = .ok (.iconst 4, 1) := by decide +kernel
theorem dX0_nothingBehind_6 : decode cX0_nothingBehind 6 = .ok (.if_icmp .ge 19, 3) := by decide +kernel
theorem dX0_nothingBehind_9 : decode cX0_nothingBehind 9 = .ok (.aload_n 0, 1) := by decide +kernel
theorem dX0_nothingBehind_10 : decode cX0_nothingBehind 10 = .ok (.iload_n 2, 1) := by decide +kernel
theorem dX0_nothingBehind_11 : decode cX0_nothingBehind 11 = .ok (.invokevirtual 33, 3) := by decide +kernel
theorem dX0_nothingBehind_14 : decode cX0_nothingBehind 14 = .ok (.ifCond .le 5, 3) := by decide +kernel
theorem dX0_nothingBehind_17 : decode cX0_nothingBehind 17 = .ok (.iconst 0, 1) := by decide +kernel
theorem dX0_nothingBehind_18 : decode cX0_nothingBehind 18 = .ok (.ireturn, 1) := by decide +kernel
theorem dX0_nothingBehind_19 : decode cX0_nothingBehind 19 = .ok (.iinc 2 1, 3) := by decide +kernel
theorem dX0_nothingBehind_22 : decode cX0_nothingBehind 22 = .ok (.goto (-18), 3) := by decide +kernel
theorem dX0_nothingBehind_25 : decode cX0_nothingBehind 25 = .ok (.iconst 1, 1) := by decide +kernel
theorem dX0_nothingBehind_26 : decode cX0_nothingBehind 26 = .ok (.ireturn, 1) := by decide +kernel
set_option maxRecDepth 20000 in
theorem ggX0_gather_X1_clear : GoodIn wsX0_gather wsX1_clear := goodIn_r _ [6, 7, 8, 9, 10, 11, 12, 13, 14, 15, 16, 48, 49, 50, 51, 52, 53] (by decide +kernel) (by decide +kernel)
set_option maxRecDepth 20000 in
theorem gX0_gather_X1_clear : GoodIn wsX0_gather (wsV RX0 85 RX1 yX1_clear wsX1_clear) := goodIn_app (goodIn_of _ (by decide +kernel)) ggX0_gather_X1_clear
set_option maxRecDepth 20000 in
theorem ggX0_gather_X0_firstWordIn : GoodIn wsX0_gather wsX0_firstWordIn := goodIn_r _ [21, 22, 23, 24, 20, 25, 26, 27, 28, 29, 30, 5, 31, 7, 43, 44, 45, 46, 47, 48, 49, 50, 51, 52, 53] (by decide +kernel) (by decide +kernel)
set_option maxRecDepth 20000 in
theorem gX0_gather_X0_firstWordIn : GoodIn wsX0_gather (wsV RX0 54 RX0 yX0_firstWordIn wsX0_firstWordIn) := goodIn_app (goodIn_of _ (by decide +kernel)) ggX0_gather_X0_firstWordIn
set_option maxRecDepth 20000 in
theorem ggX0_gather_X1_put : GoodIn wsX0_gather wsX1_put := goodIn_r _ [35, 7, 8, 9, 10, 36, 37, 38, 39, 11, 40, 41, 42, 12, 48, 49, 50, 51, 52, 53] (by decide +kernel) (by decide +kernel)
set_option maxRecDepth 20000 in
theorem gX0_gather_X1_put : GoodIn wsX0_gather (wsV RX0 88 RX1 yX1_put wsX1_put) := goodIn_app (goodIn_of _ (by decide +kernel)) ggX0_gather_X1_put
theorem dX0_gather_0 : decode cX0_gather 0 = .ok (.aload_n 0, 1) := by decide +kernel
theorem dX0_gather_1 : decode cX0_gather 1 = .ok (.getfield 22, 3) := by decide +kernel
theorem dX0_gather_4 : decode cX0_gather 4 = .ok (.invokevirtual 85, 3) := by decide +kernel
theorem dX0_gather_7 : decode cX0_gather 7 = .ok (.iconst 0, 1) := by decide +kernel
theorem dX0_gather_8 : decode cX0_gather 8 = .ok (.istore_n 3, 1) := by decide +kernel
theorem dX0_gather_9 : decode cX0_gather 9 = .ok (.iload_n 3, 1) := by decide +kernel
theorem dX0_gather_10 : decode cX0_gather 10 = .ok (.bipush 64, 2) := by decide +kernel
theorem dX0_gather_12 : decode cX0_gather 12 = .ok (.if_icmp .ge 44, 3) := by decide +kernel
theorem dX0_gather_15 : decode cX0_gather 15 = .ok (.aload_n 0, 1) := by decide +kernel
theorem dX0_gather_16 : decode cX0_gather 16 = .ok (.iload_n 1, 1) := by decide +kernel
theorem dX0_gather_17 : decode cX0_gather 17 = .ok (.iload_n 3, 1) := by decide +kernel
theorem dX0_gather_18 : decode cX0_gather 18 = .ok (.invokevirtual 54, 3) := by decide +kernel
theorem dX0_gather_21 : decode cX0_gather 21 = .ok (.istore 4, 2) := by decide +kernel
theorem dX0_gather_23 : decode cX0_gather 23 = .ok (.iload 4, 2) := by decide +kernel
theorem dX0_gather_25 : decode cX0_gather 25 = .ok (.bipush (-2), 2) := by decide +kernel
theorem dX0_gather_27 : decode cX0_gather 27 = .ok (.if_icmp .eq 23, 3) := by decide +kernel
theorem dX0_gather_30 : decode cX0_gather 30 = .ok (.iload_n 2, 1) := by decide +kernel
theorem dX0_gather_31 : decode cX0_gather 31 = .ok (.ifCond .eq 9, 3) := by decide +kernel
theorem dX0_gather_34 : decode cX0_gather 34 = .ok (.iload 4, 2) := by decide +kernel
theorem dX0_gather_36 : decode cX0_gather 36 = .ok (.iconst (-1), 1) := by decide +kernel
theorem dX0_gather_37 : decode cX0_gather 37 = .ok (.if_icmp .eq 13, 3) := by decide +kernel
theorem dX0_gather_40 : decode cX0_gather 40 = .ok (.aload_n 0, 1) := by decide +kernel
theorem dX0_gather_41 : decode cX0_gather 41 = .ok (.getfield 22, 3) := by decide +kernel
theorem dX0_gather_44 : decode cX0_gather 44 = .ok (.iload_n 3, 1) := by decide +kernel
theorem dX0_gather_45 : decode cX0_gather 45 = .ok (.iload 4, 2) := by decide +kernel
theorem dX0_gather_47 : decode cX0_gather 47 = .ok (.invokevirtual 88, 3) := by decide +kernel
theorem dX0_gather_50 : decode cX0_gather 50 = .ok (.iinc 3 1, 3) := by decide +kernel
theorem dX0_gather_53 : decode cX0_gather 53 = .ok (.goto (-44), 3) := by decide +kernel
theorem dX0_gather_56 : decode cX0_gather 56 = .ok (.return_, 1) := by decide +kernel
set_option maxRecDepth 20000 in
theorem ggX0_addRun_X0_runsOf : GoodIn wsX0_addRun wsX0_runsOf := goodIn_r _ [7, 1, 32, 33, 34, 35, 36] (by decide +kernel) (by decide +kernel)
set_option maxRecDepth 20000 in
theorem gX0_addRun_X0_runsOf : GoodIn wsX0_addRun (wsV RX0 33 RX0 yX0_runsOf wsX0_runsOf) := goodIn_app (goodIn_of _ (by decide +kernel)) ggX0_addRun_X0_runsOf
set_option maxRecDepth 20000 in
theorem ggX0_addRun_X0_rowAt : GoodIn wsX0_addRun wsX0_rowAt := goodIn_r _ [11, 12, 32, 33, 34, 35, 36] (by decide +kernel) (by decide +kernel)
set_option maxRecDepth 20000 in
theorem gX0_addRun_X0_rowAt : GoodIn wsX0_addRun (wsV RX0 92 RX0 yX0_rowAt wsX0_rowAt) := goodIn_app (goodIn_of _ (by decide +kernel)) ggX0_addRun_X0_rowAt
set_option maxRecDepth 20000 in
theorem ggX0_addRun_X1_size : GoodIn wsX0_addRun wsX1_size := goodIn_r _ [17, 18, 37, 38, 39, 40, 41, 42] (by decide +kernel) (by decide +kernel)
set_option maxRecDepth 20000 in
theorem gX0_addRun_X1_size : GoodIn wsX0_addRun (wsV RX0 41 RX1 yX1_size wsX1_size) := goodIn_app (goodIn_of _ (by decide +kernel)) ggX0_addRun_X1_size
set_option maxRecDepth 20000 in
theorem ggX0_addRun_X1_copy : GoodIn wsX0_addRun wsX1_copy := goodIn_r _ [22, 23, 24, 25, 26, 27, 18, 28, 29, 30, 31, 37, 38, 39, 40, 41, 42] (by decide +kernel) (by decide +kernel)
set_option maxRecDepth 20000 in
theorem gX0_addRun_X1_copy : GoodIn wsX0_addRun (wsV RX0 95 RX1 yX1_copy wsX1_copy) := goodIn_app (goodIn_of _ (by decide +kernel)) ggX0_addRun_X1_copy
theorem dX0_addRun_0 : decode cX0_addRun 0 = .ok (.aload_n 0, 1) := by decide +kernel
theorem dX0_addRun_1 : decode cX0_addRun 1 = .ok (.iload_n 1, 1) := by decide +kernel
theorem dX0_addRun_2 : decode cX0_addRun 2 = .ok (.aload_n 0, 1) := by decide +kernel
theorem dX0_addRun_3 : decode cX0_addRun 3 = .ok (.iload_n 1, 1) := by decide +kernel
theorem dX0_addRun_4 : decode cX0_addRun 4 = .ok (.invokevirtual 33, 3) := by decide +kernel
theorem dX0_addRun_7 : decode cX0_addRun 7 = .ok (.invokevirtual 92, 3) := by decide +kernel
theorem dX0_addRun_10 : decode cX0_addRun 10 = .ok (.astore_n 3, 1) := by decide +kernel
theorem dX0_addRun_11 : decode cX0_addRun 11 = .ok (.aload_n 3, 1) := by decide +kernel
theorem dX0_addRun_12 : decode cX0_addRun 12 = .ok (.ifnull 14, 3) := by decide +kernel
theorem dX0_addRun_15 : decode cX0_addRun 15 = .ok (.aload_n 2, 1) := by decide +kernel
theorem dX0_addRun_16 : decode cX0_addRun 16 = .ok (.ifnull 10, 3) := by decide +kernel
theorem dX0_addRun_19 : decode cX0_addRun 19 = .ok (.aload_n 2, 1) := by decide +kernel
theorem dX0_addRun_20 : decode cX0_addRun 20 = .ok (.invokevirtual 41, 3) := by decide +kernel
theorem dX0_addRun_23 : decode cX0_addRun 23 = .ok (.ifCond .ne 4, 3) := by decide +kernel
theorem dX0_addRun_26 : decode cX0_addRun 26 = .ok (.return_, 1) := by decide +kernel
theorem dX0_addRun_27 : decode cX0_addRun 27 = .ok (.aload_n 3, 1) := by decide +kernel
theorem dX0_addRun_28 : decode cX0_addRun 28 = .ok (.aload_n 2, 1) := by decide +kernel
theorem dX0_addRun_29 : decode cX0_addRun 29 = .ok (.invokevirtual 95, 3) := by decide +kernel
theorem dX0_addRun_32 : decode cX0_addRun 32 = .ok (.aload_n 0, 1) := by decide +kernel
theorem dX0_addRun_33 : decode cX0_addRun 33 = .ok (.getfield 17, 3) := by decide +kernel
theorem dX0_addRun_36 : decode cX0_addRun 36 = .ok (.iload_n 1, 1) := by decide +kernel
theorem dX0_addRun_37 : decode cX0_addRun 37 = .ok (.dup2, 1) := by decide +kernel
theorem dX0_addRun_38 : decode cX0_addRun 38 = .ok (.iaload, 1) := by decide +kernel
theorem dX0_addRun_39 : decode cX0_addRun 39 = .ok (.iconst 1, 1) := by decide +kernel
theorem dX0_addRun_40 : decode cX0_addRun 40 = .ok (.iadd, 1) := by decide +kernel
theorem dX0_addRun_41 : decode cX0_addRun 41 = .ok (.iastore, 1) := by decide +kernel
theorem dX0_addRun_42 : decode cX0_addRun 42 = .ok (.aload_n 0, 1) := by decide +kernel
theorem dX0_addRun_43 : decode cX0_addRun 43 = .ok (.dup, 1) := by decide +kernel
theorem dX0_addRun_44 : decode cX0_addRun 44 = .ok (.getfield 26, 3) := by decide +kernel
theorem dX0_addRun_47 : decode cX0_addRun 47 = .ok (.aload_n 2, 1) := by decide +kernel
theorem dX0_addRun_48 : decode cX0_addRun 48 = .ok (.invokevirtual 41, 3) := by decide +kernel
theorem dX0_addRun_51 : decode cX0_addRun 51 = .ok (.iadd, 1) := by decide +kernel
theorem dX0_addRun_52 : decode cX0_addRun 52 = .ok (.putfield 26, 3) := by decide +kernel
theorem dX0_addRun_55 : decode cX0_addRun 55 = .ok (.return_, 1) := by decide +kernel
set_option maxRecDepth 20000 in
theorem ggX0_copyRuns_X0_rowAt : GoodIn wsX0_copyRuns wsX0_rowAt := goodIn_r _ [6, 7, 23, 24, 25, 26, 27] (by decide +kernel) (by decide +kernel)
set_option maxRecDepth 20000 in
theorem gX0_copyRuns_X0_rowAt : GoodIn wsX0_copyRuns (wsV RX0 92 RX0 yX0_rowAt wsX0_rowAt) := goodIn_app (goodIn_of _ (by decide +kernel)) ggX0_copyRuns_X0_rowAt
set_option maxRecDepth 20000 in
theorem ggX0_copyRuns_X1_copy : GoodIn wsX0_copyRuns wsX1_copy := goodIn_r _ [12, 13, 14, 15, 16, 17, 18, 19, 20, 21, 22, 28, 29, 30, 31, 32, 33] (by decide +kernel) (by decide +kernel)
set_option maxRecDepth 20000 in
theorem gX0_copyRuns_X1_copy : GoodIn wsX0_copyRuns (wsV RX0 95 RX1 yX1_copy wsX1_copy) := goodIn_app (goodIn_of _ (by decide +kernel)) ggX0_copyRuns_X1_copy
theorem dX0_copyRuns_0 : decode cX0_copyRuns 0 = .ok (.iconst 0, 1) := by decide +kernel
theorem dX0_copyRuns_1 : decode cX0_copyRuns 1 = .ok (.istore_n 2, 1) := by decide +kernel
theorem dX0_copyRuns_2 : decode cX0_copyRuns 2 = .ok (.iload_n 2, 1) := by decide +kernel
theorem dX0_copyRuns_3 : decode cX0_copyRuns 3 = .ok (.iconst 4, 1) := by decide +kernel
theorem dX0_copyRuns_4 : decode cX0_copyRuns 4 = .ok (.if_icmp .ge 63, 3) := by decide +kernel
theorem dX0_copyRuns_7 : decode cX0_copyRuns 7 = .ok (.aload_n 0, 1) := by decide +kernel
theorem dX0_copyRuns_8 : decode cX0_copyRuns 8 = .ok (.getfield 17, 3) := by decide +kernel
theorem dX0_copyRuns_11 : decode cX0_copyRuns 11 = .ok (.iload_n 2, 1) := by decide +kernel
theorem dX0_copyRuns_12 : decode cX0_copyRuns 12 = .ok (.aload_n 1, 1) := by decide +kernel
theorem dX0_copyRuns_13 : decode cX0_copyRuns 13 = .ok (.getfield 17, 3) := by decide +kernel
theorem dX0_copyRuns_16 : decode cX0_copyRuns 16 = .ok (.iload_n 2, 1) := by decide +kernel
theorem dX0_copyRuns_17 : decode cX0_copyRuns 17 = .ok (.iaload, 1) := by decide +kernel
theorem dX0_copyRuns_18 : decode cX0_copyRuns 18 = .ok (.iastore, 1) := by decide +kernel
theorem dX0_copyRuns_19 : decode cX0_copyRuns 19 = .ok (.iconst 0, 1) := by decide +kernel
theorem dX0_copyRuns_20 : decode cX0_copyRuns 20 = .ok (.istore_n 3, 1) := by decide +kernel
theorem dX0_copyRuns_21 : decode cX0_copyRuns 21 = .ok (.iload_n 3, 1) := by decide +kernel
theorem dX0_copyRuns_22 : decode cX0_copyRuns 22 = .ok (.aload_n 0, 1) := by decide +kernel
theorem dX0_copyRuns_23 : decode cX0_copyRuns 23 = .ok (.getfield 17, 3) := by decide +kernel
theorem dX0_copyRuns_26 : decode cX0_copyRuns 26 = .ok (.iload_n 2, 1) := by decide +kernel
theorem dX0_copyRuns_27 : decode cX0_copyRuns 27 = .ok (.iaload, 1) := by decide +kernel
theorem dX0_copyRuns_28 : decode cX0_copyRuns 28 = .ok (.if_icmp .ge 33, 3) := by decide +kernel
theorem dX0_copyRuns_31 : decode cX0_copyRuns 31 = .ok (.aload_n 0, 1) := by decide +kernel
theorem dX0_copyRuns_32 : decode cX0_copyRuns 32 = .ok (.iload_n 2, 1) := by decide +kernel
theorem dX0_copyRuns_33 : decode cX0_copyRuns 33 = .ok (.iload_n 3, 1) := by decide +kernel
theorem dX0_copyRuns_34 : decode cX0_copyRuns 34 = .ok (.invokevirtual 92, 3) := by decide +kernel
theorem dX0_copyRuns_37 : decode cX0_copyRuns 37 = .ok (.astore 4, 2) := by decide +kernel
theorem dX0_copyRuns_39 : decode cX0_copyRuns 39 = .ok (.aload 4, 2) := by decide +kernel
theorem dX0_copyRuns_41 : decode cX0_copyRuns 41 = .ok (.ifnull 14, 3) := by decide +kernel
theorem dX0_copyRuns_44 : decode cX0_copyRuns 44 = .ok (.aload 4, 2) := by decide +kernel
theorem dX0_copyRuns_46 : decode cX0_copyRuns 46 = .ok (.aload_n 1, 1) := by decide +kernel
theorem dX0_copyRuns_47 : decode cX0_copyRuns 47 = .ok (.iload_n 2, 1) := by decide +kernel
theorem dX0_copyRuns_48 : decode cX0_copyRuns 48 = .ok (.iload_n 3, 1) := by decide +kernel
theorem dX0_copyRuns_49 : decode cX0_copyRuns 49 = .ok (.invokevirtual 92, 3) := by decide +kernel
theorem dX0_copyRuns_52 : decode cX0_copyRuns 52 = .ok (.invokevirtual 95, 3) := by decide +kernel
theorem dX0_copyRuns_55 : decode cX0_copyRuns 55 = .ok (.iinc 3 1, 3) := by decide +kernel
theorem dX0_copyRuns_58 : decode cX0_copyRuns 58 = .ok (.goto (-37), 3) := by decide +kernel
theorem dX0_copyRuns_61 : decode cX0_copyRuns 61 = .ok (.iinc 2 1, 3) := by decide +kernel
theorem dX0_copyRuns_64 : decode cX0_copyRuns 64 = .ok (.goto (-62), 3) := by decide +kernel
theorem dX0_copyRuns_67 : decode cX0_copyRuns 67 = .ok (.return_, 1) := by decide +kernel
end
section
/-! what is found in levels: levels l hold n l runs g l 0, g l 1 .., the latest first -/
abbrev LV : Type := Nat → Nat → Row
def snA (g : Nat → Nat) : Nat → Nat
  | 0 => 0
  | i + 1 => snA g i + g i
def fsL (g : Nat → Row) (x : Nat) : Nat → Nat → Int32
  | 0, _ => -2
  | m + 1, r => if hasR (g r) x then g r x else fsL g x m (r + 1)
def fsA (n : Nat → Nat) (g : LV) (x : Nat) : Nat → Nat → Int32
  | 0, _ => -2
  | m + 1, l => if fsL (g l) x (n l) 0 = -2 then fsA n g x m (l + 1) else fsL (g l) x (n l) 0
def nxN (g : Nat → Row) (x : Nat) (m : Nat) : Bool := (List.range m).any (fun r => hasR (g r) x)
/-- whether run r of level l holds the first slip of x -/
def frA (n : Nat → Nat) (g : LV) (l r x : Nat) : Bool := decide (∀ l2, l2 < l → fsL (g l2) x (n l2) 0 = -2) && (decide (∀ r2, r2 < r → hasR (g l r2) x = false) && hasR (g l r) x)
def dtL (g : Nat → Row) (x : Nat) (cont : Nat) : Nat → Nat → Nat
  | 0, _ => cont
  | m + 1, r => if opnC (g r) x then (if hasR (g r) x then 1 else 1 + dtL g x cont m (r + 1)) else dtL g x cont m (r + 1)
def dtA (n : Nat → Nat) (g : LV) (x : Nat) : Nat → Nat → Nat
  | 0, _ => 0
  | m + 1, l => dtL (g l) x (dtA n g x m (l + 1)) (n l) 0
theorem fsL_none {g : Nat → Row} {x : Nat} : ∀ {m r : Nat}, (∀ r2, r ≤ r2 → r2 < r + m → hasR (g r2) x = false) → fsL g x m r = -2
  | 0, _, _ => rfl
  | m + 1, r, h => by
    unfold fsL
    rw [h r (Nat.le_refl r) (by omega)]
    exact fsL_none (fun r2 h1 h2 => h r2 (by omega) (by omega))
theorem fsL_some {g : Nat → Row} {x i : Nat} (hi : hasR (g i) x = true) : ∀ {m r : Nat}, r ≤ i → i < r + m → (∀ r2, r ≤ r2 → r2 < i → hasR (g r2) x = false) → fsL g x m r = g i x
  | 0, r, h1, h2, _ => absurd h2 (by omega)
  | m + 1, r, h1, h2, h => by
    unfold fsL
    by_cases e : r = i
    · subst e
      rw [if_pos hi]
    · rw [h r (Nat.le_refl r) (by omega)]
      exact fsL_some hi (by omega) (by omega) (fun r2 h3 h4 => h r2 (by omega) h4)
theorem fsL_iff {g : Nat → Row} {x m : Nat} : fsL g x m 0 = -2 ↔ ∀ r, r < m → hasR (g r) x = false := by
  refine ⟨fun h r hr => ?_, fun h => fsL_none (fun r2 _ h2 => h r2 (by omega))⟩
  cases hq : hasR (g r) x with
  | false => rfl
  | true =>
    obtain ⟨i, hi1, hi2⟩ : ∃ i, hasR (g i) x = true ∧ i ≤ r ∧ ∀ j, j < i → hasR (g j) x = false := by
      obtain ⟨i, h1, h2⟩ := pk_least (fun i => hasR (g i) x = true) ⟨r, hq⟩
      exact ⟨i, h1, by rcases Nat.lt_or_ge r i with q | q; exact absurd hq (h2 r q); exact q, fun j hj => by have := h2 j hj; cases hz : hasR (g j) x with | false => rfl | true => exact absurd hz this⟩
    rw [fsL_some hi1 (m := m) (r := 0) (Nat.zero_le i) (by omega) (fun r2 _ h4 => hi2.2 r2 h4)] at h
    rw [hasR, h] at hi1
    simp at hi1
theorem fsA_none {n : Nat → Nat} {g : LV} {x : Nat} : ∀ {m l : Nat}, (∀ l2, l ≤ l2 → l2 < l + m → fsL (g l2) x (n l2) 0 = -2) → fsA n g x m l = -2
  | 0, _, _ => rfl
  | m + 1, l, h => by
    unfold fsA
    rw [if_pos (h l (Nat.le_refl l) (by omega))]
    exact fsA_none (fun l2 h1 h2 => h l2 (by omega) (by omega))
theorem fsA_some {n : Nat → Nat} {g : LV} {x i : Nat} (hi : ¬ fsL (g i) x (n i) 0 = -2) : ∀ {m l : Nat}, l ≤ i → i < l + m → (∀ l2, l ≤ l2 → l2 < i → fsL (g l2) x (n l2) 0 = -2) → fsA n g x m l = fsL (g i) x (n i) 0
  | 0, l, h1, h2, _ => absurd h2 (by omega)
  | m + 1, l, h1, h2, h => by
    unfold fsA
    by_cases e : l = i
    · subst e
      rw [if_neg hi]
    · rw [if_pos (h l (Nat.le_refl l) (by omega))]
      exact fsA_some hi (by omega) (by omega) (fun l2 h3 h4 => h l2 (by omega) h4)
theorem frA_1 {n : Nat → Nat} {g : LV} {l r x l2 : Nat} (h : l2 < l) (hf : ¬ fsL (g l2) x (n l2) 0 = -2) : frA n g l r x = false := by
  unfold frA
  rw [decide_eq_false (fun z => hf (z l2 h))]
  rfl
theorem frA_2 {n : Nat → Nat} {g : LV} {l r x r2 : Nat} (h : r2 < r) (hf : hasR (g l r2) x = true) : frA n g l r x = false := by
  unfold frA
  rw [decide_eq_false (p := ∀ r2, r2 < r → hasR (g l r2) x = false) (fun z => by rw [z r2 h] at hf; cases hf)]
  simp
theorem frA_3 {n : Nat → Nat} {g : LV} {l r x : Nat} (h1 : ∀ l2, l2 < l → fsL (g l2) x (n l2) 0 = -2) (h2 : ∀ r2, r2 < r → hasR (g l r2) x = false) : frA n g l r x = hasR (g l r) x := by
  unfold frA
  rw [decide_eq_true h1, decide_eq_true h2]
  rfl
def iR (S : CS) (k l r : Nat) : Nat := 1 + 13 * k + (3 * l + (sN S k l - 1 - r))
theorem iR_lt {S : CS} (h : cOk S) {k l r : Nat} (hk : k < 2) (hl : l < 4) (hr : r < sN S k l) : iR S k l r < 27 := by
  have := h.2.1 k l
  unfold iR
  omega
theorem cW.run {ad : Nat → Nat} {S : CS} {hp : HP} (h : cW ad S hp) {k l r : Nat} (hk : k < 2) (hl : l < 4) (hr : r < sN S k l) : slAt hp (aS ad (iR S k l r)) (aW ad (iR S k l r)) (gC S k l r) := by
  have h1 := h.sl (iR_lt h.ok hk hl hr)
  unfold gC
  rw [if_pos hr]
  exact h1
/-- the numbers of runs and the runs of a binder -/
def slB (S : CS) (k l : Nat) : Nat := snA (fun r => szR (gC S k l r)) (sN S k l)
def tbB (S : CS) (k l : Nat) : Nat := snA (fun r => tbR (gC S k l r)) (sN S k l)
def slAll (S : CS) (k : Nat) : Nat := snA (fun l => slB S k l) 4
theorem snA_le {g : Nat → Nat} {c : Nat} : ∀ {m : Nat}, (∀ i, i < m → g i ≤ c) → snA g m ≤ m * c
  | 0, _ => Nat.zero_le _
  | m + 1, h => by
    have := snA_le (g := g) (c := c) (m := m) (fun i hi => h i (by omega))
    have h2 := h m (by omega)
    show snA g m + g m ≤ (m + 1) * c
    rw [Nat.succ_mul]
    omega
def nbR (n : Nat → Nat) : Nat → Nat → Bool
  | 0, _ => true
  | m + 1, l => if n l = 0 then nbR n m (l + 1) else false
def nbA (n : Nat → Nat) (l : Nat) : Bool := nbR n (3 - l) (l + 1)
theorem nbR_t {n : Nat → Nat} : ∀ {m l : Nat}, (∀ l2, l ≤ l2 → l2 < l + m → n l2 = 0) → nbR n m l = true
  | 0, _, _ => rfl
  | m + 1, l, h => by
    unfold nbR
    rw [if_pos (h l (Nat.le_refl l) (by omega))]
    exact nbR_t (fun l2 h1 h2 => h l2 (by omega) (by omega))
theorem nbR_f {n : Nat → Nat} {i : Nat} (hi : ¬ n i = 0) : ∀ {m l : Nat}, l ≤ i → i < l + m → nbR n m l = false
  | 0, l, h1, h2 => absurd h2 (by omega)
  | m + 1, l, h1, h2 => by
    unfold nbR
    split
    · rename_i h3
      have : l ≠ i := fun z => hi (z ▸ h3)
      exact nbR_f hi (by omega) (by omega)
    · rfl
theorem dtL_s (g : Nat → Row) (x cont m r : Nat) : dtL g x cont (m + 1) r = if opnC (g r) x then (if hasR (g r) x then 1 else 1 + dtL g x cont m (r + 1)) else dtL g x cont m (r + 1) := rfl
/-- a counting loop with a number besides -/
theorem h_loopO {W9 : Array Slot → Prop} {nL : Nat} (N : Nat) (L : Nat → Nat → List (Nat × Value)) (I : Nat → Nat → Prop) (hs : ∀ i : Nat, i ≤ N → ∀ o : Nat, I i o → (i < N → ∀ o2 : Nat, I (i + 1) o2 → ∀ ls : Array Slot, lv_has ls nL (L (i + 1) o2) → W9 ls) → ∀ ls : Array Slot, lv_has ls nL (L i o) → W9 ls) :
    ∀ i : Nat, i ≤ N → ∀ o : Nat, I i o → ∀ ls : Array Slot, lv_has ls nL (L i o) → W9 ls := by
  have key : ∀ k i : Nat, i + k = N → ∀ o : Nat, I i o → ∀ ls : Array Slot, lv_has ls nL (L i o) → W9 ls := by
    intro k
    induction k with
    | zero => intro i hk o hI; exact hs i (by omega) o hI (fun h => absurd h (by omega))
    | succ k ih => intro i hk o hI; exact hs i (by omega) o hI (fun _ o2 h => ih (i + 1) (by omega) o2 h)
  intro i hi o hI
  exact key (N - i) i (by omega) o hI

set_option maxHeartbeats 4000000 in
set_option maxRecDepth 100000 in
theorem c_X0_moves (l : Launch) (G : hG) (hp : HP) (ad : Nat → Nat) (S : CS) (hC : cW ad S hp) (k : Nat) (hk : k < 2) : hRd l yX0_moves wsX0_moves 0 0 G hp [.ref (aB ad k)] (some (.int (sV S k))) := by
  refine Met.ofW (cc := cX0_moves) (maxL := 1) (ret := (some .int)) (by decide) rfl ?_
  intro p e s m args below meth c s₁ B hml hv
  obtain ⟨rfl, hV0, hK0⟩ := hv
  have hx := B.exec
  have hb := B.bytes
  have hr := B.returns
  have hts := atoms_spec (ws := wsX0_moves) B.pre
  have hown : s.vm.findClass RX0 = some m.cls := findClass_of_methodNamed B.named
  have hlocks := B.notSynchronized
  have hF : CallFix p m c cX0_moves 1 s [.ref (aB ad k)].toArray wsX0_moves RX0 := ⟨hx, hb, hml, hown, hts⟩
  have hw0 := hts (.fieldLink RX0 26 "SlipLevels$Binder" "moves" "I") (by decide +kernel)
  have hi0 : ∀ w ∈ u_ws RX0 TX0 5, w ∈ wsX0_moves := by
    intro w h
    unfold wsX0_moves
    simp only [List.mem_cons, List.mem_append, h, true_or, or_true]
  have hl := lv_entry ([.ref (aB ad k)]) (n := 1) (Nat.le_of_ble_eq_true rfl)
  rw [lg_entry_eq]
  generalize (lg_sl ([.ref (aB ad k)]) ++ List.replicate (1 - (lg_sl ([.ref (aB ad k)])).length) Slot.unset).toArray = ls at hl ⊢
  replace hl : lv_has ls 1 [(0, .ref (aB ad k))] := hl
  refine lv_aload_n hx hb dX0_moves_0 rfl (lv_at hl 0 rfl) ?_
  refine h_get (v := .int (sV S k)) hx hb hts hi0 hown hK0 hV0 (hC.bo hk) rfl 3 (by decide) hw0 rfl dX0_moves_1 ?_
  exact h_iretR hx hb hr hlocks (by first | rfl | assumption) dX0_moves_4

set_option maxHeartbeats 4000000 in
set_option maxRecDepth 100000 in
theorem c_X0_mergings (l : Launch) (G : hG) (hp : HP) (ad : Nat → Nat) (S : CS) (hC : cW ad S hp) (k : Nat) (hk : k < 2) : hRd l yX0_mergings wsX0_mergings 0 0 G hp [.ref (aB ad k)] (some (.int (sG S k))) := by
  refine Met.ofW (cc := cX0_mergings) (maxL := 1) (ret := (some .int)) (by decide) rfl ?_
  intro p e s m args below meth c s₁ B hml hv
  obtain ⟨rfl, hV0, hK0⟩ := hv
  have hx := B.exec
  have hb := B.bytes
  have hr := B.returns
  have hts := atoms_spec (ws := wsX0_mergings) B.pre
  have hown : s.vm.findClass RX0 = some m.cls := findClass_of_methodNamed B.named
  have hlocks := B.notSynchronized
  have hF : CallFix p m c cX0_mergings 1 s [.ref (aB ad k)].toArray wsX0_mergings RX0 := ⟨hx, hb, hml, hown, hts⟩
  have hw0 := hts (.fieldLink RX0 30 "SlipLevels$Binder" "mergings" "I") (by decide +kernel)
  have hi0 : ∀ w ∈ u_ws RX0 TX0 5, w ∈ wsX0_mergings := by
    intro w h
    unfold wsX0_mergings
    simp only [List.mem_cons, List.mem_append, h, true_or, or_true]
  have hl := lv_entry ([.ref (aB ad k)]) (n := 1) (Nat.le_of_ble_eq_true rfl)
  rw [lg_entry_eq]
  generalize (lg_sl ([.ref (aB ad k)]) ++ List.replicate (1 - (lg_sl ([.ref (aB ad k)])).length) Slot.unset).toArray = ls at hl ⊢
  replace hl : lv_has ls 1 [(0, .ref (aB ad k))] := hl
  refine lv_aload_n hx hb dX0_mergings_0 rfl (lv_at hl 0 rfl) ?_
  refine h_get (v := .int (sG S k)) hx hb hts hi0 hown hK0 hV0 (hC.bo hk) rfl 4 (by decide) hw0 rfl dX0_mergings_1 ?_
  exact h_iretR hx hb hr hlocks (by first | rfl | assumption) dX0_mergings_4

set_option maxHeartbeats 4000000 in
set_option maxRecDepth 100000 in
theorem c_X0_runsOf (l : Launch) (G : hG) (hp : HP) (ad : Nat → Nat) (S : CS) (hC : cW ad S hp) (k : Nat) (hk : k < 2) (lv : Nat) (hl4 : lv < 4) : hRd l yX0_runsOf wsX0_runsOf 0 0 G hp [.ref (aB ad k), .int (nI lv)] (some (.int (nI (sN S k lv)))) := by
  refine Met.ofW (cc := cX0_runsOf) (maxL := 2) (ret := (some .int)) (by decide) rfl ?_
  intro p e s m args below meth c s₁ B hml hv
  obtain ⟨rfl, hV0, hK0⟩ := hv
  have hx := B.exec
  have hb := B.bytes
  have hr := B.returns
  have hts := atoms_spec (ws := wsX0_runsOf) B.pre
  have hown : s.vm.findClass RX0 = some m.cls := findClass_of_methodNamed B.named
  have hlocks := B.notSynchronized
  have hF : CallFix p m c cX0_runsOf 2 s [.ref (aB ad k), .int (nI lv)].toArray wsX0_runsOf RX0 := ⟨hx, hb, hml, hown, hts⟩
  have hw0 := hts (.fieldLink RX0 17 "SlipLevels$Binder" "runs" "[I") (by decide +kernel)
  have hi0 : ∀ w ∈ u_ws RX0 TX0 5, w ∈ wsX0_runsOf := by
    intro w h
    unfold wsX0_runsOf
    simp only [List.mem_cons, List.mem_append, h, true_or, or_true]
  have hl := lv_entry ([.ref (aB ad k), .int (nI lv)]) (n := 2) (Nat.le_of_ble_eq_true rfl)
  rw [lg_entry_eq]
  generalize (lg_sl ([.ref (aB ad k), .int (nI lv)]) ++ List.replicate (2 - (lg_sl ([.ref (aB ad k), .int (nI lv)])).length) Slot.unset).toArray = ls at hl ⊢
  replace hl : lv_has ls 2 [(0, .ref (aB ad k)), (1, .int (nI lv))] := hl
  refine lv_iload_n hx hb dX0_runsOf_0 rfl (lv_at hl 1 rfl) ?_
  refine h_if_lt (a := lv) (tgt := 9) hx hb dX0_runsOf_1 (by decide) (by omega) ?_
  refine lv_iload_n hx hb dX0_runsOf_4 rfl (lv_at hl 1 rfl) ?_
  refine lv_iconst (v := nI 4) hx hb dX0_runsOf_5 (by decide) ?_
  refine h_icmp_lt (a := lv) (b := 4) (tgt := 13) hx hb dX0_runsOf_6 (by decide) (by omega) (by omega) (fun c_6 => ?_) (fun c_6 => absurd hl4 c_6)
  refine lv_aload_n hx hb dX0_runsOf_13 rfl (lv_at hl 0 rfl) ?_
  refine h_get (v := .ref (aN ad k)) hx hb hts hi0 hown hK0 hV0 (hC.bo hk) rfl 1 (by decide) hw0 rfl dX0_runsOf_14 ?_
  refine lv_iload_n hx hb dX0_runsOf_17 rfl (lv_at hl 1 rfl) ?_
  refine h_iald (i := lv) hx hb hK0 hV0 (hC.bn hk) (by omega) (by omega) dX0_runsOf_18 ?_
  exact h_iretR hx hb hr hlocks (by first | rfl | assumption) dX0_runsOf_19

set_option maxHeartbeats 4000000 in
set_option maxRecDepth 100000 in
theorem c_X0_runAt (l : Launch) (G : hG) (hp : HP) (ad : Nat → Nat) (S : CS) (hC : cW ad S hp) (k : Nat) (hk : k < 2) (lv r : Nat) (hl4 : lv < 4) (hr0 : r < sN S k lv) : hRd l yX0_runAt wsX0_runAt 0 0 G hp [.ref (aB ad k), .int (nI lv), .int (nI r)] (some (va_rf (some (aS ad (iR S k lv r))))) := by
  refine Met.ofW (cc := cX0_runAt) (maxL := 4) (ret := (some (.object "SlipLevels$Slips"))) (by decide) rfl ?_
  intro p e s m args below meth c s₁ B hml hv
  obtain ⟨rfl, hV0, hK0⟩ := hv
  have hx := B.exec
  have hb := B.bytes
  have hr := B.returns
  have hts := atoms_spec (ws := wsX0_runAt) B.pre
  have hown : s.vm.findClass RX0 = some m.cls := findClass_of_methodNamed B.named
  have hlocks := B.notSynchronized
  have hF : CallFix p m c cX0_runAt 4 s [.ref (aB ad k), .int (nI lv), .int (nI r)].toArray wsX0_runAt RX0 := ⟨hx, hb, hml, hown, hts⟩
  have hw0 := hts (.fieldLink RX0 17 "SlipLevels$Binder" "runs" "[I") (by decide +kernel)
  have hw1 := hts (.fieldLink RX0 11 "SlipLevels$Binder" "rows" "[LSlipLevels$Slips;") (by decide +kernel)
  have hi0 : ∀ w ∈ u_ws RX0 TX0 5, w ∈ wsX0_runAt := by
    intro w h
    unfold wsX0_runAt
    simp only [List.mem_cons, List.mem_append, h, true_or, or_true]
  have hl := lv_entry ([.ref (aB ad k), .int (nI lv), .int (nI r)]) (n := 4) (Nat.le_of_ble_eq_true rfl)
  rw [lg_entry_eq]
  generalize (lg_sl ([.ref (aB ad k), .int (nI lv), .int (nI r)]) ++ List.replicate (4 - (lg_sl ([.ref (aB ad k), .int (nI lv), .int (nI r)])).length) Slot.unset).toArray = ls at hl ⊢
  replace hl : lv_has ls 4 [(0, .ref (aB ad k)), (1, .int (nI lv)), (2, .int (nI r))] := hl
  have hn := hC.ok.2.1 k lv
  refine lv_iload_n hx hb dX0_runAt_0 rfl (lv_at hl 1 rfl) ?_
  refine h_if_lt (a := lv) (tgt := 23) hx hb dX0_runAt_1 (by decide) (by omega) ?_
  refine lv_iload_n hx hb dX0_runAt_4 rfl (lv_at hl 1 rfl) ?_
  refine lv_iconst (v := nI 4) hx hb dX0_runAt_5 (by decide) ?_
  refine h_icmp_ge (a := lv) (b := 4) (tgt := 23) hx hb dX0_runAt_6 (by decide) (by omega) (by omega) (fun c_6 => absurd c_6 (by omega)) (fun c_6 => ?_)
  refine lv_iload_n hx hb dX0_runAt_9 rfl (lv_at hl 2 rfl) ?_
  refine h_if_lt (a := r) (tgt := 23) hx hb dX0_runAt_10 (by decide) (by omega) ?_
  refine lv_iload_n hx hb dX0_runAt_13 rfl (lv_at hl 2 rfl) ?_
  refine lv_aload_n hx hb dX0_runAt_14 rfl (lv_at hl 0 rfl) ?_
  refine h_get (v := .ref (aN ad k)) hx hb hts hi0 hown hK0 hV0 (hC.bo hk) rfl 1 (by decide) hw0 rfl dX0_runAt_15 ?_
  refine lv_iload_n hx hb dX0_runAt_18 rfl (lv_at hl 1 rfl) ?_
  refine h_iald (i := lv) hx hb hK0 hV0 (hC.bn hk) (by omega) (by omega) dX0_runAt_19 ?_
  refine h_icmp_lt (a := r) (b := sN S k lv) (tgt := 25) hx hb dX0_runAt_20 (by decide) (by omega) (by omega) (fun c_20 => ?_) (fun c_20 => absurd hr0 c_20)
  refine lv_iload_n hx hb dX0_runAt_25 rfl (lv_at hl 1 rfl) ?_
  refine lv_iconst (v := nI 3) hx hb dX0_runAt_26 (by decide) ?_
  refine h_imulN hx hb dX0_runAt_27 ?_
  refine lv_aload_n hx hb dX0_runAt_28 rfl (lv_at hl 0 rfl) ?_
  refine h_get (v := .ref (aN ad k)) hx hb hts hi0 hown hK0 hV0 (hC.bo hk) rfl 1 (by decide) hw0 rfl dX0_runAt_29 ?_
  refine lv_iload_n hx hb dX0_runAt_32 rfl (lv_at hl 1 rfl) ?_
  refine h_iald (i := lv) hx hb hK0 hV0 (hC.bn hk) (by omega) (by omega) dX0_runAt_33 ?_
  refine h_iaddN hx hb dX0_runAt_34 ?_
  refine lv_iconst (v := nI 1) hx hb dX0_runAt_35 (by decide) ?_
  refine h_isubN hx hb (by omega) dX0_runAt_36 ?_
  refine lv_iload_n hx hb dX0_runAt_37 rfl (lv_at hl 2 rfl) ?_
  refine h_isubN hx hb (by omega) dX0_runAt_38 ?_
  refine lv_istore_n (lv' := [(3, .int (nI ((lv) * (3) + sN S k lv - 1 - r))), (0, .ref (aB ad k)), (1, .int (nI lv)), (2, .int (nI r))]) hx hb dX0_runAt_39 rfl hl (by decide) rfl (fun ls hl => ?_)
  refine lv_iload_n hx hb dX0_runAt_40 rfl (lv_at hl 0 rfl) ?_
  refine h_if_lt (a := (lv) * (3) + sN S k lv - 1 - r) (tgt := 53) hx hb dX0_runAt_41 (by decide) (by omega) ?_
  refine lv_iload_n hx hb dX0_runAt_44 rfl (lv_at hl 0 rfl) ?_
  refine lv_aload_n hx hb dX0_runAt_45 rfl (lv_at hl 1 rfl) ?_
  refine h_get (v := .ref (aQ ad k)) hx hb hts hi0 hown hK0 hV0 (hC.bo hk) rfl 0 (by decide) hw1 rfl dX0_runAt_46 ?_
  refine h_alen hx hb hK0 hV0 (hC.bq hk) rfl dX0_runAt_49 ?_
  refine h_icmp_lt (a := (lv) * (3) + sN S k lv - 1 - r) (b := 12) (tgt := 57) hx hb dX0_runAt_50 (by decide) (by omega) (by omega) (fun c_50 => ?_) (fun c_50 => absurd (by omega) c_50)
  refine lv_aload_n hx hb dX0_runAt_57 rfl (lv_at hl 1 rfl) ?_
  refine h_get (v := .ref (aQ ad k)) hx hb hts hi0 hown hK0 hV0 (hC.bo hk) rfl 0 (by decide) hw1 rfl dX0_runAt_58 ?_
  refine lv_iload_n hx hb dX0_runAt_61 rfl (lv_at hl 0 rfl) ?_
  refine h_aald (i := (lv) * (3) + sN S k lv - 1 - r) hx hb hK0 hV0 (hC.bq hk) rfl rfl (by omega) (by omega) dX0_runAt_62 ?_
  exact h_aretR hx hb hr (Or.inl ⟨_, rfl⟩) hlocks (congrArg (fun z => va_rf (some (aS ad z))) (by unfold iR; omega)) dX0_runAt_63

set_option maxHeartbeats 4000000 in
set_option maxRecDepth 100000 in
theorem c_X0_runAtN (l : Launch) (G : hG) (hp : HP) (ad : Nat → Nat) (S : CS) (hC : cW ad S hp) (k : Nat) (hk : k < 2) (lv : Nat) (hl4 : lv < 4) (x : Int32) (hx0 : x < 0 ∨ nI (sN S k lv) ≤ x) : hRd l yX0_runAt wsX0_runAt 0 0 G hp [.ref (aB ad k), .int (nI lv), .int x] (some (va_rf none)) := by
  refine Met.ofW (cc := cX0_runAt) (maxL := 4) (ret := (some (.object "SlipLevels$Slips"))) (by decide) rfl ?_
  intro p e s m args below meth c s₁ B hml hv
  obtain ⟨rfl, hV0, hK0⟩ := hv
  have hx := B.exec
  have hb := B.bytes
  have hr := B.returns
  have hts := atoms_spec (ws := wsX0_runAt) B.pre
  have hown : s.vm.findClass RX0 = some m.cls := findClass_of_methodNamed B.named
  have hlocks := B.notSynchronized
  have hF : CallFix p m c cX0_runAt 4 s [.ref (aB ad k), .int (nI lv), .int x].toArray wsX0_runAt RX0 := ⟨hx, hb, hml, hown, hts⟩
  have hw0 := hts (.fieldLink RX0 17 "SlipLevels$Binder" "runs" "[I") (by decide +kernel)
  have hi0 : ∀ w ∈ u_ws RX0 TX0 5, w ∈ wsX0_runAt := by
    intro w h
    unfold wsX0_runAt
    simp only [List.mem_cons, List.mem_append, h, true_or, or_true]
  have hl := lv_entry ([.ref (aB ad k), .int (nI lv), .int x]) (n := 4) (Nat.le_of_ble_eq_true rfl)
  rw [lg_entry_eq]
  generalize (lg_sl ([.ref (aB ad k), .int (nI lv), .int x]) ++ List.replicate (4 - (lg_sl ([.ref (aB ad k), .int (nI lv), .int x])).length) Slot.unset).toArray = ls at hl ⊢
  replace hl : lv_has ls 4 [(0, .ref (aB ad k)), (1, .int (nI lv)), (2, .int x)] := hl
  have hn := hC.ok.2.1 k lv
  refine lv_iload_n hx hb dX0_runAt_0 rfl (lv_at hl 1 rfl) ?_
  refine h_if_lt (a := lv) (tgt := 23) hx hb dX0_runAt_1 (by decide) (by omega) ?_
  refine lv_iload_n hx hb dX0_runAt_4 rfl (lv_at hl 1 rfl) ?_
  refine lv_iconst (v := nI 4) hx hb dX0_runAt_5 (by decide) ?_
  refine h_icmp_ge (a := lv) (b := 4) (tgt := 23) hx hb dX0_runAt_6 (by decide) (by omega) (by omega) (fun c_6 => absurd c_6 (by omega)) (fun c_6 => ?_)
  refine lv_iload_n hx hb dX0_runAt_9 rfl (lv_at hl 2 rfl) ?_
  refine lv_if_lt (tgt := 23) hx hb dX0_runAt_10 (by decide) (fun c_10 => ?_) (fun c_10 => ?_)
  · refine lv_null hx hb dX0_runAt_23 ?_
    exact h_aretR hx hb hr (Or.inl ⟨_, rfl⟩) hlocks rfl dX0_runAt_24
  · refine lv_iload_n hx hb dX0_runAt_13 rfl (lv_at hl 2 rfl) ?_
    refine lv_aload_n hx hb dX0_runAt_14 rfl (lv_at hl 0 rfl) ?_
    refine h_get (v := .ref (aN ad k)) hx hb hts hi0 hown hK0 hV0 (hC.bo hk) rfl 1 (by decide) hw0 rfl dX0_runAt_15 ?_
    refine lv_iload_n hx hb dX0_runAt_18 rfl (lv_at hl 1 rfl) ?_
    refine h_iald (i := lv) hx hb hK0 hV0 (hC.bn hk) (by omega) (by omega) dX0_runAt_19 ?_
    refine lv_icmp_lt (tgt := 25) hx hb dX0_runAt_20 (by decide) (fun c_20 => absurd c_20 (by rcases hx0 with h | h; exact absurd h c_10; exact Int32.not_lt.mpr h)) (fun c_20 => ?_)
    refine lv_null hx hb dX0_runAt_23 ?_
    exact h_aretR hx hb hr (Or.inl ⟨_, rfl⟩) hlocks rfl dX0_runAt_24

set_option maxHeartbeats 4000000 in
set_option maxRecDepth 100000 in
theorem c_X0_rowAt (l : Launch) (G : hG) (hp : HP) (ad : Nat → Nat) (S : CS) (hC : cW ad S hp) (k : Nat) (hk : k < 2) (lv r : Nat) (hl4 : lv < 4) (hr0 : r < 3) : hRd l yX0_rowAt wsX0_rowAt 0 0 G hp [.ref (aB ad k), .int (nI lv), .int (nI r)] (some (va_rf (some (aS ad (1 + 13 * k + (3 * lv + r)))))) := by
  refine Met.ofW (cc := cX0_rowAt) (maxL := 3) (ret := (some (.object "SlipLevels$Slips"))) (by decide) rfl ?_
  intro p e s m args below meth c s₁ B hml hv
  obtain ⟨rfl, hV0, hK0⟩ := hv
  have hx := B.exec
  have hb := B.bytes
  have hr := B.returns
  have hts := atoms_spec (ws := wsX0_rowAt) B.pre
  have hown : s.vm.findClass RX0 = some m.cls := findClass_of_methodNamed B.named
  have hlocks := B.notSynchronized
  have hF : CallFix p m c cX0_rowAt 3 s [.ref (aB ad k), .int (nI lv), .int (nI r)].toArray wsX0_rowAt RX0 := ⟨hx, hb, hml, hown, hts⟩
  have hw0 := hts (.fieldLink RX0 11 "SlipLevels$Binder" "rows" "[LSlipLevels$Slips;") (by decide +kernel)
  have hi0 : ∀ w ∈ u_ws RX0 TX0 5, w ∈ wsX0_rowAt := by
    intro w h
    unfold wsX0_rowAt
    simp only [List.mem_cons, List.mem_append, h, true_or, or_true]
  have hl := lv_entry ([.ref (aB ad k), .int (nI lv), .int (nI r)]) (n := 3) (Nat.le_of_ble_eq_true rfl)
  rw [lg_entry_eq]
  generalize (lg_sl ([.ref (aB ad k), .int (nI lv), .int (nI r)]) ++ List.replicate (3 - (lg_sl ([.ref (aB ad k), .int (nI lv), .int (nI r)])).length) Slot.unset).toArray = ls at hl ⊢
  replace hl : lv_has ls 3 [(0, .ref (aB ad k)), (1, .int (nI lv)), (2, .int (nI r))] := hl
  refine lv_iload_n hx hb dX0_rowAt_0 rfl (lv_at hl 1 rfl) ?_
  refine h_if_lt (a := lv) (tgt := 18) hx hb dX0_rowAt_1 (by decide) (by omega) ?_
  refine lv_iload_n hx hb dX0_rowAt_4 rfl (lv_at hl 1 rfl) ?_
  refine lv_iconst (v := nI 4) hx hb dX0_rowAt_5 (by decide) ?_
  refine h_icmp_ge (a := lv) (b := 4) (tgt := 18) hx hb dX0_rowAt_6 (by decide) (by omega) (by omega) (fun c_6 => absurd c_6 (by omega)) (fun c_6 => ?_)
  refine lv_iload_n hx hb dX0_rowAt_9 rfl (lv_at hl 2 rfl) ?_
  refine h_if_lt (a := r) (tgt := 18) hx hb dX0_rowAt_10 (by decide) (by omega) ?_
  refine lv_iload_n hx hb dX0_rowAt_13 rfl (lv_at hl 2 rfl) ?_
  refine lv_iconst (v := nI 3) hx hb dX0_rowAt_14 (by decide) ?_
  refine h_icmp_lt (a := r) (b := 3) (tgt := 20) hx hb dX0_rowAt_15 (by decide) (by omega) (by omega) (fun c_15 => ?_) (fun c_15 => absurd hr0 c_15)
  refine lv_aload_n hx hb dX0_rowAt_20 rfl (lv_at hl 0 rfl) ?_
  refine h_get (v := .ref (aQ ad k)) hx hb hts hi0 hown hK0 hV0 (hC.bo hk) rfl 0 (by decide) hw0 rfl dX0_rowAt_21 ?_
  refine lv_iload_n hx hb dX0_rowAt_24 rfl (lv_at hl 1 rfl) ?_
  refine lv_iconst (v := nI 3) hx hb dX0_rowAt_25 (by decide) ?_
  refine h_imulN hx hb dX0_rowAt_26 ?_
  refine lv_iload_n hx hb dX0_rowAt_27 rfl (lv_at hl 2 rfl) ?_
  refine h_iaddN hx hb dX0_rowAt_28 ?_
  refine h_aald (i := (lv) * (3) + r) hx hb hK0 hV0 (hC.bq hk) rfl rfl (by omega) (by omega) dX0_rowAt_29 ?_
  exact h_aretR hx hb hr (Or.inl ⟨_, rfl⟩) hlocks (congrArg (fun z => va_rf (some (aS ad z))) (by omega)) dX0_rowAt_30

set_option maxHeartbeats 4000000 in
set_option maxRecDepth 100000 in
theorem c_X0_slipsOf (l : Launch) (G : hG) (hp : HP) (ad : Nat → Nat) (S : CS) (hC : cW ad S hp) (k : Nat) (hk : k < 2) (lv : Nat) (hl4 : lv < 4) : hRd l yX0_slipsOf wsX0_slipsOf 1 23 G hp [.ref (aB ad k), .int (nI lv)] (some (.int (nI (slB S k lv)))) := by
  refine Met.ofW (cc := cX0_slipsOf) (maxL := 5) (ret := (some .int)) (by decide) rfl ?_
  intro p e s m args below meth c s₁ B hml hv
  obtain ⟨rfl, hV0, hK0⟩ := hv
  have hx := B.exec
  have hb := B.bytes
  have hr := B.returns
  have hts := atoms_spec (ws := wsX0_slipsOf) B.pre
  have hown : s.vm.findClass RX0 = some m.cls := findClass_of_methodNamed B.named
  have hlocks := B.notSynchronized
  have hF : CallFix p m c cX0_slipsOf 5 s [.ref (aB ad k), .int (nI lv)].toArray wsX0_slipsOf RX0 := ⟨hx, hb, hml, hown, hts⟩
  have hl := lv_entry ([.ref (aB ad k), .int (nI lv)]) (n := 5) (Nat.le_of_ble_eq_true rfl)
  rw [lg_entry_eq]
  generalize (lg_sl ([.ref (aB ad k), .int (nI lv)]) ++ List.replicate (5 - (lg_sl ([.ref (aB ad k), .int (nI lv)])).length) Slot.unset).toArray = ls at hl ⊢
  replace hl : lv_has ls 5 [(0, .ref (aB ad k)), (1, .int (nI lv))] := hl
  have hn := hC.ok.2.1 k lv
  refine lv_iconst (v := nI 0) hx hb dX0_slipsOf_0 (by decide) ?_
  refine lv_istore_n (lv' := [(2, .int (nI 0)), (0, .ref (aB ad k)), (1, .int (nI lv))]) hx hb dX0_slipsOf_1 rfl hl (by decide) rfl (fun ls hl => ?_)
  refine lv_iconst (v := nI 0) hx hb dX0_slipsOf_2 (by decide) ?_
  refine lv_istore_n (lv' := [(3, .int (nI 0)), (2, .int (nI 0)), (0, .ref (aB ad k)), (1, .int (nI lv))]) hx hb dX0_slipsOf_3 rfl hl (by decide) rfl (fun ls hl => ?_)
  replace hl : lv_has ls 5 [(3, .int (nI 0)), (2, .int (nI (snA (fun r => szR (gC S k lv r)) 0))), (0, .ref (aB ad k)), (1, .int (nI lv))] := lv_sub hl [0, 1, 2, 3] rfl
  revert ls
  refine h_loop (sN S k lv) (fun i => [(3, .int (nI i)), (2, .int (nI (snA (fun r => szR (gC S k lv r)) i))), (0, .ref (aB ad k)), (1, .int (nI lv))]) (fun i => True) (fun i hi4 hI4 ih4 ls hl => ?_) 0 (Nat.zero_le _) trivial
  refine lv_iload_n hx hb dX0_slipsOf_4 rfl (lv_at hl 0 rfl) ?_
  refine lv_aload_n hx hb dX0_slipsOf_5 rfl (lv_at hl 2 rfl) ?_
  refine lv_iload_n hx hb dX0_slipsOf_6 rfl (lv_at hl 3 rfl) ?_
  refine h_rdV (As := [.int (nI lv)]) (rest := [.int (nI i)]) hF (c_X0_runsOf l G hp ad S hC k hk lv (by omega)) 1 gX0_slipsOf_X0_runsOf rfl (by decide +kernel) ⟨Nat.le_of_ble_eq_true rfl, Nat.le_of_ble_eq_true rfl⟩ hK0 hV0 (hC.bo hk) rfl rfl rfl hl.1 rfl (Nat.le_of_ble_eq_true rfl) (Nat.le_refl _) (Nat.le_refl _) dX0_slipsOf_7 ?_
  refine h_icmp_ge (a := i) (b := sN S k lv) (tgt := 44) hx hb dX0_slipsOf_10 (by decide) (by omega) (by omega) (fun c_10 => ?_) (fun c_10 => ?_)
  · refine lv_iload_n hx hb dX0_slipsOf_44 rfl (lv_at hl 1 rfl) ?_
    exact h_iretR hx hb hr hlocks (by rw [show i = sN S k lv by omega]; rfl) dX0_slipsOf_45
  · refine lv_aload_n hx hb dX0_slipsOf_13 rfl (lv_at hl 2 rfl) ?_
    refine lv_iload_n hx hb dX0_slipsOf_14 rfl (lv_at hl 3 rfl) ?_
    refine lv_iload_n hx hb dX0_slipsOf_15 rfl (lv_at hl 0 rfl) ?_
    refine h_rdV (As := [.int (nI lv), .int (nI i)]) (rest := []) hF (c_X0_runAt l G hp ad S hC k hk lv i (by omega) (by omega)) 2 gX0_slipsOf_X0_runAt rfl (by decide +kernel) ⟨Nat.le_of_ble_eq_true rfl, Nat.le_of_ble_eq_true rfl⟩ hK0 hV0 (hC.bo hk) rfl rfl rfl hl.1 rfl (Nat.le_of_ble_eq_true rfl) (Nat.le_refl _) (Nat.le_refl _) dX0_slipsOf_16 ?_
    refine lv_astore (lv' := [(4, .ref (aS ad (iR S k lv i))), (3, .int (nI i)), (2, .int (nI (snA (fun r => szR (gC S k lv r)) i))), (0, .ref (aB ad k)), (1, .int (nI lv))]) hx hb dX0_slipsOf_19 hl (by decide) rfl (fun ls hl => ?_)
    refine lv_iload_n hx hb dX0_slipsOf_21 rfl (lv_at hl 2 rfl) ?_
    refine lv_aload hx hb dX0_slipsOf_22 (lv_at hl 0 rfl) ?_
    refine lv_ifnonnull (tgt := 31) hx hb dX0_slipsOf_24 (by decide) ?_
    refine lv_aload hx hb dX0_slipsOf_31 (lv_at hl 0 rfl) ?_
    refine h_rdV (As := []) (rest := [.int (nI (snA (fun r => szR (gC S k lv r)) i))]) hF (c_X1_size l G hp (aS ad (iR S k lv i)) (aW ad (iR S k lv i)) (gC S k lv i) (hC.run hk (by omega) (by omega))) 0 gX0_slipsOf_X1_size rfl (by decide +kernel) ⟨Nat.le_of_ble_eq_true rfl, Nat.le_of_ble_eq_true rfl⟩ hK0 hV0 (hC.run hk (by omega) (by omega)).1 rfl rfl rfl hl.1 rfl (Nat.le_of_ble_eq_true rfl) (Nat.le_refl _) (Nat.le_refl _) dX0_slipsOf_33 ?_
    refine h_iaddN hx hb dX0_slipsOf_36 ?_
    refine lv_istore_n (lv' := [(2, .int (nI (snA (fun r => szR (gC S k lv r)) i + szR (gC S k lv i)))), (4, .ref (aS ad (iR S k lv i))), (3, .int (nI i)), (0, .ref (aB ad k)), (1, .int (nI lv))]) hx hb dX0_slipsOf_37 rfl hl (by decide) rfl (fun ls hl => ?_)
    refine lv_iinc (v := nI (i + 1)) (lv' := [(3, .int (nI (i + 1))), (2, .int (nI (snA (fun r => szR (gC S k lv r)) i + szR (gC S k lv i)))), (4, .ref (aS ad (iR S k lv i))), (0, .ref (aB ad k)), (1, .int (nI lv))]) hx hb dX0_slipsOf_38 hl (k := 2) rfl (nI_add (i) 1) (by decide) rfl (fun ls hl => ?_)
    refine lv_goto (tgt := 4) hx hb dX0_slipsOf_41 (by decide) ?_
    exact ih4 (by omega) trivial ls (lv_sub hl [0, 1, 3, 4] rfl)

set_option maxHeartbeats 4000000 in
set_option maxRecDepth 100000 in
theorem c_X0_tombsOf (l : Launch) (G : hG) (hp : HP) (ad : Nat → Nat) (S : CS) (hC : cW ad S hp) (k : Nat) (hk : k < 2) (lv : Nat) (hl4 : lv < 4) : hRd l yX0_tombsOf wsX0_tombsOf 1 23 G hp [.ref (aB ad k), .int (nI lv)] (some (.int (nI (tbB S k lv)))) := by
  refine Met.ofW (cc := cX0_tombsOf) (maxL := 5) (ret := (some .int)) (by decide) rfl ?_
  intro p e s m args below meth c s₁ B hml hv
  obtain ⟨rfl, hV0, hK0⟩ := hv
  have hx := B.exec
  have hb := B.bytes
  have hr := B.returns
  have hts := atoms_spec (ws := wsX0_tombsOf) B.pre
  have hown : s.vm.findClass RX0 = some m.cls := findClass_of_methodNamed B.named
  have hlocks := B.notSynchronized
  have hF : CallFix p m c cX0_tombsOf 5 s [.ref (aB ad k), .int (nI lv)].toArray wsX0_tombsOf RX0 := ⟨hx, hb, hml, hown, hts⟩
  have hl := lv_entry ([.ref (aB ad k), .int (nI lv)]) (n := 5) (Nat.le_of_ble_eq_true rfl)
  rw [lg_entry_eq]
  generalize (lg_sl ([.ref (aB ad k), .int (nI lv)]) ++ List.replicate (5 - (lg_sl ([.ref (aB ad k), .int (nI lv)])).length) Slot.unset).toArray = ls at hl ⊢
  replace hl : lv_has ls 5 [(0, .ref (aB ad k)), (1, .int (nI lv))] := hl
  have hn := hC.ok.2.1 k lv
  refine lv_iconst (v := nI 0) hx hb dX0_tombsOf_0 (by decide) ?_
  refine lv_istore_n (lv' := [(2, .int (nI 0)), (0, .ref (aB ad k)), (1, .int (nI lv))]) hx hb dX0_tombsOf_1 rfl hl (by decide) rfl (fun ls hl => ?_)
  refine lv_iconst (v := nI 0) hx hb dX0_tombsOf_2 (by decide) ?_
  refine lv_istore_n (lv' := [(3, .int (nI 0)), (2, .int (nI 0)), (0, .ref (aB ad k)), (1, .int (nI lv))]) hx hb dX0_tombsOf_3 rfl hl (by decide) rfl (fun ls hl => ?_)
  replace hl : lv_has ls 5 [(3, .int (nI 0)), (2, .int (nI (snA (fun r => tbR (gC S k lv r)) 0))), (0, .ref (aB ad k)), (1, .int (nI lv))] := lv_sub hl [0, 1, 2, 3] rfl
  revert ls
  refine h_loop (sN S k lv) (fun i => [(3, .int (nI i)), (2, .int (nI (snA (fun r => tbR (gC S k lv r)) i))), (0, .ref (aB ad k)), (1, .int (nI lv))]) (fun i => True) (fun i hi4 hI4 ih4 ls hl => ?_) 0 (Nat.zero_le _) trivial
  refine lv_iload_n hx hb dX0_tombsOf_4 rfl (lv_at hl 0 rfl) ?_
  refine lv_aload_n hx hb dX0_tombsOf_5 rfl (lv_at hl 2 rfl) ?_
  refine lv_iload_n hx hb dX0_tombsOf_6 rfl (lv_at hl 3 rfl) ?_
  refine h_rdV (As := [.int (nI lv)]) (rest := [.int (nI i)]) hF (c_X0_runsOf l G hp ad S hC k hk lv (by omega)) 1 gX0_tombsOf_X0_runsOf rfl (by decide +kernel) ⟨Nat.le_of_ble_eq_true rfl, Nat.le_of_ble_eq_true rfl⟩ hK0 hV0 (hC.bo hk) rfl rfl rfl hl.1 rfl (Nat.le_of_ble_eq_true rfl) (Nat.le_refl _) (Nat.le_refl _) dX0_tombsOf_7 ?_
  refine h_icmp_ge (a := i) (b := sN S k lv) (tgt := 44) hx hb dX0_tombsOf_10 (by decide) (by omega) (by omega) (fun c_10 => ?_) (fun c_10 => ?_)
  · refine lv_iload_n hx hb dX0_tombsOf_44 rfl (lv_at hl 1 rfl) ?_
    exact h_iretR hx hb hr hlocks (by rw [show i = sN S k lv by omega]; rfl) dX0_tombsOf_45
  · refine lv_aload_n hx hb dX0_tombsOf_13 rfl (lv_at hl 2 rfl) ?_
    refine lv_iload_n hx hb dX0_tombsOf_14 rfl (lv_at hl 3 rfl) ?_
    refine lv_iload_n hx hb dX0_tombsOf_15 rfl (lv_at hl 0 rfl) ?_
    refine h_rdV (As := [.int (nI lv), .int (nI i)]) (rest := []) hF (c_X0_runAt l G hp ad S hC k hk lv i (by omega) (by omega)) 2 gX0_tombsOf_X0_runAt rfl (by decide +kernel) ⟨Nat.le_of_ble_eq_true rfl, Nat.le_of_ble_eq_true rfl⟩ hK0 hV0 (hC.bo hk) rfl rfl rfl hl.1 rfl (Nat.le_of_ble_eq_true rfl) (Nat.le_refl _) (Nat.le_refl _) dX0_tombsOf_16 ?_
    refine lv_astore (lv' := [(4, .ref (aS ad (iR S k lv i))), (3, .int (nI i)), (2, .int (nI (snA (fun r => tbR (gC S k lv r)) i))), (0, .ref (aB ad k)), (1, .int (nI lv))]) hx hb dX0_tombsOf_19 hl (by decide) rfl (fun ls hl => ?_)
    refine lv_iload_n hx hb dX0_tombsOf_21 rfl (lv_at hl 2 rfl) ?_
    refine lv_aload hx hb dX0_tombsOf_22 (lv_at hl 0 rfl) ?_
    refine lv_ifnonnull (tgt := 31) hx hb dX0_tombsOf_24 (by decide) ?_
    refine lv_aload hx hb dX0_tombsOf_31 (lv_at hl 0 rfl) ?_
    refine h_rdV (As := []) (rest := [.int (nI (snA (fun r => tbR (gC S k lv r)) i))]) hF (c_X1_tombs l G hp (aS ad (iR S k lv i)) (aW ad (iR S k lv i)) (gC S k lv i) (hC.run hk (by omega) (by omega))) 0 gX0_tombsOf_X1_tombs rfl (by decide +kernel) ⟨Nat.le_of_ble_eq_true rfl, Nat.le_of_ble_eq_true rfl⟩ hK0 hV0 (hC.run hk (by omega) (by omega)).1 rfl rfl rfl hl.1 rfl (Nat.le_of_ble_eq_true rfl) (Nat.le_refl _) (Nat.le_refl _) dX0_tombsOf_33 ?_
    refine h_iaddN hx hb dX0_tombsOf_36 ?_
    refine lv_istore_n (lv' := [(2, .int (nI (snA (fun r => tbR (gC S k lv r)) i + tbR (gC S k lv i)))), (4, .ref (aS ad (iR S k lv i))), (3, .int (nI i)), (0, .ref (aB ad k)), (1, .int (nI lv))]) hx hb dX0_tombsOf_37 rfl hl (by decide) rfl (fun ls hl => ?_)
    refine lv_iinc (v := nI (i + 1)) (lv' := [(3, .int (nI (i + 1))), (2, .int (nI (snA (fun r => tbR (gC S k lv r)) i + tbR (gC S k lv i)))), (4, .ref (aS ad (iR S k lv i))), (0, .ref (aB ad k)), (1, .int (nI lv))]) hx hb dX0_tombsOf_38 hl (k := 2) rfl (nI_add (i) 1) (by decide) rfl (fun ls hl => ?_)
    refine lv_goto (tgt := 4) hx hb dX0_tombsOf_41 (by decide) ?_
    exact ih4 (by omega) trivial ls (lv_sub hl [0, 1, 3, 4] rfl)

set_option maxHeartbeats 4000000 in
set_option maxRecDepth 100000 in
theorem c_X0_slips (l : Launch) (G : hG) (hp : HP) (ad : Nat → Nat) (S : CS) (hC : cW ad S hp) (k : Nat) (hk : k < 2) : hRd l yX0_slips wsX0_slips 2 47 G hp [.ref (aB ad k)] (some (.int (nI (slAll S k)))) := by
  refine Met.ofW (cc := cX0_slips) (maxL := 3) (ret := (some .int)) (by decide) rfl ?_
  intro p e s m args below meth c s₁ B hml hv
  obtain ⟨rfl, hV0, hK0⟩ := hv
  have hx := B.exec
  have hb := B.bytes
  have hr := B.returns
  have hts := atoms_spec (ws := wsX0_slips) B.pre
  have hown : s.vm.findClass RX0 = some m.cls := findClass_of_methodNamed B.named
  have hlocks := B.notSynchronized
  have hF : CallFix p m c cX0_slips 3 s [.ref (aB ad k)].toArray wsX0_slips RX0 := ⟨hx, hb, hml, hown, hts⟩
  have hl := lv_entry ([.ref (aB ad k)]) (n := 3) (Nat.le_of_ble_eq_true rfl)
  rw [lg_entry_eq]
  generalize (lg_sl ([.ref (aB ad k)]) ++ List.replicate (3 - (lg_sl ([.ref (aB ad k)])).length) Slot.unset).toArray = ls at hl ⊢
  replace hl : lv_has ls 3 [(0, .ref (aB ad k))] := hl
  refine lv_iconst (v := nI 0) hx hb dX0_slips_0 (by decide) ?_
  refine lv_istore_n (lv' := [(1, .int (nI 0)), (0, .ref (aB ad k))]) hx hb dX0_slips_1 rfl hl (by decide) rfl (fun ls hl => ?_)
  refine lv_iconst (v := nI 0) hx hb dX0_slips_2 (by decide) ?_
  refine lv_istore_n (lv' := [(2, .int (nI 0)), (1, .int (nI 0)), (0, .ref (aB ad k))]) hx hb dX0_slips_3 rfl hl (by decide) rfl (fun ls hl => ?_)
  replace hl : lv_has ls 3 [(2, .int (nI 0)), (1, .int (nI (snA (fun l => slB S k l) 0))), (0, .ref (aB ad k))] := lv_sub hl [0, 1, 2] rfl
  revert ls
  refine h_loop 4 (fun i => [(2, .int (nI i)), (1, .int (nI (snA (fun l => slB S k l) i))), (0, .ref (aB ad k))]) (fun i => True) (fun i hi4 hI4 ih4 ls hl => ?_) 0 (Nat.zero_le _) trivial
  refine lv_iload_n hx hb dX0_slips_4 rfl (lv_at hl 0 rfl) ?_
  refine lv_iconst (v := nI 4) hx hb dX0_slips_5 (by decide) ?_
  refine h_icmp_ge (a := i) (b := 4) (tgt := 23) hx hb dX0_slips_6 (by decide) (by omega) (by omega) (fun c_6 => ?_) (fun c_6 => ?_)
  · refine lv_iload_n hx hb dX0_slips_23 rfl (lv_at hl 1 rfl) ?_
    exact h_iretR hx hb hr hlocks (by rw [show i = 4 by omega]; rfl) dX0_slips_24
  · refine lv_iload_n hx hb dX0_slips_9 rfl (lv_at hl 1 rfl) ?_
    refine lv_aload_n hx hb dX0_slips_10 rfl (lv_at hl 2 rfl) ?_
    refine lv_iload_n hx hb dX0_slips_11 rfl (lv_at hl 0 rfl) ?_
    refine h_rdV (As := [.int (nI i)]) (rest := [.int (nI (snA (fun l => slB S k l) i))]) hF (c_X0_slipsOf l G hp ad S hC k hk i (by omega)) 1 gX0_slips_X0_slipsOf rfl (by decide +kernel) ⟨Nat.le_of_ble_eq_true rfl, Nat.le_of_ble_eq_true rfl⟩ hK0 hV0 (hC.bo hk) rfl rfl rfl hl.1 rfl (Nat.le_of_ble_eq_true rfl) (Nat.le_refl _) (Nat.le_refl _) dX0_slips_12 ?_
    refine h_iaddN hx hb dX0_slips_15 ?_
    refine lv_istore_n (lv' := [(1, .int (nI (snA (fun l => slB S k l) i + slB S k i))), (2, .int (nI i)), (0, .ref (aB ad k))]) hx hb dX0_slips_16 rfl hl (by decide) rfl (fun ls hl => ?_)
    refine lv_iinc (v := nI (i + 1)) (lv' := [(2, .int (nI (i + 1))), (1, .int (nI (snA (fun l => slB S k l) i + slB S k i))), (0, .ref (aB ad k))]) hx hb dX0_slips_17 hl (k := 1) rfl (nI_add (i) 1) (by decide) rfl (fun ls hl => ?_)
    refine lv_goto (tgt := 4) hx hb dX0_slips_20 (by decide) ?_
    exact ih4 (by omega) trivial ls (lv_sub hl [0, 1, 2] rfl)

set_option maxHeartbeats 4000000 in
set_option maxRecDepth 100000 in
theorem c_X0_firstWordIn (l : Launch) (G : hG) (hp : HP) (ad : Nat → Nat) (S : CS) (hC : cW ad S hp) (k : Nat) (hk : k < 2) (lv : Nat) (hl4 : lv < 4) (x : Nat) (hx6 : x < 64) : hRd l yX0_firstWordIn wsX0_firstWordIn 1 23 G hp [.ref (aB ad k), .int (nI lv), .int (nI x)] (some (.int (fsL (gC S k lv) x (sN S k lv) 0))) := by
  refine Met.ofW (cc := cX0_firstWordIn) (maxL := 5) (ret := (some .int)) (by decide) rfl ?_
  intro p e s m args below meth c s₁ B hml hv
  obtain ⟨rfl, hV0, hK0⟩ := hv
  have hx := B.exec
  have hb := B.bytes
  have hr := B.returns
  have hts := atoms_spec (ws := wsX0_firstWordIn) B.pre
  have hown : s.vm.findClass RX0 = some m.cls := findClass_of_methodNamed B.named
  have hlocks := B.notSynchronized
  have hF : CallFix p m c cX0_firstWordIn 5 s [.ref (aB ad k), .int (nI lv), .int (nI x)].toArray wsX0_firstWordIn RX0 := ⟨hx, hb, hml, hown, hts⟩
  have hl := lv_entry ([.ref (aB ad k), .int (nI lv), .int (nI x)]) (n := 5) (Nat.le_of_ble_eq_true rfl)
  rw [lg_entry_eq]
  generalize (lg_sl ([.ref (aB ad k), .int (nI lv), .int (nI x)]) ++ List.replicate (5 - (lg_sl ([.ref (aB ad k), .int (nI lv), .int (nI x)])).length) Slot.unset).toArray = ls at hl ⊢
  replace hl : lv_has ls 5 [(0, .ref (aB ad k)), (1, .int (nI lv)), (2, .int (nI x))] := hl
  have hn := hC.ok.2.1 k lv
  refine lv_iconst (v := nI 0) hx hb dX0_firstWordIn_0 (by decide) ?_
  refine lv_istore_n (lv' := [(3, .int (nI 0)), (0, .ref (aB ad k)), (1, .int (nI lv)), (2, .int (nI x))]) hx hb dX0_firstWordIn_1 rfl hl (by decide) rfl (fun ls hl => ?_)
  replace hl : lv_has ls 5 [(3, .int (nI 0)), (0, .ref (aB ad k)), (1, .int (nI lv)), (2, .int (nI x))] := lv_sub hl [0, 1, 2, 3] rfl
  revert ls
  refine h_loop 3 (fun i => [(3, .int (nI i)), (0, .ref (aB ad k)), (1, .int (nI lv)), (2, .int (nI x))]) (fun i => ∀ r, r < i → r < sN S k lv → hasR (gC S k lv r) x = false) (fun i hi2 hI2 ih2 ls hl => ?_) 0 (Nat.zero_le _) (fun r h => absurd h (Nat.not_lt_zero r))
  refine lv_iload_n hx hb dX0_firstWordIn_2 rfl (lv_at hl 0 rfl) ?_
  refine lv_iconst (v := nI 3) hx hb dX0_firstWordIn_3 (by decide) ?_
  refine h_icmp_ge (a := i) (b := 3) (tgt := 44) hx hb dX0_firstWordIn_4 (by decide) (by omega) (by omega) (fun c_4 => ?_) (fun c_4 => ?_)
  · refine lv_bipush (v := (-2)) hx hb dX0_firstWordIn_44 (by decide) ?_
    exact h_iretR hx hb hr hlocks (fsL_none (fun r2 _ h => hI2 r2 (by omega) (by omega))).symm dX0_firstWordIn_46
  · refine lv_aload_n hx hb dX0_firstWordIn_7 rfl (lv_at hl 1 rfl) ?_
    refine lv_iload_n hx hb dX0_firstWordIn_8 rfl (lv_at hl 2 rfl) ?_
    refine lv_iload_n hx hb dX0_firstWordIn_9 rfl (lv_at hl 0 rfl) ?_
    rcases Nat.lt_or_ge i (sN S k lv) with hrn | hrn
    · refine h_rdV (As := [.int (nI lv), .int (nI i)]) (rest := []) hF (c_X0_runAt l G hp ad S hC k hk lv i (by omega) (by omega)) 2 gX0_firstWordIn_X0_runAt rfl (by decide +kernel) ⟨Nat.le_of_ble_eq_true rfl, Nat.le_of_ble_eq_true rfl⟩ hK0 hV0 (hC.bo hk) rfl rfl rfl hl.1 rfl (Nat.le_of_ble_eq_true rfl) (Nat.le_refl _) (Nat.le_refl _) dX0_firstWordIn_10 ?_
      refine lv_astore (lv' := [(4, .ref (aS ad (iR S k lv i))), (3, .int (nI i)), (0, .ref (aB ad k)), (1, .int (nI lv)), (2, .int (nI x))]) hx hb dX0_firstWordIn_13 hl (by decide) rfl (fun ls hl => ?_)
      refine lv_aload hx hb dX0_firstWordIn_15 (lv_at hl 0 rfl) ?_
      refine lv_ifnull hx hb dX0_firstWordIn_17 ?_
      refine lv_aload hx hb dX0_firstWordIn_20 (lv_at hl 0 rfl) ?_
      refine lv_iload_n hx hb dX0_firstWordIn_22 rfl (lv_at hl 4 rfl) ?_
      refine h_rdV (As := [.int (nI x)]) (rest := []) hF (c_X1_wordAt l G hp (aS ad (iR S k lv i)) (aW ad (iR S k lv i)) (gC S k lv i) (hC.run hk (by omega) (by omega)) x (by omega)) 1 gX0_firstWordIn_X1_wordAt rfl (by decide +kernel) ⟨Nat.le_of_ble_eq_true rfl, Nat.le_of_ble_eq_true rfl⟩ hK0 hV0 (hC.run hk (by omega) (by omega)).1 rfl rfl rfl hl.1 rfl (Nat.le_of_ble_eq_true rfl) (Nat.le_refl _) (Nat.le_refl _) dX0_firstWordIn_23 ?_
      refine lv_bipush (v := (-2)) hx hb dX0_firstWordIn_26 (by decide) ?_
      refine lv_icmp_eq (tgt := 38) hx hb dX0_firstWordIn_28 (by decide) (fun c_28 => ?_) (fun c_28 => ?_)
      · refine lv_iinc (v := nI (i + 1)) (lv' := [(3, .int (nI (i + 1))), (4, .ref (aS ad (iR S k lv i))), (0, .ref (aB ad k)), (1, .int (nI lv)), (2, .int (nI x))]) hx hb dX0_firstWordIn_38 hl (k := 1) rfl (nI_add (i) 1) (by decide) rfl (fun ls hl => ?_)
        refine lv_goto (tgt := 2) hx hb dX0_firstWordIn_41 (by decide) ?_
        exact ih2 (by omega) (fun r h1 h2 => by by_cases e : r = i; subst e; exact hasR_false c_28; exact hI2 r (by omega) h2) ls (lv_sub hl [0, 2, 3, 4] rfl)
      · refine lv_aload hx hb dX0_firstWordIn_31 (lv_at hl 0 rfl) ?_
        refine lv_iload_n hx hb dX0_firstWordIn_33 rfl (lv_at hl 4 rfl) ?_
        refine h_rdV (As := [.int (nI x)]) (rest := []) hF (c_X1_wordAt l G hp (aS ad (iR S k lv i)) (aW ad (iR S k lv i)) (gC S k lv i) (hC.run hk (by omega) (by omega)) x (by omega)) 1 gX0_firstWordIn_X1_wordAt rfl (by decide +kernel) ⟨Nat.le_of_ble_eq_true rfl, Nat.le_of_ble_eq_true rfl⟩ hK0 hV0 (hC.run hk (by omega) (by omega)).1 rfl rfl rfl hl.1 rfl (Nat.le_of_ble_eq_true rfl) (Nat.le_refl _) (Nat.le_refl _) dX0_firstWordIn_34 ?_
        exact h_iretR hx hb hr hlocks (fsL_some (hasR_true c_28) (Nat.zero_le i) (by omega) (fun r2 _ h => hI2 r2 h (by omega))).symm dX0_firstWordIn_37
    · refine h_rdV (As := [.int (nI lv), .int (nI i)]) (rest := []) hF (c_X0_runAtN l G hp ad S hC k hk lv (by omega) (nI i) (Or.inr (nI_le (by omega) (by omega)))) 2 gX0_firstWordIn_X0_runAt rfl (by decide +kernel) ⟨Nat.le_of_ble_eq_true rfl, Nat.le_of_ble_eq_true rfl⟩ hK0 hV0 (hC.bo hk) rfl rfl rfl hl.1 rfl (Nat.le_of_ble_eq_true rfl) (Nat.le_refl _) (Nat.le_refl _) dX0_firstWordIn_10 ?_
      refine lv_astoreN (lv' := [(4, .null), (3, .int (nI i)), (0, .ref (aB ad k)), (1, .int (nI lv)), (2, .int (nI x))]) hx hb dX0_firstWordIn_13 hl (by decide) rfl (fun ls hl => ?_)
      refine lv_aloadN hx hb dX0_firstWordIn_15 (lv_at hl 0 rfl) ?_
      refine lv_ifnullN (tgt := 38) hx hb dX0_firstWordIn_17 (by decide) ?_
      refine lv_iinc (v := nI (i + 1)) (lv' := [(3, .int (nI (i + 1))), (4, .null), (0, .ref (aB ad k)), (1, .int (nI lv)), (2, .int (nI x))]) hx hb dX0_firstWordIn_38 hl (k := 1) rfl (nI_add (i) 1) (by decide) rfl (fun ls hl => ?_)
      refine lv_goto (tgt := 2) hx hb dX0_firstWordIn_41 (by decide) ?_
      exact ih2 (by omega) (fun r h1 h2 => hI2 r (by omega) h2) ls (lv_sub hl [0, 2, 3, 4] rfl)

set_option maxHeartbeats 4000000 in
set_option maxRecDepth 100000 in
theorem c_X0_firstWord (l : Launch) (G : hG) (hp : HP) (ad : Nat → Nat) (S : CS) (hC : cW ad S hp) (k : Nat) (hk : k < 2) (x : Nat) (hx6 : x < 64) : hRd l yX0_firstWord wsX0_firstWord 2 47 G hp [.ref (aB ad k), .int (nI x)] (some (.int (fsA (sN S k) (gC S k) x 4 0))) := by
  refine Met.ofW (cc := cX0_firstWord) (maxL := 4) (ret := (some .int)) (by decide) rfl ?_
  intro p e s m args below meth c s₁ B hml hv
  obtain ⟨rfl, hV0, hK0⟩ := hv
  have hx := B.exec
  have hb := B.bytes
  have hr := B.returns
  have hts := atoms_spec (ws := wsX0_firstWord) B.pre
  have hown : s.vm.findClass RX0 = some m.cls := findClass_of_methodNamed B.named
  have hlocks := B.notSynchronized
  have hF : CallFix p m c cX0_firstWord 4 s [.ref (aB ad k), .int (nI x)].toArray wsX0_firstWord RX0 := ⟨hx, hb, hml, hown, hts⟩
  have hl := lv_entry ([.ref (aB ad k), .int (nI x)]) (n := 4) (Nat.le_of_ble_eq_true rfl)
  rw [lg_entry_eq]
  generalize (lg_sl ([.ref (aB ad k), .int (nI x)]) ++ List.replicate (4 - (lg_sl ([.ref (aB ad k), .int (nI x)])).length) Slot.unset).toArray = ls at hl ⊢
  replace hl : lv_has ls 4 [(0, .ref (aB ad k)), (1, .int (nI x))] := hl
  refine lv_iconst (v := nI 0) hx hb dX0_firstWord_0 (by decide) ?_
  refine lv_istore_n (lv' := [(2, .int (nI 0)), (0, .ref (aB ad k)), (1, .int (nI x))]) hx hb dX0_firstWord_1 rfl hl (by decide) rfl (fun ls hl => ?_)
  replace hl : lv_has ls 4 [(2, .int (nI 0)), (0, .ref (aB ad k)), (1, .int (nI x))] := lv_sub hl [0, 1, 2] rfl
  revert ls
  refine h_loop 4 (fun i => [(2, .int (nI i)), (0, .ref (aB ad k)), (1, .int (nI x))]) (fun i => ∀ l2, l2 < i → fsL (gC S k l2) x (sN S k l2) 0 = -2) (fun i hi2 hI2 ih2 ls hl => ?_) 0 (Nat.zero_le _) (fun r h => absurd h (Nat.not_lt_zero r))
  refine lv_iload_n hx hb dX0_firstWord_2 rfl (lv_at hl 0 rfl) ?_
  refine lv_iconst (v := nI 4) hx hb dX0_firstWord_3 (by decide) ?_
  refine h_icmp_ge (a := i) (b := 4) (tgt := 28) hx hb dX0_firstWord_4 (by decide) (by omega) (by omega) (fun c_4 => ?_) (fun c_4 => ?_)
  · refine lv_bipush (v := (-2)) hx hb dX0_firstWord_28 (by decide) ?_
    exact h_iretR hx hb hr hlocks (fsA_none (fun l2 _ h => hI2 l2 (by omega))).symm dX0_firstWord_30
  · refine lv_aload_n hx hb dX0_firstWord_7 rfl (lv_at hl 1 rfl) ?_
    refine lv_iload_n hx hb dX0_firstWord_8 rfl (lv_at hl 0 rfl) ?_
    refine lv_iload_n hx hb dX0_firstWord_9 rfl (lv_at hl 2 rfl) ?_
    refine h_rdV (As := [.int (nI i), .int (nI x)]) (rest := []) hF (c_X0_firstWordIn l G hp ad S hC k hk i (by omega) x (by omega)) 2 gX0_firstWord_X0_firstWordIn rfl (by decide +kernel) ⟨Nat.le_of_ble_eq_true rfl, Nat.le_of_ble_eq_true rfl⟩ hK0 hV0 (hC.bo hk) rfl rfl rfl hl.1 rfl (Nat.le_of_ble_eq_true rfl) (Nat.le_refl _) (Nat.le_refl _) dX0_firstWord_10 ?_
    refine lv_istore_n (lv' := [(3, .int (fsL (gC S k i) x (sN S k i) 0)), (2, .int (nI i)), (0, .ref (aB ad k)), (1, .int (nI x))]) hx hb dX0_firstWord_13 rfl hl (by decide) rfl (fun ls hl => ?_)
    refine lv_iload_n hx hb dX0_firstWord_14 rfl (lv_at hl 0 rfl) ?_
    refine lv_bipush (v := (-2)) hx hb dX0_firstWord_15 (by decide) ?_
    refine lv_icmp_eq (tgt := 22) hx hb dX0_firstWord_17 (by decide) (fun c_17 => ?_) (fun c_17 => ?_)
    · refine lv_iinc (v := nI (i + 1)) (lv' := [(2, .int (nI (i + 1))), (3, .int (fsL (gC S k i) x (sN S k i) 0)), (0, .ref (aB ad k)), (1, .int (nI x))]) hx hb dX0_firstWord_22 hl (k := 1) rfl (nI_add (i) 1) (by decide) rfl (fun ls hl => ?_)
      refine lv_goto (tgt := 2) hx hb dX0_firstWord_25 (by decide) ?_
      exact ih2 (by omega) (fun l2 h => by by_cases e : l2 = i; subst e; exact c_17; exact hI2 l2 (by omega)) ls (lv_sub hl [0, 2, 3] rfl)
    · refine lv_iload_n hx hb dX0_firstWord_20 rfl (lv_at hl 0 rfl) ?_
      exact h_iretR hx hb hr hlocks (fsA_some c_17 (Nat.zero_le i) (by omega) (fun l2 _ h => hI2 l2 h)).symm dX0_firstWord_21

set_option maxHeartbeats 4000000 in
set_option maxRecDepth 100000 in
theorem c_X0_isFirst (l : Launch) (G : hG) (hp : HP) (ad : Nat → Nat) (S : CS) (hC : cW ad S hp) (k : Nat) (hk : k < 2) (lv r : Nat) (hl4 : lv < 4) (hr0 : r < sN S k lv) (x : Nat) (hx6 : x < 64) : hRd l yX0_isFirst wsX0_isFirst 2 47 G hp [.ref (aB ad k), .int (nI lv), .int (nI r), .int (nI x)] (some (.int (bI (frA (sN S k) (gC S k) lv r x)))) := by
  refine Met.ofW (cc := cX0_isFirst) (maxL := 6) (ret := (some .boolean)) (by decide) rfl ?_
  intro p e s m args below meth c s₁ B hml hv
  obtain ⟨rfl, hV0, hK0⟩ := hv
  have hx := B.exec
  have hb := B.bytes
  have hr := B.returns
  have hts := atoms_spec (ws := wsX0_isFirst) B.pre
  have hown : s.vm.findClass RX0 = some m.cls := findClass_of_methodNamed B.named
  have hlocks := B.notSynchronized
  have hF : CallFix p m c cX0_isFirst 6 s [.ref (aB ad k), .int (nI lv), .int (nI r), .int (nI x)].toArray wsX0_isFirst RX0 := ⟨hx, hb, hml, hown, hts⟩
  have hl := lv_entry ([.ref (aB ad k), .int (nI lv), .int (nI r), .int (nI x)]) (n := 6) (Nat.le_of_ble_eq_true rfl)
  rw [lg_entry_eq]
  generalize (lg_sl ([.ref (aB ad k), .int (nI lv), .int (nI r), .int (nI x)]) ++ List.replicate (6 - (lg_sl ([.ref (aB ad k), .int (nI lv), .int (nI r), .int (nI x)])).length) Slot.unset).toArray = ls at hl ⊢
  replace hl : lv_has ls 6 [(0, .ref (aB ad k)), (1, .int (nI lv)), (2, .int (nI r)), (3, .int (nI x))] := hl
  have hn := hC.ok.2.1 k lv
  refine lv_iconst (v := nI 0) hx hb dX0_isFirst_0 (by decide) ?_
  refine lv_istore (lv' := [(4, .int (nI 0)), (0, .ref (aB ad k)), (1, .int (nI lv)), (2, .int (nI r)), (3, .int (nI x))]) hx hb dX0_isFirst_1 hl (by decide) rfl (fun ls hl => ?_)
  replace hl : lv_has ls 6 [(4, .int (nI 0)), (0, .ref (aB ad k)), (1, .int (nI lv)), (2, .int (nI r)), (3, .int (nI x))] := lv_sub hl [0, 1, 2, 3, 4] rfl
  revert ls
  refine h_loop lv (fun i => [(4, .int (nI i)), (0, .ref (aB ad k)), (1, .int (nI lv)), (2, .int (nI r)), (3, .int (nI x))]) (fun i => ∀ l2, l2 < i → fsL (gC S k l2) x (sN S k l2) 0 = -2) (fun i hi3 hI3 ih3 ls hl => ?_) 0 (Nat.zero_le _) (fun r h => absurd h (Nat.not_lt_zero r))
  refine lv_iload hx hb dX0_isFirst_3 (lv_at hl 0 rfl) ?_
  refine lv_iload_n hx hb dX0_isFirst_5 rfl (lv_at hl 2 rfl) ?_
  refine h_icmp_ge (a := i) (b := lv) (tgt := 29) hx hb dX0_isFirst_6 (by decide) (by omega) (by omega) (fun c_6 => ?_) (fun c_6 => ?_)
  · refine lv_iconst (v := nI 0) hx hb dX0_isFirst_29 (by decide) ?_
    refine lv_istore (lv' := [(4, .int (nI 0)), (0, .ref (aB ad k)), (1, .int (nI lv)), (2, .int (nI r)), (3, .int (nI x))]) hx hb dX0_isFirst_30 hl (by decide) rfl (fun ls hl => ?_)
    replace hl : lv_has ls 6 [(4, .int (nI 0)), (0, .ref (aB ad k)), (1, .int (nI lv)), (2, .int (nI r)), (3, .int (nI x))] := lv_sub hl [0, 1, 2, 3, 4] rfl
    revert ls
    refine h_loop r (fun j => [(4, .int (nI j)), (0, .ref (aB ad k)), (1, .int (nI lv)), (2, .int (nI r)), (3, .int (nI x))]) (fun j => ∀ r2, r2 < j → hasR (gC S k lv r2) x = false) (fun j hi32 hI32 ih32 ls hl => ?_) 0 (Nat.zero_le _) (fun r h => absurd h (Nat.not_lt_zero r))
    refine lv_iload hx hb dX0_isFirst_32 (lv_at hl 0 rfl) ?_
    refine lv_iload_n hx hb dX0_isFirst_34 rfl (lv_at hl 3 rfl) ?_
    refine h_icmp_ge (a := j) (b := r) (tgt := 69) hx hb dX0_isFirst_35 (by decide) (by omega) (by omega) (fun c_35 => ?_) (fun c_35 => ?_)
    · refine lv_aload_n hx hb dX0_isFirst_69 rfl (lv_at hl 1 rfl) ?_
      refine lv_iload_n hx hb dX0_isFirst_70 rfl (lv_at hl 2 rfl) ?_
      refine lv_iload_n hx hb dX0_isFirst_71 rfl (lv_at hl 3 rfl) ?_
      refine h_rdV (As := [.int (nI lv), .int (nI r)]) (rest := []) hF (c_X0_runAt l G hp ad S hC k hk lv r (by omega) (by omega)) 2 gX0_isFirst_X0_runAt rfl (by decide +kernel) ⟨Nat.le_of_ble_eq_true rfl, Nat.le_of_ble_eq_true rfl⟩ hK0 hV0 (hC.bo hk) rfl rfl rfl hl.1 rfl (Nat.le_of_ble_eq_true rfl) (Nat.le_refl _) (Nat.le_refl _) dX0_isFirst_72 ?_
      refine lv_astore (lv' := [(4, .ref (aS ad (iR S k lv r))), (0, .ref (aB ad k)), (1, .int (nI lv)), (2, .int (nI r)), (3, .int (nI x))]) hx hb dX0_isFirst_75 hl (by decide) rfl (fun ls hl => ?_)
      refine lv_aload hx hb dX0_isFirst_77 (lv_at hl 0 rfl) ?_
      refine lv_ifnull hx hb dX0_isFirst_79 ?_
      refine lv_aload hx hb dX0_isFirst_82 (lv_at hl 0 rfl) ?_
      refine lv_iload_n hx hb dX0_isFirst_84 rfl (lv_at hl 4 rfl) ?_
      refine h_rdV (As := [.int (nI x)]) (rest := []) hF (c_X1_has l G hp (aS ad (iR S k lv r)) (aW ad (iR S k lv r)) (gC S k lv r) (hC.run hk (by omega) (by omega)) x (by omega)) 1 gX0_isFirst_X1_has rfl (by decide +kernel) ⟨Nat.le_of_ble_eq_true rfl, Nat.le_of_ble_eq_true rfl⟩ hK0 hV0 (hC.run hk (by omega) (by omega)).1 rfl rfl rfl hl.1 rfl (Nat.le_of_ble_eq_true rfl) (Nat.le_refl _) (Nat.le_refl _) dX0_isFirst_85 ?_
      refine h_if_eqB (tgt := 95) hx hb dX0_isFirst_88 (by decide) (fun c_88 => ?_) (fun c_88 => ?_)
      · refine lv_iconst (v := nI 0) hx hb dX0_isFirst_95 (by decide) ?_
        exact h_zretR hx hb hr hlocks (by rw [frA_3 (fun l2 h => hI3 l2 (by omega)) (fun r2 h => hI32 r2 (by omega)), c_88]; rfl) dX0_isFirst_96
      · refine lv_iconst (v := nI 1) hx hb dX0_isFirst_91 (by decide) ?_
        refine lv_goto (tgt := 96) hx hb dX0_isFirst_92 (by decide) ?_
        exact h_zretR hx hb hr hlocks (by rw [frA_3 (fun l2 h => hI3 l2 (by omega)) (fun r2 h => hI32 r2 (by omega)), c_88]; rfl) dX0_isFirst_96
    · refine lv_aload_n hx hb dX0_isFirst_38 rfl (lv_at hl 1 rfl) ?_
      refine lv_iload_n hx hb dX0_isFirst_39 rfl (lv_at hl 2 rfl) ?_
      refine lv_iload hx hb dX0_isFirst_40 (lv_at hl 0 rfl) ?_
      refine h_rdV (As := [.int (nI lv), .int (nI j)]) (rest := []) hF (c_X0_runAt l G hp ad S hC k hk lv j (by omega) (by omega)) 2 gX0_isFirst_X0_runAt rfl (by decide +kernel) ⟨Nat.le_of_ble_eq_true rfl, Nat.le_of_ble_eq_true rfl⟩ hK0 hV0 (hC.bo hk) rfl rfl rfl hl.1 rfl (Nat.le_of_ble_eq_true rfl) (Nat.le_refl _) (Nat.le_refl _) dX0_isFirst_42 ?_
      refine lv_astore (lv' := [(5, .ref (aS ad (iR S k lv j))), (4, .int (nI j)), (0, .ref (aB ad k)), (1, .int (nI lv)), (2, .int (nI r)), (3, .int (nI x))]) hx hb dX0_isFirst_45 hl (by decide) rfl (fun ls hl => ?_)
      refine lv_aload hx hb dX0_isFirst_47 (lv_at hl 0 rfl) ?_
      refine lv_ifnull hx hb dX0_isFirst_49 ?_
      refine lv_aload hx hb dX0_isFirst_52 (lv_at hl 0 rfl) ?_
      refine lv_iload_n hx hb dX0_isFirst_54 rfl (lv_at hl 5 rfl) ?_
      refine h_rdV (As := [.int (nI x)]) (rest := []) hF (c_X1_has l G hp (aS ad (iR S k lv j)) (aW ad (iR S k lv j)) (gC S k lv j) (hC.run hk (by omega) (by omega)) x (by omega)) 1 gX0_isFirst_X1_has rfl (by decide +kernel) ⟨Nat.le_of_ble_eq_true rfl, Nat.le_of_ble_eq_true rfl⟩ hK0 hV0 (hC.run hk (by omega) (by omega)).1 rfl rfl rfl hl.1 rfl (Nat.le_of_ble_eq_true rfl) (Nat.le_refl _) (Nat.le_refl _) dX0_isFirst_55 ?_
      refine h_if_eqB (tgt := 63) hx hb dX0_isFirst_58 (by decide) (fun c_58 => ?_) (fun c_58 => ?_)
      · refine lv_iinc (v := nI (j + 1)) (lv' := [(4, .int (nI (j + 1))), (5, .ref (aS ad (iR S k lv j))), (0, .ref (aB ad k)), (1, .int (nI lv)), (2, .int (nI r)), (3, .int (nI x))]) hx hb dX0_isFirst_63 hl (k := 1) rfl (nI_add (j) 1) (by decide) rfl (fun ls hl => ?_)
        refine lv_goto (tgt := 32) hx hb dX0_isFirst_66 (by decide) ?_
        exact ih32 (by omega) (fun l2 h => by by_cases e : l2 = j; subst e; exact c_58; exact hI32 l2 (by omega)) ls (lv_sub hl [0, 2, 3, 4, 5] rfl)
      · refine lv_iconst (v := nI 0) hx hb dX0_isFirst_61 (by decide) ?_
        exact h_zretR hx hb hr hlocks (by rw [frA_2 (by omega) c_58]; rfl) dX0_isFirst_62
  · refine lv_aload_n hx hb dX0_isFirst_9 rfl (lv_at hl 1 rfl) ?_
    refine lv_iload hx hb dX0_isFirst_10 (lv_at hl 0 rfl) ?_
    refine lv_iload_n hx hb dX0_isFirst_12 rfl (lv_at hl 4 rfl) ?_
    refine h_rdV (As := [.int (nI i), .int (nI x)]) (rest := []) hF (c_X0_firstWordIn l G hp ad S hC k hk i (by omega) x (by omega)) 2 gX0_isFirst_X0_firstWordIn rfl (by decide +kernel) ⟨Nat.le_of_ble_eq_true rfl, Nat.le_of_ble_eq_true rfl⟩ hK0 hV0 (hC.bo hk) rfl rfl rfl hl.1 rfl (Nat.le_of_ble_eq_true rfl) (Nat.le_refl _) (Nat.le_refl _) dX0_isFirst_13 ?_
    refine lv_bipush (v := (-2)) hx hb dX0_isFirst_16 (by decide) ?_
    refine lv_icmp_eq (tgt := 23) hx hb dX0_isFirst_18 (by decide) (fun c_18 => ?_) (fun c_18 => ?_)
    · refine lv_iinc (v := nI (i + 1)) (lv' := [(4, .int (nI (i + 1))), (0, .ref (aB ad k)), (1, .int (nI lv)), (2, .int (nI r)), (3, .int (nI x))]) hx hb dX0_isFirst_23 hl (k := 0) rfl (nI_add (i) 1) (by decide) rfl (fun ls hl => ?_)
      refine lv_goto (tgt := 3) hx hb dX0_isFirst_26 (by decide) ?_
      exact ih3 (by omega) (fun l2 h => by by_cases e : l2 = i; subst e; exact c_18; exact hI3 l2 (by omega)) ls (lv_sub hl [0, 1, 2, 3, 4] rfl)
    · refine lv_iconst (v := nI 0) hx hb dX0_isFirst_21 (by decide) ?_
      exact h_zretR hx hb hr hlocks (by rw [frA_1 (by omega) c_18]; rfl) dX0_isFirst_22

set_option maxHeartbeats 4000000 in
set_option maxRecDepth 100000 in
theorem c_X0_nothingBehind (l : Launch) (G : hG) (hp : HP) (ad : Nat → Nat) (S : CS) (hC : cW ad S hp) (k : Nat) (hk : k < 2) (lv : Nat) (hl4 : lv < 4) : hRd l yX0_nothingBehind wsX0_nothingBehind 1 21 G hp [.ref (aB ad k), .int (nI lv)] (some (.int (bI (nbA (sN S k) lv)))) := by
  refine Met.ofW (cc := cX0_nothingBehind) (maxL := 3) (ret := (some .boolean)) (by decide) rfl ?_
  intro p e s m args below meth c s₁ B hml hv
  obtain ⟨rfl, hV0, hK0⟩ := hv
  have hx := B.exec
  have hb := B.bytes
  have hr := B.returns
  have hts := atoms_spec (ws := wsX0_nothingBehind) B.pre
  have hown : s.vm.findClass RX0 = some m.cls := findClass_of_methodNamed B.named
  have hlocks := B.notSynchronized
  have hF : CallFix p m c cX0_nothingBehind 3 s [.ref (aB ad k), .int (nI lv)].toArray wsX0_nothingBehind RX0 := ⟨hx, hb, hml, hown, hts⟩
  have hl := lv_entry ([.ref (aB ad k), .int (nI lv)]) (n := 3) (Nat.le_of_ble_eq_true rfl)
  rw [lg_entry_eq]
  generalize (lg_sl ([.ref (aB ad k), .int (nI lv)]) ++ List.replicate (3 - (lg_sl ([.ref (aB ad k), .int (nI lv)])).length) Slot.unset).toArray = ls at hl ⊢
  replace hl : lv_has ls 3 [(0, .ref (aB ad k)), (1, .int (nI lv))] := hl
  refine lv_iload_n hx hb dX0_nothingBehind_0 rfl (lv_at hl 1 rfl) ?_
  refine lv_iconst (v := nI 1) hx hb dX0_nothingBehind_1 (by decide) ?_
  refine h_iaddN hx hb dX0_nothingBehind_2 ?_
  refine lv_istore_n (lv' := [(2, .int (nI (lv + 1))), (0, .ref (aB ad k)), (1, .int (nI lv))]) hx hb dX0_nothingBehind_3 rfl hl (by decide) rfl (fun ls hl => ?_)
  replace hl : lv_has ls 3 [(2, .int (nI (lv + 1))), (0, .ref (aB ad k)), (1, .int (nI lv))] := lv_sub hl [0, 1, 2] rfl
  revert ls
  refine h_loop 4 (fun i => [(2, .int (nI i)), (0, .ref (aB ad k)), (1, .int (nI lv))]) (fun i => lv < i ∧ ∀ l2, lv < l2 → l2 < i → sN S k l2 = 0) (fun i hi4 hI4 ih4 ls hl => ?_) (lv + 1) (by omega) ⟨Nat.lt_succ_self _, fun l2 h1 h2 => absurd h2 (by omega)⟩
  refine lv_iload_n hx hb dX0_nothingBehind_4 rfl (lv_at hl 0 rfl) ?_
  refine lv_iconst (v := nI 4) hx hb dX0_nothingBehind_5 (by decide) ?_
  refine h_icmp_ge (a := i) (b := 4) (tgt := 25) hx hb dX0_nothingBehind_6 (by decide) (by omega) (by omega) (fun c_6 => ?_) (fun c_6 => ?_)
  · refine lv_iconst (v := nI 1) hx hb dX0_nothingBehind_25 (by decide) ?_
    exact h_zretR hx hb hr hlocks (by rw [nbA, nbR_t (fun l2 h1 h2 => hI4.2 l2 (by omega) (by omega))]; rfl) dX0_nothingBehind_26
  · refine lv_aload_n hx hb dX0_nothingBehind_9 rfl (lv_at hl 1 rfl) ?_
    refine lv_iload_n hx hb dX0_nothingBehind_10 rfl (lv_at hl 0 rfl) ?_
    refine h_rdV (As := [.int (nI i)]) (rest := []) hF (c_X0_runsOf l G hp ad S hC k hk i (by omega)) 1 gX0_nothingBehind_X0_runsOf rfl (by decide +kernel) ⟨Nat.le_of_ble_eq_true rfl, Nat.le_of_ble_eq_true rfl⟩ hK0 hV0 (hC.bo hk) rfl rfl rfl hl.1 rfl (Nat.le_of_ble_eq_true rfl) (Nat.le_refl _) (Nat.le_refl _) dX0_nothingBehind_11 ?_
    have hni := hC.ok.2.1 k i
    refine h_if_le (a := sN S k i) (tgt := 19) hx hb dX0_nothingBehind_14 (by decide) (by omega) (fun c_14 => ?_) (fun c_14 => ?_)
    · refine lv_iinc (v := nI (i + 1)) (lv' := [(2, .int (nI (i + 1))), (0, .ref (aB ad k)), (1, .int (nI lv))]) hx hb dX0_nothingBehind_19 hl (k := 0) rfl (nI_add (i) 1) (by decide) rfl (fun ls hl => ?_)
      refine lv_goto (tgt := 4) hx hb dX0_nothingBehind_22 (by decide) ?_
      exact ih4 (by omega) ⟨by omega, fun l2 h1 h2 => by by_cases e : l2 = i; subst e; exact c_14; exact hI4.2 l2 h1 (by omega)⟩ ls (lv_sub hl [0, 1, 2] rfl)
    · refine lv_iconst (v := nI 0) hx hb dX0_nothingBehind_17 (by decide) ?_
      exact h_zretR hx hb hr hlocks (by rw [nbA, nbR_f c_14 (by omega) (by omega)]; rfl) dX0_nothingBehind_18

set_option maxHeartbeats 4000000 in
set_option maxRecDepth 100000 in
theorem c_X0_detoursTo (l : Launch) (G : hG) (hp : HP) (ad : Nat → Nat) (S : CS) (hC : cW ad S hp) (k : Nat) (hk : k < 2) (x : Nat) (hx6 : x < 64) : hRd l yX0_detoursTo wsX0_detoursTo 2 42 G hp [.ref (aB ad k), .int (nI x)] (some (.int (nI (dtA (sN S k) (gC S k) x 4 0)))) := by
  refine Met.ofW (cc := cX0_detoursTo) (maxL := 6) (ret := (some .int)) (by decide) rfl ?_
  intro p e s m args below meth c s₁ B hml hv
  obtain ⟨rfl, hV0, hK0⟩ := hv
  have hx := B.exec
  have hb := B.bytes
  have hr := B.returns
  have hts := atoms_spec (ws := wsX0_detoursTo) B.pre
  have hown : s.vm.findClass RX0 = some m.cls := findClass_of_methodNamed B.named
  have hlocks := B.notSynchronized
  have hF : CallFix p m c cX0_detoursTo 6 s [.ref (aB ad k), .int (nI x)].toArray wsX0_detoursTo RX0 := ⟨hx, hb, hml, hown, hts⟩
  have hl := lv_entry ([.ref (aB ad k), .int (nI x)]) (n := 6) (Nat.le_of_ble_eq_true rfl)
  rw [lg_entry_eq]
  generalize (lg_sl ([.ref (aB ad k), .int (nI x)]) ++ List.replicate (6 - (lg_sl ([.ref (aB ad k), .int (nI x)])).length) Slot.unset).toArray = ls at hl ⊢
  replace hl : lv_has ls 6 [(0, .ref (aB ad k)), (1, .int (nI x))] := hl
  refine lv_iconst (v := nI 0) hx hb dX0_detoursTo_0 (by decide) ?_
  refine lv_istore_n (lv' := [(2, .int (nI 0)), (0, .ref (aB ad k)), (1, .int (nI x))]) hx hb dX0_detoursTo_1 rfl hl (by decide) rfl (fun ls hl => ?_)
  refine lv_iconst (v := nI 0) hx hb dX0_detoursTo_2 (by decide) ?_
  refine lv_istore_n (lv' := [(3, .int (nI 0)), (2, .int (nI 0)), (0, .ref (aB ad k)), (1, .int (nI x))]) hx hb dX0_detoursTo_3 rfl hl (by decide) rfl (fun ls hl => ?_)
  replace hl : lv_has ls 6 [(3, .int (nI 0)), (2, .int (nI 0)), (0, .ref (aB ad k)), (1, .int (nI x))] := lv_sub hl [0, 1, 2, 3] rfl
  revert ls
  refine h_loopO 4 (fun i o => [(3, .int (nI i)), (2, .int (nI o)), (0, .ref (aB ad k)), (1, .int (nI x))]) (fun i o => o + dtA (sN S k) (gC S k) x (4 - i) i = dtA (sN S k) (gC S k) x 4 0) (fun i hi4 o hO4 ih4 ls hl => ?_) 0 (Nat.zero_le _) 0 (Nat.zero_add _)
  refine lv_iload_n hx hb dX0_detoursTo_4 rfl (lv_at hl 0 rfl) ?_
  refine lv_iconst (v := nI 4) hx hb dX0_detoursTo_5 (by decide) ?_
  refine h_icmp_ge (a := i) (b := 4) (tgt := 74) hx hb dX0_detoursTo_6 (by decide) (by omega) (by omega) (fun c_6 => ?_) (fun c_6 => ?_)
  · refine lv_iload_n hx hb dX0_detoursTo_74 rfl (lv_at hl 1 rfl) ?_
    exact h_iretR hx hb hr hlocks (by rw [← hO4, show 4 - i = 0 by omega]; rfl) dX0_detoursTo_75
  · refine lv_iconst (v := nI 0) hx hb dX0_detoursTo_9 (by decide) ?_
    refine lv_istore (lv' := [(4, .int (nI 0)), (3, .int (nI i)), (2, .int (nI o)), (0, .ref (aB ad k)), (1, .int (nI x))]) hx hb dX0_detoursTo_10 hl (by decide) rfl (fun ls hl => ?_)
    have hO4b : o + dtL (gC S k i) x (dtA (sN S k) (gC S k) x (4 - (i + 1)) (i + 1)) (sN S k i) 0 = dtA (sN S k) (gC S k) x 4 0 := by rw [← hO4, show 4 - i = (4 - (i + 1)) + 1 by omega]; rfl
    replace hl : lv_has ls 6 [(4, .int (nI 0)), (2, .int (nI o)), (3, .int (nI i)), (0, .ref (aB ad k)), (1, .int (nI x))] := lv_sub hl [0, 2, 1, 3, 4] rfl
    revert ls
    refine h_loopO (sN S k i) (fun j o => [(4, .int (nI j)), (2, .int (nI o)), (3, .int (nI i)), (0, .ref (aB ad k)), (1, .int (nI x))]) (fun j o => o + dtL (gC S k i) x (dtA (sN S k) (gC S k) x (4 - (i + 1)) (i + 1)) (sN S k i - j) j = dtA (sN S k) (gC S k) x 4 0) (fun j hi12 o hO12 ih12 ls hl => ?_) 0 (Nat.zero_le _) o (by rw [← hO4b]; rfl)
    refine lv_iload hx hb dX0_detoursTo_12 (lv_at hl 0 rfl) ?_
    refine lv_aload_n hx hb dX0_detoursTo_14 rfl (lv_at hl 3 rfl) ?_
    refine lv_iload_n hx hb dX0_detoursTo_15 rfl (lv_at hl 2 rfl) ?_
    refine h_rdV (As := [.int (nI i)]) (rest := [.int (nI j)]) hF (c_X0_runsOf l G hp ad S hC k hk i (by omega)) 1 gX0_detoursTo_X0_runsOf rfl (by decide +kernel) ⟨Nat.le_of_ble_eq_true rfl, Nat.le_of_ble_eq_true rfl⟩ hK0 hV0 (hC.bo hk) rfl rfl rfl hl.1 rfl (Nat.le_of_ble_eq_true rfl) (Nat.le_refl _) (Nat.le_refl _) dX0_detoursTo_16 ?_
    have hni := hC.ok.2.1 k i
    refine h_icmp_ge (a := j) (b := sN S k i) (tgt := 68) hx hb dX0_detoursTo_19 (by decide) (by omega) (by omega) (fun c_19 => ?_) (fun c_19 => ?_)
    · have hO4 : o + dtA (sN S k) (gC S k) x (4 - (i + 1)) (i + 1) = dtA (sN S k) (gC S k) x 4 0 := by rw [← hO12, show sN S k i - j = 0 by omega]; rfl
      refine lv_iinc (v := nI (i + 1)) (lv' := [(3, .int (nI (i + 1))), (4, .int (nI j)), (2, .int (nI o)), (0, .ref (aB ad k)), (1, .int (nI x))]) hx hb dX0_detoursTo_68 hl (k := 2) rfl (nI_add (i) 1) (by decide) rfl (fun ls hl => ?_)
      refine lv_goto (tgt := 4) hx hb dX0_detoursTo_71 (by decide) ?_
      exact ih4 (by omega) (o) hO4 ls (lv_sub hl [0, 2, 3, 4] rfl)
    · refine lv_aload_n hx hb dX0_detoursTo_22 rfl (lv_at hl 3 rfl) ?_
      refine lv_iload_n hx hb dX0_detoursTo_23 rfl (lv_at hl 2 rfl) ?_
      refine lv_iload hx hb dX0_detoursTo_24 (lv_at hl 0 rfl) ?_
      refine h_rdV (As := [.int (nI i), .int (nI j)]) (rest := []) hF (c_X0_runAt l G hp ad S hC k hk i j (by omega) (by omega)) 2 gX0_detoursTo_X0_runAt rfl (by decide +kernel) ⟨Nat.le_of_ble_eq_true rfl, Nat.le_of_ble_eq_true rfl⟩ hK0 hV0 (hC.bo hk) rfl rfl rfl hl.1 rfl (Nat.le_of_ble_eq_true rfl) (Nat.le_refl _) (Nat.le_refl _) dX0_detoursTo_26 ?_
      refine lv_astore (lv' := [(5, .ref (aS ad (iR S k i j))), (4, .int (nI j)), (2, .int (nI o)), (3, .int (nI i)), (0, .ref (aB ad k)), (1, .int (nI x))]) hx hb dX0_detoursTo_29 hl (by decide) rfl (fun ls hl => ?_)
      refine lv_aload hx hb dX0_detoursTo_31 (lv_at hl 0 rfl) ?_
      refine lv_ifnull hx hb dX0_detoursTo_33 ?_
      refine lv_aload hx hb dX0_detoursTo_36 (lv_at hl 0 rfl) ?_
      refine lv_iload_n hx hb dX0_detoursTo_38 rfl (lv_at hl 5 rfl) ?_
      refine h_rdV (As := [.int (nI x)]) (rest := []) hF (c_X1_opensFor l G hp (aS ad (iR S k i j)) (aW ad (iR S k i j)) (gC S k i j) (hC.run hk (by omega) (by omega)) x (by omega)) 1 gX0_detoursTo_X1_opensFor rfl (by decide +kernel) ⟨Nat.le_of_ble_eq_true rfl, Nat.le_of_ble_eq_true rfl⟩ hK0 hV0 (hC.run hk (by omega) (by omega)).1 rfl rfl rfl hl.1 rfl (Nat.le_of_ble_eq_true rfl) (Nat.le_refl _) (Nat.le_refl _) dX0_detoursTo_39 ?_
      refine h_if_neB (tgt := 48) hx hb dX0_detoursTo_42 (by decide) (fun c_42 => ?_) (fun c_42 => ?_)
      · refine lv_iinc (v := nI (o + 1)) (lv' := [(2, .int (nI (o + 1))), (5, .ref (aS ad (iR S k i j))), (4, .int (nI j)), (3, .int (nI i)), (0, .ref (aB ad k)), (1, .int (nI x))]) hx hb dX0_detoursTo_48 hl (k := 2) rfl (nI_add (o) 1) (by decide) rfl (fun ls hl => ?_)
        refine lv_aload hx hb dX0_detoursTo_51 (lv_at hl 1 rfl) ?_
        refine lv_iload_n hx hb dX0_detoursTo_53 rfl (lv_at hl 5 rfl) ?_
        refine h_rdV (As := [.int (nI x)]) (rest := []) hF (c_X1_has l G hp (aS ad (iR S k i j)) (aW ad (iR S k i j)) (gC S k i j) (hC.run hk (by omega) (by omega)) x (by omega)) 1 gX0_detoursTo_X1_has rfl (by decide +kernel) ⟨Nat.le_of_ble_eq_true rfl, Nat.le_of_ble_eq_true rfl⟩ hK0 hV0 (hC.run hk (by omega) (by omega)).1 rfl rfl rfl hl.1 rfl (Nat.le_of_ble_eq_true rfl) (Nat.le_refl _) (Nat.le_refl _) dX0_detoursTo_54 ?_
        refine h_if_eqB (tgt := 62) hx hb dX0_detoursTo_57 (by decide) (fun c_57 => ?_) (fun c_57 => ?_)
        · refine lv_iinc (v := nI (j + 1)) (lv' := [(4, .int (nI (j + 1))), (2, .int (nI (o + 1))), (5, .ref (aS ad (iR S k i j))), (3, .int (nI i)), (0, .ref (aB ad k)), (1, .int (nI x))]) hx hb dX0_detoursTo_62 hl (k := 2) rfl (nI_add (j) 1) (by decide) rfl (fun ls hl => ?_)
          refine lv_goto (tgt := 12) hx hb dX0_detoursTo_65 (by decide) ?_
          exact ih12 (by omega) (o + 1) (by first | (rw [← hO12, show sN S k i - j = (sN S k i - (j + 1)) + 1 by omega, dtL_s, c_42]; simp; done) | (rw [← hO12, show sN S k i - j = (sN S k i - (j + 1)) + 1 by omega, dtL_s, c_42, c_57]; simp; omega)) ls (lv_sub hl [0, 1, 3, 4, 5] rfl)
        · refine lv_iload_n hx hb dX0_detoursTo_60 rfl (lv_at hl 0 rfl) ?_
          exact h_iretR hx hb hr hlocks (by rw [← hO12, show sN S k i - j = (sN S k i - (j + 1)) + 1 by omega, dtL_s, c_42, c_57]; rfl) dX0_detoursTo_61
      · refine lv_goto (tgt := 62) hx hb dX0_detoursTo_45 (by decide) ?_
        refine lv_iinc (v := nI (j + 1)) (lv' := [(4, .int (nI (j + 1))), (5, .ref (aS ad (iR S k i j))), (2, .int (nI o)), (3, .int (nI i)), (0, .ref (aB ad k)), (1, .int (nI x))]) hx hb dX0_detoursTo_62 hl (k := 1) rfl (nI_add (j) 1) (by decide) rfl (fun ls hl => ?_)
        refine lv_goto (tgt := 12) hx hb dX0_detoursTo_65 (by decide) ?_
        exact ih12 (by omega) (o) (by first | (rw [← hO12, show sN S k i - j = (sN S k i - (j + 1)) + 1 by omega, dtL_s, c_42]; simp; done) | (rw [← hO12, show sN S k i - j = (sN S k i - (j + 1)) + 1 by omega, dtL_s, c_42, c_57]; simp; omega)) ls (lv_sub hl [0, 2, 3, 4, 5] rfl)
end
section
/-! what writing does to the class' state -/
def cT (ad : Nat → Nat) (hp0 : HP) (S : CS) (hp : HP) : Prop := cW ad S hp ∧ cFr ad hp0 hp
theorem cT.rf {ad : Nat → Nat} {S : CS} {hp : HP} (h : cW ad S hp) : cT ad hp S hp := ⟨h, cFr.rf⟩
theorem cT.tr {ad : Nat → Nat} {S S2 : CS} {h0 h1 h2 : HP} (a : cT ad h0 S h1) (b : cT ad h1 S2 h2) : cT ad h0 S2 h2 := ⟨b.1, a.2.tr b.2⟩
theorem cT.setF {ad : Nat → Nat} {h0 hp : HP} {S : CS} (h : cT ad h0 S hp) {j : Nat} (hj : j < 27) {f : Row} (hf : okR f) : cT ad h0 (uF S j f) (hput (hput hp (aW ad j) (eI 64 f)) (aS ad j) (eO 1 (slO (aW ad j) f))) := ⟨h.1.setF hj hf, h.2.setF hj _ _⟩
theorem cT.setN {ad : Nat → Nat} {h0 hp : HP} {S : CS} (h : cT ad h0 S hp) {k : Nat} (hk : k < 2) {l v : Nat} (hl : l < 4) (hv : v ≤ 3) : cT ad h0 (uN S k l v) (hput hp (aN ad k) (eI 4 (upd (fun l => nI (sN S k l)) l (nI v)))) := ⟨h.1.setN hk hl hv, h.2.setN hk _⟩
theorem cT.setV {ad : Nat → Nat} {h0 hp : HP} {S : CS} (h : cT ad h0 S hp) {k : Nat} (hk : k < 2) (v : Int32) : cT ad h0 (uV S k v) (hput hp (aB ad k) (eO 0 [.ref (aQ ad k), .ref (aN ad k), .ref (aS ad (13 + 13 * k)), .int v, .int (sG S k)])) := ⟨h.1.setV hk v, h.2.setB hk _⟩
theorem cT.setG {ad : Nat → Nat} {h0 hp : HP} {S : CS} (h : cT ad h0 S hp) {k : Nat} (hk : k < 2) (v : Int32) : cT ad h0 (uG S k v) (hput hp (aB ad k) (eO 0 [.ref (aQ ad k), .ref (aN ad k), .ref (aS ad (13 + 13 * k)), .int (sV S k), .int v])) := ⟨h.1.setG hk v, h.2.setB hk _⟩
theorem cT.setR {ad : Nat → Nat} {h0 hp : HP} {S : CS} (h : cT ad h0 S hp) (v : Int32) : cT ad h0 (uR S v) (hput hp (aX ad) (eO 2 [.ref (aS ad 0), .ref (aB ad 0), .ref (aB ad 1), .int v, .int (sD S)])) := ⟨h.1.setR v, h.2.setX _⟩
theorem cT.setD {ad : Nat → Nat} {h0 hp : HP} {S : CS} (h : cT ad h0 S hp) (v : Int32) : cT ad h0 (uD S v) (hput hp (aX ad) (eO 2 [.ref (aS ad 0), .ref (aB ad 0), .ref (aB ad 1), .int (sR S), .int v])) := ⟨h.1.setD v, h.2.setX _⟩
def gaW (n : Nat) (g : Nat → Row) (b : Bool) (x : Nat) : Int32 := if b = true ∧ fsL g x n 0 = -1 then -2 else fsL g x n 0
def gaP (n : Nat) (g : Nat → Row) (b : Bool) (i : Nat) : Row := fun x => if x < i then gaW n g b x else -2
def gaS (S : CS) (k l : Nat) (b : Bool) : CS := uF S (13 + 13 * k) (gaP (sN S k l) (gC S k l) b 64)
def adS (S : CS) (k l j : Nat) : CS := if szR (sF S j) = 0 then S else uV (uN (uF S (1 + 13 * k + (3 * l + sN S k l)) (sF S j)) k l (sN S k l + 1)) k (sV S k + nI (szR (sF S j)))
def mg2 (S : CS) (k l : Nat) : CS := uN (gaS S k l (nbA (sN S k) l)) k l 0
def mg3 (S : CS) (k l : Nat) : CS := adS (mg2 S k l) k (min (l + 1) 3) (13 + 13 * k)
def mgS (S : CS) (k l : Nat) : CS := uG (mg3 S k l) k (sG (mg3 S k l) k + nI 1)
def stS (S : CS) (k : Nat) : Nat → CS
  | 0 => S
  | m + 1 => if 3 ≤ sN (stS S k m) k m then mgS (stS S k m) k m else stS S k m
theorem uF_uF (S : CS) (j : Nat) (f g : Row) : uF (uF S j f) j g = uF S j g := by
  unfold uF
  congr 1
  funext i
  show (if i = j then g else (if i = j then f else sF S i)) = _
  by_cases h : i = j <;> simp [h]
theorem sF_uF (S : CS) (j : Nat) (f : Row) : sF (uF S j f) j = f := if_pos rfl
theorem sF_uFn (S : CS) {i j : Nat} (f : Row) (h : i ≠ j) : sF (uF S j f) i = sF S i := if_neg h
theorem gC_uFm {S : CS} {k l : Nat} {f : Row} (hn : sN S k l ≤ 3) (hl : l < 4) : gC (uF S (13 + 13 * k) f) k l = gC S k l := by
  funext r
  unfold gC
  show (if r < sN S k l then sF (uF S (13 + 13 * k) f) (1 + 13 * k + (3 * l + (sN S k l - 1 - r))) else emR) = _
  rw [sF_uFn S f (by omega)]
theorem gaP_0 (n : Nat) (g : Nat → Row) (b : Bool) : gaP n g b 0 = emR := by
  funext x
  exact if_neg (Nat.not_lt_zero x)
theorem gaP_put {n : Nat} {g : Nat → Row} {b : Bool} {i : Nat} {v : Int32} (h : gaW n g b i = v) : upd (gaP n g b i) i v = gaP n g b (i + 1) := by
  funext x
  unfold upd gaP
  by_cases e : x = i
  · subst e
    rw [if_pos rfl, if_pos (Nat.lt_succ_self x), h]
  · rw [if_neg e]
    by_cases e2 : x < i
    · rw [if_pos e2, if_pos (by omega)]
    · rw [if_neg e2, if_neg (by omega)]
theorem gaP_skip {n : Nat} {g : Nat → Row} {b : Bool} {i : Nat} (h : gaW n g b i = -2) : gaP n g b i = gaP n g b (i + 1) := by
  rw [← gaP_put h]
  funext x
  unfold upd gaP
  by_cases e : x = i
  · subst e
    rw [if_pos rfl, if_neg (Nat.lt_irrefl x)]
  · rw [if_neg e]
theorem fsL_ok {g : Nat → Row} (hg : ∀ r, okR (g r)) (x : Nat) : ∀ m r, fsL g x m r = -2 ∨ fsL g x m r = -1 ∨ ∃ v : Nat, v < 100 ∧ fsL g x m r = nI v
  | 0, _ => Or.inl rfl
  | m + 1, r => by
    unfold fsL
    split
    · exact (hg r).2 x
    · exact fsL_ok hg x m (r + 1)
theorem fsL_big {g : Nat → Row} (hg : ∀ r, okR (g r)) {x : Nat} (hx : 64 ≤ x) : ∀ m r, fsL g x m r = -2
  | 0, _ => rfl
  | m + 1, r => by
    unfold fsL
    rw [hasR_false ((hg r).1 x hx)]
    exact fsL_big hg hx m (r + 1)
theorem gaP_ok {n : Nat} {g : Nat → Row} (hg : ∀ r, okR (g r)) (b : Bool) (i : Nat) : okR (gaP n g b i) := by
  refine ⟨fun j hj => ?_, fun j => ?_⟩
  · unfold gaP gaW
    rw [fsL_big hg hj]
    split
    · split <;> rfl
    · rfl
  · unfold gaP
    split
    · unfold gaW
      split
      · exact Or.inl rfl
      · exact fsL_ok hg j n 0
    · exact Or.inl rfl
theorem emR_ok : okR emR := ⟨fun _ _ => rfl, fun _ => Or.inl rfl⟩
theorem gC_ok {S : CS} (h : cOk S) (k l r : Nat) : okR (gC S k l r) := by
  unfold gC
  split
  · exact h.1 _
  · exact emR_ok
theorem gaW_n {n : Nat} {g : Nat → Row} {b : Bool} {x : Nat} (h : fsL g x n 0 = -2) : gaW n g b x = -2 := by
  unfold gaW
  rw [h]
  split <;> rfl
theorem gaW_f {n : Nat} {g : Nat → Row} {b : Bool} {x : Nat} (h : b = false) : gaW n g b x = fsL g x n 0 := by
  unfold gaW
  rw [h]
  simp
theorem gaW_w {n : Nat} {g : Nat → Row} {b : Bool} {x : Nat} (h : ¬ fsL g x n 0 = -1) : gaW n g b x = fsL g x n 0 := by
  unfold gaW
  rw [if_neg (fun z => h z.2)]
theorem gaW_t {n : Nat} {g : Nat → Row} {b : Bool} {x : Nat} (hb : b = true) (h : fsL g x n 0 = -1) : gaW n g b x = -2 := by
  unfold gaW
  rw [if_pos ⟨hb, h⟩]
theorem adS_0 {S : CS} {k l j : Nat} (h : szR (sF S j) = 0) : adS S k l j = S := if_pos h
theorem adS_1 {S : CS} {k l j : Nat} (h : ¬ szR (sF S j) = 0) : adS S k l j = uV (uN (uF S (1 + 13 * k + (3 * l + sN S k l)) (sF S j)) k l (sN S k l + 1)) k (sV S k + nI (szR (sF S j))) := if_neg h
/-- all levels of a binder but perhaps one have two runs at most -/
def oneB (n : Nat → Nat) (L : Nat) : Prop := ∀ l, l < 4 → l ≠ L → n l ≤ 2
theorem sN_adS (S : CS) (k l j k2 l2 : Nat) : sN (adS S k l j) k2 l2 = if szR (sF S j) = 0 then sN S k2 l2 else if k2 = k ∧ l2 = l then sN S k l + 1 else sN S k2 l2 := by
  unfold adS
  split <;> rfl
theorem sN_mg2 (S : CS) (k l k2 l2 : Nat) : sN (mg2 S k l) k2 l2 = if k2 = k ∧ l2 = l then 0 else sN S k2 l2 := rfl
theorem sN_mgS (S : CS) (k l k2 l2 : Nat) : sN (mgS S k l) k2 l2 = sN (mg3 S k l) k2 l2 := rfl
theorem sN_mg3_le (S : CS) (k l l2 : Nat) (hl : l < 4) : sN (mg3 S k l) k l2 ≤ if l2 = min (l + 1) 3 then (if l = 3 then 1 else sN S k l2 + 1) else if l2 = l then 0 else sN S k l2 := by
  unfold mg3
  rw [sN_adS]
  simp only [sN_mg2]
  by_cases h1 : l2 = min (l + 1) 3
  · subst h1
    by_cases h3 : l = 3
    · subst h3
      simp
      split <;> omega
    · have h4 : min (l + 1) 3 = l + 1 := by omega
      rw [h4]
      have h5 : ¬ l + 1 = l := by omega
      simp [h3, h5]
      split <;> omega
  · simp [h1]
theorem mg_one {S : CS} {k l : Nat} (hl : l < 4) (h : oneB (sN S k) l) : oneB (sN (mgS S k l) k) (l + 1) := by
  intro l2 h2 hne
  have := sN_mg3_le S k l l2 hl
  rw [sN_mgS]
  have h3 := h l2 h2
  by_cases e : l2 = min (l + 1) 3
  · by_cases e3 : l = 3
    · subst e3
      simp [e] at this ⊢
      omega
    · omega
  · rw [if_neg e] at this
    by_cases e2 : l2 = l
    · rw [if_pos e2] at this
      omega
    · rw [if_neg e2] at this
      have := h3 e2
      omega
theorem st_one {S : CS} {k L : Nat} (h : oneB (sN S k) L) : ∀ m, m ≤ 4 → ∃ L2, m ≤ L2 ∧ oneB (sN (stS S k m) k) L2
  | 0, _ => ⟨L, Nat.zero_le _, h⟩
  | m + 1, hm => by
    obtain ⟨L2, h1, h2⟩ := st_one h m (by omega)
    unfold stS
    split
    · rename_i h3
      have e : L2 = m := by
        rcases Nat.lt_or_ge m L2 with q | q
        · have := h2 m (by omega) (by omega)
          omega
        · omega
      subst e
      exact ⟨L2 + 1, Nat.le_refl _, mg_one (by omega) h2⟩
    · rename_i h3
      by_cases e : L2 = m
      · subst e
        exact ⟨L2 + 1, Nat.le_refl _, fun l hl hne => by
          by_cases e2 : l = L2
          · subst e2; omega
          · exact h2 l hl e2⟩
      · exact ⟨L2, by omega, h2⟩
theorem st_two {S : CS} {k L : Nat} (h : oneB (sN S k) L) : ∀ l, l < 4 → sN (stS S k 4) k l ≤ 2 := by
  intro l hl
  obtain ⟨L2, h1, h2⟩ := st_one h 4 (Nat.le_refl _)
  exact h2 l hl (by omega)
theorem mg_pre {S : CS} {k l : Nat} (hl : l < 4) (h : oneB (sN S k) l) : sN (mg2 S k l) k (min (l + 1) 3) ≤ 2 := by
  rw [sN_mg2]
  by_cases e : l = 3
  · subst e
    simp
  · have := h (l + 1) (by omega) (by omega)
    rw [show min (l + 1) 3 = l + 1 by omega]
    simp
    omega
theorem min_lv {l : Nat} (hl : l < 4) : (if nI 3 < nI (l + 1) then nI 3 else nI (l + 1)) = nI (min (l + 1) 3) := by
  by_cases e : l = 3
  · subst e
    decide
  · rw [if_neg (nI_nlt (by omega) (by omega)), show min (l + 1) 3 = l + 1 by omega]
theorem stS_y {S : CS} {k m : Nat} (h : ¬ sN (stS S k m) k m < 3) : stS S k (m + 1) = mgS (stS S k m) k m := if_pos (by omega)
theorem stS_n {S : CS} {k m : Nat} (h : sN (stS S k m) k m < 3) : stS S k (m + 1) = stS S k m := if_neg (by omega)
theorem st_at {S : CS} {k L m : Nat} (h : oneB (sN S k) L) (hm : m < 4) (h3 : ¬ sN (stS S k m) k m < 3) : oneB (sN (stS S k m) k) m := by
  obtain ⟨L2, h1, h2⟩ := st_one h m (by omega)
  have e : L2 = m := by
    rcases Nat.lt_or_ge m L2 with q | q
    · have := h2 m hm (by omega)
      omega
    · omega
  subst e
  exact h2

set_option maxHeartbeats 4000000 in
set_option maxRecDepth 100000 in
theorem c_X0_gather (l : Launch) (G : hG) (A : Nat → Prop) (hp : HP) (ad : Nat → Nat) (S : CS) (hC : cW ad S hp) (k : Nat) (hk : k < 2) (lv : Nat) (hl4 : lv < 4) (b : Bool) (hA0 : hIn A hp) : hWr l yX0_gather wsX0_gather 2 47 0 0 G A hp [.ref (aB ad k), .int (nI lv), .int (bI (b))] (fun ro hp' => ro = none ∧ cT ad hp (gaS S k lv b) hp') := by
  refine Met.ofW (cc := cX0_gather) (maxL := 5) (ret := none) (by decide) rfl ?_
  intro p e s m args below meth c s₁ B hml hv
  obtain ⟨rfl, hV0, hK0, hA⟩ := hv
  have hx := B.exec
  have hb := B.bytes
  have hr := B.returns
  have hts := atoms_spec (ws := wsX0_gather) B.pre
  have hown : s.vm.findClass RX0 = some m.cls := findClass_of_methodNamed B.named
  have hlocks := B.notSynchronized
  have hF : CallFix p m c cX0_gather 5 s [.ref (aB ad k), .int (nI lv), .int (bI (b))].toArray wsX0_gather RX0 := ⟨hx, hb, hml, hown, hts⟩
  have hw0 := hts (.fieldLink RX0 22 "SlipLevels$Binder" "merged" "LSlipLevels$Slips;") (by decide +kernel)
  have hi0 : ∀ w ∈ u_ws RX0 TX0 5, w ∈ wsX0_gather := by
    intro w h
    unfold wsX0_gather
    simp only [List.mem_cons, List.mem_append, h, true_or, or_true]
  have hS : va_S A s.heap s.heap [] := va_S.rf
  have hl := lv_entry ([.ref (aB ad k), .int (nI lv), .int (bI (b))]) (n := 5) (Nat.le_of_ble_eq_true rfl)
  rw [lg_entry_eq]
  generalize (lg_sl ([.ref (aB ad k), .int (nI lv), .int (bI (b))]) ++ List.replicate (5 - (lg_sl ([.ref (aB ad k), .int (nI lv), .int (bI (b))])).length) Slot.unset).toArray = ls at hl ⊢
  replace hl : lv_has ls 5 [(0, .ref (aB ad k)), (1, .int (nI lv)), (2, .int (bI (b)))] := hl
  have hT := cT.rf hC
  have hn := hC.ok.2.1 k lv
  have hC0 := hC
  refine lv_aload_n hx hb dX0_gather_0 rfl (lv_at hl 0 rfl) ?_
  refine h_get (v := .ref (aS ad (13 + 13 * k))) hx hb hts hi0 hown hK0 hV0 (hC.bo hk) rfl 2 (by decide) hw0 rfl dX0_gather_1 ?_
  refine h_wrV (As := []) (rest := []) hF (c_X1_clear l G A _ (aS ad (13 + 13 * k)) (aW ad (13 + 13 * k)) (sF S (13 + 13 * k)) _ _ _ _ _ (hC.sl (by omega)).1 (hC.sl (by omega)).2 hA0) 0 gX0_gather_X1_clear rfl (by decide +kernel) ⟨Nat.le_of_ble_eq_true rfl, Nat.le_of_ble_eq_true rfl⟩ hK0 hV0 hA hS (hC.sl (by omega)).1 rfl rfl rfl hl.1 rfl (Nat.le_of_ble_eq_true rfl) ⟨Nat.le_of_ble_eq_true rfl, Nat.le_of_ble_eq_true rfl⟩ dX0_gather_4 (fun ro hp1 H locs hP1 hV0 hA0 hS => ?_)
  obtain ⟨rfl, rfl⟩ := hP1
  have hT := hT.setF (j := (13 + 13 * k)) (by omega) emR_ok
  have hC := hT.1
  refine lv_iconst (v := nI 0) hx hb dX0_gather_7 (by decide) ?_
  refine lv_istore_n (lv' := [(3, .int (nI 0)), (0, .ref (aB ad k)), (1, .int (nI lv)), (2, .int (bI (b)))]) hx hb dX0_gather_8 rfl hl (by decide) rfl (fun ls hl => ?_)
  rw [← gaP_0 (sN S k lv) (gC S k lv) b] at hT
  replace hl : lv_has ls 5 [(3, .int (nI 0)), (0, .ref (aB ad k)), (1, .int (nI lv)), (2, .int (bI (b)))] := lv_sub hl [0, 1, 2, 3] rfl
  refine h_loopW (G := G) (A := A) (H0 := s.heap) (Wf := fun i H locs ls => W p l e (headSpec wsX0_gather { frames := 2, cells := 0, slots := 0, locals := 47 }).room s m ([.ref (aB ad k), .int (nI lv), .int (bI (b))].toArray) below meth c H locs 0 0 (MQ below (hW G A (fun ro hp' => ro = none ∧ cT ad hp (gaS S k lv b) hp')) ([.ref (aB ad k), .int (nI lv), .int (bI (b))].toArray) s 0 0 A) (F0 m 9 ls [])) 64 (fun i => [(3, .int (nI i)), (0, .ref (aB ad k)), (1, .int (nI lv)), (2, .int (bI (b)))]) (fun i hp' => cT ad hp (uF S (13 + 13 * k) (gaP (sN S k lv) (gC S k lv) b i)) hp') (fun i hi9 hp' H locs hT hV0 hA0 hS ih9 ls hl => ?_) 0 (Nat.zero_le _) _ H locs hT hV0 hA0 hS ls hl
  have hC := hT.1
  have hg : gC (uF S (13 + 13 * k) (gaP (sN S k lv) (gC S k lv) b i)) k lv = gC S k lv := gC_uFm hn hl4
  refine lv_iload_n hx hb dX0_gather_9 rfl (lv_at hl 0 rfl) ?_
  refine lv_bipush (v := nI 64) hx hb dX0_gather_10 (by decide) ?_
  refine h_icmp_ge (a := i) (b := 64) (tgt := 56) hx hb dX0_gather_12 (by decide) (by omega) (by omega) (fun c_12 => ?_) (fun c_12 => ?_)
  · obtain rfl : i = 64 := by omega
    exact W.vret hx hb hr (h_qW ⟨rfl, hT⟩ hV0 hA0 hS) hS.2.2 dX0_gather_56 hlocks
  · refine lv_aload_n hx hb dX0_gather_15 rfl (lv_at hl 1 rfl) ?_
    refine lv_iload_n hx hb dX0_gather_16 rfl (lv_at hl 2 rfl) ?_
    refine lv_iload_n hx hb dX0_gather_17 rfl (lv_at hl 0 rfl) ?_
    refine h_rdV (As := [.int (nI lv), .int (nI i)]) (rest := []) hF (c_X0_firstWordIn l G _ ad (uF S (13 + 13 * k) (gaP (sN S k lv) (gC S k lv) b i)) hC k hk lv (by omega) i (by omega)) 2 gX0_gather_X0_firstWordIn rfl (by decide +kernel) ⟨Nat.le_of_ble_eq_true rfl, Nat.le_of_ble_eq_true rfl⟩ hK0 hV0 (hC.bo hk) rfl rfl rfl hl.1 rfl (Nat.le_of_ble_eq_true rfl) (Nat.le_of_ble_eq_true rfl) (Nat.le_of_ble_eq_true rfl) dX0_gather_18 ?_
    rw [hg]
    refine lv_istore (lv' := [(4, .int (fsL (gC S k lv) i (sN S k lv) 0)), (3, .int (nI i)), (0, .ref (aB ad k)), (1, .int (nI lv)), (2, .int (bI (b)))]) hx hb dX0_gather_21 hl (by decide) rfl (fun ls hl => ?_)
    refine lv_iload hx hb dX0_gather_23 (lv_at hl 0 rfl) ?_
    refine lv_bipush (v := (-2)) hx hb dX0_gather_25 (by decide) ?_
    refine lv_icmp_eq (tgt := 50) hx hb dX0_gather_27 (by decide) (fun c_27 => ?_) (fun c_27 => ?_)
    · refine lv_iinc (v := nI (i + 1)) (lv' := [(3, .int (nI (i + 1))), (4, .int (fsL (gC S k lv) i (sN S k lv) 0)), (0, .ref (aB ad k)), (1, .int (nI lv)), (2, .int (bI (b)))]) hx hb dX0_gather_50 hl (k := 1) rfl (nI_add (i) 1) (by decide) rfl (fun ls hl => ?_)
      refine lv_goto (tgt := 9) hx hb dX0_gather_53 (by decide) ?_
      rw [gaP_skip (gaW_n c_27)] at hT
      exact ih9 _ H locs (by omega) hT hV0 hA0 hS ls (lv_sub hl [0, 2, 3, 4] rfl)
    · refine lv_iload_n hx hb dX0_gather_30 rfl (lv_at hl 4 rfl) ?_
      refine h_if_eqB (tgt := 40) hx hb dX0_gather_31 (by decide) (fun c_31 => ?_) (fun c_31 => ?_)
      · refine lv_aload_n hx hb dX0_gather_40 rfl (lv_at hl 2 rfl) ?_
        refine h_get (v := .ref (aS ad (13 + 13 * k))) hx hb hts hi0 hown hK0 hV0 (hC.bo hk) rfl 2 (by decide) hw0 rfl dX0_gather_41 ?_
        refine lv_iload_n hx hb dX0_gather_44 rfl (lv_at hl 1 rfl) ?_
        refine lv_iload hx hb dX0_gather_45 (lv_at hl 0 rfl) ?_
        refine h_wrV (As := [.int (nI i), .int (fsL (gC S k lv) i (sN S k lv) 0)]) (rest := []) hF (c_X1_put l G A _ (aS ad (13 + 13 * k)) (aW ad (13 + 13 * k)) (sF (uF S (13 + 13 * k) (gaP (sN S k lv) (gC S k lv) b i)) (13 + 13 * k)) (hC.sl (by omega)) i ((fsL (gC S k lv) i (sN S k lv) 0)) (by omega) c_27 hA0) 2 gX0_gather_X1_put rfl (by decide +kernel) ⟨Nat.le_of_ble_eq_true rfl, Nat.le_of_ble_eq_true rfl⟩ hK0 hV0 hA hS (hC.sl (by omega)).1 rfl rfl rfl hl.1 rfl (Nat.le_of_ble_eq_true rfl) ⟨Nat.le_of_ble_eq_true rfl, Nat.le_of_ble_eq_true rfl⟩ dX0_gather_47 (fun ro hp1 H locs hP1 hV0 hA0 hS => ?_)
        obtain ⟨rfl, rfl⟩ := hP1
        have hT := hT.setF (j := (13 + 13 * k)) (by omega) (f := upd (sF (uF S (13 + 13 * k) (gaP (sN S k lv) (gC S k lv) b i)) (13 + 13 * k)) i ((fsL (gC S k lv) i (sN S k lv) 0))) (by rw [sF_uF]; first | (rw [gaP_put (gaW_f c_31)]; exact gaP_ok (gC_ok hC0.ok k lv) _ _) | (rw [gaP_put (gaW_w c_37)]; exact gaP_ok (gC_ok hC0.ok k lv) _ _))
        have hC := hT.1
        refine lv_iinc (v := nI (i + 1)) (lv' := [(3, .int (nI (i + 1))), (4, .int (fsL (gC S k lv) i (sN S k lv) 0)), (0, .ref (aB ad k)), (1, .int (nI lv)), (2, .int (bI (b)))]) hx hb dX0_gather_50 hl (k := 1) rfl (nI_add (i) 1) (by decide) rfl (fun ls hl => ?_)
        refine lv_goto (tgt := 9) hx hb dX0_gather_53 (by decide) ?_
        have hSe : uF (uF S (13 + 13 * k) (gaP (sN S k lv) (gC S k lv) b i)) (13 + 13 * k) (upd (sF (uF S (13 + 13 * k) (gaP (sN S k lv) (gC S k lv) b i)) (13 + 13 * k)) i ((fsL (gC S k lv) i (sN S k lv) 0))) = uF S (13 + 13 * k) (gaP (sN S k lv) (gC S k lv) b (i + 1)) := by rw [uF_uF, sF_uF, gaP_put (gaW_f c_31)]
        rw [hSe] at hT
        exact ih9 _ H locs (by omega) hT hV0 hA0 hS ls (lv_sub hl [0, 2, 3, 4] rfl)
      · refine lv_iload hx hb dX0_gather_34 (lv_at hl 0 rfl) ?_
        refine lv_iconst (v := (-1)) hx hb dX0_gather_36 (by decide) ?_
        refine lv_icmp_eq (tgt := 50) hx hb dX0_gather_37 (by decide) (fun c_37 => ?_) (fun c_37 => ?_)
        · refine lv_iinc (v := nI (i + 1)) (lv' := [(3, .int (nI (i + 1))), (4, .int (fsL (gC S k lv) i (sN S k lv) 0)), (0, .ref (aB ad k)), (1, .int (nI lv)), (2, .int (bI (b)))]) hx hb dX0_gather_50 hl (k := 1) rfl (nI_add (i) 1) (by decide) rfl (fun ls hl => ?_)
          refine lv_goto (tgt := 9) hx hb dX0_gather_53 (by decide) ?_
          rw [gaP_skip (gaW_t c_31 c_37)] at hT
          exact ih9 _ H locs (by omega) hT hV0 hA0 hS ls (lv_sub hl [0, 2, 3, 4] rfl)
        · refine lv_aload_n hx hb dX0_gather_40 rfl (lv_at hl 2 rfl) ?_
          refine h_get (v := .ref (aS ad (13 + 13 * k))) hx hb hts hi0 hown hK0 hV0 (hC.bo hk) rfl 2 (by decide) hw0 rfl dX0_gather_41 ?_
          refine lv_iload_n hx hb dX0_gather_44 rfl (lv_at hl 1 rfl) ?_
          refine lv_iload hx hb dX0_gather_45 (lv_at hl 0 rfl) ?_
          refine h_wrV (As := [.int (nI i), .int (fsL (gC S k lv) i (sN S k lv) 0)]) (rest := []) hF (c_X1_put l G A _ (aS ad (13 + 13 * k)) (aW ad (13 + 13 * k)) (sF (uF S (13 + 13 * k) (gaP (sN S k lv) (gC S k lv) b i)) (13 + 13 * k)) (hC.sl (by omega)) i ((fsL (gC S k lv) i (sN S k lv) 0)) (by omega) c_27 hA0) 2 gX0_gather_X1_put rfl (by decide +kernel) ⟨Nat.le_of_ble_eq_true rfl, Nat.le_of_ble_eq_true rfl⟩ hK0 hV0 hA hS (hC.sl (by omega)).1 rfl rfl rfl hl.1 rfl (Nat.le_of_ble_eq_true rfl) ⟨Nat.le_of_ble_eq_true rfl, Nat.le_of_ble_eq_true rfl⟩ dX0_gather_47 (fun ro hp1 H locs hP1 hV0 hA0 hS => ?_)
          obtain ⟨rfl, rfl⟩ := hP1
          have hT := hT.setF (j := (13 + 13 * k)) (by omega) (f := upd (sF (uF S (13 + 13 * k) (gaP (sN S k lv) (gC S k lv) b i)) (13 + 13 * k)) i ((fsL (gC S k lv) i (sN S k lv) 0))) (by rw [sF_uF]; first | (rw [gaP_put (gaW_f c_31)]; exact gaP_ok (gC_ok hC0.ok k lv) _ _) | (rw [gaP_put (gaW_w c_37)]; exact gaP_ok (gC_ok hC0.ok k lv) _ _))
          have hC := hT.1
          refine lv_iinc (v := nI (i + 1)) (lv' := [(3, .int (nI (i + 1))), (4, .int (fsL (gC S k lv) i (sN S k lv) 0)), (0, .ref (aB ad k)), (1, .int (nI lv)), (2, .int (bI (b)))]) hx hb dX0_gather_50 hl (k := 1) rfl (nI_add (i) 1) (by decide) rfl (fun ls hl => ?_)
          refine lv_goto (tgt := 9) hx hb dX0_gather_53 (by decide) ?_
          have hSe : uF (uF S (13 + 13 * k) (gaP (sN S k lv) (gC S k lv) b i)) (13 + 13 * k) (upd (sF (uF S (13 + 13 * k) (gaP (sN S k lv) (gC S k lv) b i)) (13 + 13 * k)) i ((fsL (gC S k lv) i (sN S k lv) 0))) = uF S (13 + 13 * k) (gaP (sN S k lv) (gC S k lv) b (i + 1)) := by rw [uF_uF, sF_uF, gaP_put (gaW_w c_37)]
          rw [hSe] at hT
          exact ih9 _ H locs (by omega) hT hV0 hA0 hS ls (lv_sub hl [0, 2, 3, 4] rfl)

set_option maxHeartbeats 4000000 in
set_option maxRecDepth 100000 in
theorem c_X0_addRun (l : Launch) (G : hG) (A : Nat → Prop) (hp : HP) (ad : Nat → Nat) (S : CS) (hC : cW ad S hp) (k : Nat) (hk : k < 2) (lv : Nat) (hl4 : lv < 4) (j : Nat) (hj : j < 27) (hn2 : sN S k lv ≤ 2) (hjr : 1 + 13 * k + (3 * lv + sN S k lv) ≠ j) (hA0 : hIn A hp) : hWr l yX0_addRun wsX0_addRun 2 42 0 0 G A hp [.ref (aB ad k), .int (nI lv), .ref (aS ad j)] (fun ro hp' => ro = none ∧ cT ad hp (adS S k lv j) hp') := by
  refine Met.ofW (cc := cX0_addRun) (maxL := 4) (ret := none) (by decide) rfl ?_
  intro p e s m args below meth c s₁ B hml hv
  obtain ⟨rfl, hV0, hK0, hA⟩ := hv
  have hx := B.exec
  have hb := B.bytes
  have hr := B.returns
  have hts := atoms_spec (ws := wsX0_addRun) B.pre
  have hown : s.vm.findClass RX0 = some m.cls := findClass_of_methodNamed B.named
  have hlocks := B.notSynchronized
  have hF : CallFix p m c cX0_addRun 4 s [.ref (aB ad k), .int (nI lv), .ref (aS ad j)].toArray wsX0_addRun RX0 := ⟨hx, hb, hml, hown, hts⟩
  have hw0 := hts (.fieldLink RX0 17 "SlipLevels$Binder" "runs" "[I") (by decide +kernel)
  have hw1 := hts (.fieldLink RX0 26 "SlipLevels$Binder" "moves" "I") (by decide +kernel)
  have hi0 : ∀ w ∈ u_ws RX0 TX0 5, w ∈ wsX0_addRun := by
    intro w h
    unfold wsX0_addRun
    simp only [List.mem_cons, List.mem_append, h, true_or, or_true]
  have hS : va_S A s.heap s.heap [] := va_S.rf
  have hl := lv_entry ([.ref (aB ad k), .int (nI lv), .ref (aS ad j)]) (n := 4) (Nat.le_of_ble_eq_true rfl)
  rw [lg_entry_eq]
  generalize (lg_sl ([.ref (aB ad k), .int (nI lv), .ref (aS ad j)]) ++ List.replicate (4 - (lg_sl ([.ref (aB ad k), .int (nI lv), .ref (aS ad j)])).length) Slot.unset).toArray = ls at hl ⊢
  replace hl : lv_has ls 4 [(0, .ref (aB ad k)), (1, .int (nI lv)), (2, .ref (aS ad j))] := hl
  have hT := cT.rf hC
  refine lv_aload_n hx hb dX0_addRun_0 rfl (lv_at hl 0 rfl) ?_
  refine lv_iload_n hx hb dX0_addRun_1 rfl (lv_at hl 1 rfl) ?_
  refine lv_aload_n hx hb dX0_addRun_2 rfl (lv_at hl 0 rfl) ?_
  refine lv_iload_n hx hb dX0_addRun_3 rfl (lv_at hl 1 rfl) ?_
  refine h_rdV (As := [.int (nI lv)]) (rest := [.int (nI lv), .ref (aB ad k)]) hF (c_X0_runsOf l G _ ad S hC k hk lv (by omega)) 1 gX0_addRun_X0_runsOf rfl (by decide +kernel) ⟨Nat.le_of_ble_eq_true rfl, Nat.le_of_ble_eq_true rfl⟩ hK0 hV0 (hC.bo hk) rfl rfl rfl hl.1 rfl (Nat.le_of_ble_eq_true rfl) (Nat.le_of_ble_eq_true rfl) (Nat.le_of_ble_eq_true rfl) dX0_addRun_4 ?_
  refine h_rdV (As := [.int (nI lv), .int (nI (sN S k lv))]) (rest := []) hF (c_X0_rowAt l G _ ad S hC k hk lv (sN S k lv) (by omega) (by omega)) 2 gX0_addRun_X0_rowAt rfl (by decide +kernel) ⟨Nat.le_of_ble_eq_true rfl, Nat.le_of_ble_eq_true rfl⟩ hK0 hV0 (hC.bo hk) rfl rfl rfl hl.1 rfl (Nat.le_of_ble_eq_true rfl) (Nat.le_of_ble_eq_true rfl) (Nat.le_of_ble_eq_true rfl) dX0_addRun_7 ?_
  refine lv_astore_n (lv' := [(3, .ref (aS ad (1 + 13 * k + (3 * lv + (sN S k lv))))), (0, .ref (aB ad k)), (1, .int (nI lv)), (2, .ref (aS ad j))]) hx hb dX0_addRun_10 rfl hl (by decide) rfl (fun ls hl => ?_)
  refine lv_aload_n hx hb dX0_addRun_11 rfl (lv_at hl 0 rfl) ?_
  refine lv_ifnull hx hb dX0_addRun_12 ?_
  refine lv_aload_n hx hb dX0_addRun_15 rfl (lv_at hl 3 rfl) ?_
  refine lv_ifnull hx hb dX0_addRun_16 ?_
  refine lv_aload_n hx hb dX0_addRun_19 rfl (lv_at hl 3 rfl) ?_
  refine h_rdV (As := []) (rest := []) hF (c_X1_size l G _ (aS ad j) (aW ad j) (sF S j) (hC.sl (by omega))) 0 gX0_addRun_X1_size rfl (by decide +kernel) ⟨Nat.le_of_ble_eq_true rfl, Nat.le_of_ble_eq_true rfl⟩ hK0 hV0 (hC.sl (by omega)).1 rfl rfl rfl hl.1 rfl (Nat.le_of_ble_eq_true rfl) (Nat.le_of_ble_eq_true rfl) (Nat.le_of_ble_eq_true rfl) dX0_addRun_20 ?_
  have hzz := szR_le (sF S j)
  refine h_if_ne (a := szR (sF S j)) (tgt := 27) hx hb dX0_addRun_23 (by decide) (by omega) (fun c_23 => ?_) (fun c_23 => ?_)
  · refine lv_aload_n hx hb dX0_addRun_27 rfl (lv_at hl 0 rfl) ?_
    refine lv_aload_n hx hb dX0_addRun_28 rfl (lv_at hl 3 rfl) ?_
    refine h_wrV (As := [.ref (aS ad j)]) (rest := []) hF (c_X1_copy l G A _ (aS ad (1 + 13 * k + (3 * lv + (sN S k lv)))) (aW ad (1 + 13 * k + (3 * lv + (sN S k lv)))) (aS ad j) (aW ad j) (sF S (1 + 13 * k + (3 * lv + (sN S k lv)))) (sF S j) (hC.sl (by omega)) (hC.sl (by omega)) (hC.ne (by omega) (by omega) hjr).1 (hC.ne (by omega) (by omega) hjr).2 (hC.ok.1 _).1 (hC.ok.1 _).1 hA0) 1 gX0_addRun_X1_copy rfl (by decide +kernel) ⟨Nat.le_of_ble_eq_true rfl, Nat.le_of_ble_eq_true rfl⟩ hK0 hV0 hA hS (hC.sl (by omega)).1 rfl rfl rfl hl.1 rfl (Nat.le_of_ble_eq_true rfl) ⟨Nat.le_of_ble_eq_true rfl, Nat.le_of_ble_eq_true rfl⟩ dX0_addRun_29 (fun ro hp1 H locs hP1 hV0 hA0 hS => ?_)
    obtain ⟨rfl, rfl⟩ := hP1
    have hT := hT.setF (j := (1 + 13 * k + (3 * lv + (sN S k lv)))) (by omega) (hC.ok.1 j)
    have hC := hT.1
    refine lv_aload_n hx hb dX0_addRun_32 rfl (lv_at hl 1 rfl) ?_
    refine h_get (v := .ref (aN ad k)) hx hb hts hi0 hown hK0 hV0 (hC.bo hk) rfl 1 (by decide) hw0 rfl dX0_addRun_33 ?_
    refine lv_iload_n hx hb dX0_addRun_36 rfl (lv_at hl 2 rfl) ?_
    refine lv_dup2_11 hx hb dX0_addRun_37 rfl rfl ?_
    refine h_iald (i := lv) hx hb hK0 hV0 (hC.bn hk) (by omega) (by omega) dX0_addRun_38 ?_
    refine lv_iconst (v := nI 1) hx hb dX0_addRun_39 (by decide) ?_
    refine h_iaddN hx hb dX0_addRun_40 ?_
    refine h_iast (i := lv) (x := nI (sN (uF S (1 + 13 * k + (3 * lv + (sN S k lv))) (sF S j)) k lv + 1)) hx hb hK0 hV0 hA0 hS (hC.bn hk) (by omega) (by omega) dX0_addRun_41 (fun H locs hV0 hA0 hS => ?_)
    have hT := hT.setN (k := k) hk (l := lv) (v := sN (uF S (1 + 13 * k + (3 * lv + (sN S k lv))) (sF S j)) k lv + 1) (by omega) (show sN S k lv + 1 ≤ 3 by omega)
    have hC := hT.1
    refine lv_aload_n hx hb dX0_addRun_42 rfl (lv_at hl 1 rfl) ?_
    refine lv_dup hx hb dX0_addRun_43 rfl ?_
    refine h_get (v := .int (sV (uN (uF S (1 + 13 * k + (3 * lv + (sN S k lv))) (sF S j)) k lv (sN (uF S (1 + 13 * k + (3 * lv + (sN S k lv))) (sF S j)) k lv + 1)) k)) hx hb hts hi0 hown hK0 hV0 (hC.bo hk) rfl 3 (by decide) hw1 rfl dX0_addRun_44 ?_
    refine lv_aload_n hx hb dX0_addRun_47 rfl (lv_at hl 3 rfl) ?_
    have hz2 : szR (sF (uN (uF S (1 + 13 * k + (3 * lv + (sN S k lv))) (sF S j)) k lv (sN (uF S (1 + 13 * k + (3 * lv + (sN S k lv))) (sF S j)) k lv + 1)) j) = szR (sF S j) := by rw [show sF (uN (uF S (1 + 13 * k + (3 * lv + (sN S k lv))) (sF S j)) k lv (sN (uF S (1 + 13 * k + (3 * lv + (sN S k lv))) (sF S j)) k lv + 1)) j = sF S j from sF_uFn S _ (Ne.symm hjr)]
    refine h_rdV (As := []) (rest := [.int (sV (uN (uF S (1 + 13 * k + (3 * lv + (sN S k lv))) (sF S j)) k lv (sN (uF S (1 + 13 * k + (3 * lv + (sN S k lv))) (sF S j)) k lv + 1)) k), .ref (aB ad k)]) hF (c_X1_size l G _ (aS ad j) (aW ad j) (sF (uN (uF S (1 + 13 * k + (3 * lv + (sN S k lv))) (sF S j)) k lv (sN (uF S (1 + 13 * k + (3 * lv + (sN S k lv))) (sF S j)) k lv + 1)) j) (hC.sl (by omega))) 0 gX0_addRun_X1_size rfl (by decide +kernel) ⟨Nat.le_of_ble_eq_true rfl, Nat.le_of_ble_eq_true rfl⟩ hK0 hV0 (hC.sl (by omega)).1 rfl rfl rfl hl.1 rfl (Nat.le_of_ble_eq_true rfl) (Nat.le_of_ble_eq_true rfl) (Nat.le_of_ble_eq_true rfl) dX0_addRun_48 ?_
    rw [hz2]
    refine lv_iadd hx hb dX0_addRun_51 ?_
    refine h_put (v := .int ((sV (uN (uF S (1 + 13 * k + (3 * lv + (sN S k lv))) (sF S j)) k lv (sN (uF S (1 + 13 * k + (3 * lv + (sN S k lv))) (sF S j)) k lv + 1)) k) + nI (szR (sF S j)))) hx hb hts hi0 tyX0 tyX0_ok nmX0 hown hK0 hV0 hA0 hS (hC.bo hk) rfl 3 (by decide) hw1 rfl (by rfl) (by rfl) (Nat.le_of_ble_eq_true rfl) dX0_addRun_52 (fun H locs hV0 hA0 hS => ?_)
    have hT := hT.setV (k := k) hk (((sV (uN (uF S (1 + 13 * k + (3 * lv + (sN S k lv))) (sF S j)) k lv (sN (uF S (1 + 13 * k + (3 * lv + (sN S k lv))) (sF S j)) k lv + 1)) k) + nI (szR (sF S j))))
    have hC := hT.1
    exact W.vret hx hb hr (h_qW ⟨rfl, by rw [adS_1 c_23]; exact hT⟩ hV0 hA0 hS) hS.2.2 dX0_addRun_55 hlocks
  · exact W.vret hx hb hr (h_qW ⟨rfl, by rw [adS_0 c_23]; exact hT⟩ hV0 hA0 hS) hS.2.2 dX0_addRun_26 hlocks

set_option maxHeartbeats 4000000 in
set_option maxRecDepth 100000 in
theorem c_X0_mergeLevel (l : Launch) (G : hG) (A : Nat → Prop) (hp : HP) (ad : Nat → Nat) (S : CS) (hC : cW ad S hp) (k : Nat) (hk : k < 2) (lv : Nat) (hl4 : lv < 4) (h1 : oneB (sN S k) lv) (hA0 : hIn A hp) : hWr l yX0_mergeLevel wsX0_mergeLevel 3 71 0 0 G A hp [.ref (aB ad k), .int (nI lv)] (fun ro hp' => ro = none ∧ cT ad hp (mgS S k lv) hp') := by
  refine Met.ofW (cc := cX0_mergeLevel) (maxL := 2) (ret := none) (by decide) rfl ?_
  intro p e s m args below meth c s₁ B hml hv
  obtain ⟨rfl, hV0, hK0, hA⟩ := hv
  have hx := B.exec
  have hb := B.bytes
  have hr := B.returns
  have hts := atoms_spec (ws := wsX0_mergeLevel) B.pre
  have hown : s.vm.findClass RX0 = some m.cls := findClass_of_methodNamed B.named
  have hlocks := B.notSynchronized
  have hF : CallFix p m c cX0_mergeLevel 2 s [.ref (aB ad k), .int (nI lv)].toArray wsX0_mergeLevel RX0 := ⟨hx, hb, hml, hown, hts⟩
  have hw0 := hts (.fieldLink RX0 17 "SlipLevels$Binder" "runs" "[I") (by decide +kernel)
  have hw1 := hts (.methodLink RX0 76 Lib.Math.min.name) (by decide +kernel)
  have hw2 := hts (.static Lib.Math.min.name) (by decide +kernel)
  have hw3 := hts (.initialized "java/lang/Math") (by decide +kernel)
  have hw4 := hts (.code Lib.Math.min.name Lib.Math.min.code 2 (some .int)) (by decide +kernel)
  have hw5 := hts (.fieldLink RX0 22 "SlipLevels$Binder" "merged" "LSlipLevels$Slips;") (by decide +kernel)
  have hw6 := hts (.fieldLink RX0 30 "SlipLevels$Binder" "mergings" "I") (by decide +kernel)
  have hi0 : ∀ w ∈ u_ws RX0 TX0 5, w ∈ wsX0_mergeLevel := by
    intro w h
    unfold wsX0_mergeLevel
    simp only [List.mem_cons, List.mem_append, h, true_or, or_true]
  have hS : va_S A s.heap s.heap [] := va_S.rf
  have hl := lv_entry ([.ref (aB ad k), .int (nI lv)]) (n := 2) (Nat.le_of_ble_eq_true rfl)
  rw [lg_entry_eq]
  generalize (lg_sl ([.ref (aB ad k), .int (nI lv)]) ++ List.replicate (2 - (lg_sl ([.ref (aB ad k), .int (nI lv)])).length) Slot.unset).toArray = ls at hl ⊢
  replace hl : lv_has ls 2 [(0, .ref (aB ad k)), (1, .int (nI lv))] := hl
  have hT := cT.rf hC
  have hmp := mg_pre hl4 h1
  refine lv_iload_n hx hb dX0_mergeLevel_0 rfl (lv_at hl 1 rfl) ?_
  refine h_if_lt (a := lv) (tgt := 9) hx hb dX0_mergeLevel_1 (by decide) (by omega) ?_
  refine lv_iload_n hx hb dX0_mergeLevel_4 rfl (lv_at hl 1 rfl) ?_
  refine lv_iconst (v := nI 4) hx hb dX0_mergeLevel_5 (by decide) ?_
  refine h_icmp_lt (a := lv) (b := 4) (tgt := 10) hx hb dX0_mergeLevel_6 (by decide) (by omega) (by omega) (fun c_6 => ?_) (fun c_6 => absurd hl4 c_6)
  refine lv_aload_n hx hb dX0_mergeLevel_10 rfl (lv_at hl 0 rfl) ?_
  refine lv_iload_n hx hb dX0_mergeLevel_11 rfl (lv_at hl 1 rfl) ?_
  refine lv_aload_n hx hb dX0_mergeLevel_12 rfl (lv_at hl 0 rfl) ?_
  refine lv_iload_n hx hb dX0_mergeLevel_13 rfl (lv_at hl 1 rfl) ?_
  refine h_rdV (As := [.int (nI lv)]) (rest := [.int (nI lv), .ref (aB ad k)]) hF (c_X0_nothingBehind l G _ ad S hC k hk lv (by omega)) 1 gX0_mergeLevel_X0_nothingBehind rfl (by decide +kernel) ⟨Nat.le_of_ble_eq_true rfl, Nat.le_of_ble_eq_true rfl⟩ hK0 hV0 (hC.bo hk) rfl rfl rfl hl.1 rfl (Nat.le_of_ble_eq_true rfl) (Nat.le_of_ble_eq_true rfl) (Nat.le_of_ble_eq_true rfl) dX0_mergeLevel_14 ?_
  refine h_wrV (As := [.int (nI lv), .int (bI (nbA (sN S k) lv))]) (rest := []) hF (c_X0_gather l G A _ ad S hC k hk lv (by omega) (nbA (sN S k) lv) hA0) 2 gX0_mergeLevel_X0_gather rfl (by decide +kernel) ⟨Nat.le_of_ble_eq_true rfl, Nat.le_of_ble_eq_true rfl⟩ hK0 hV0 hA hS (hC.bo hk) rfl rfl rfl hl.1 rfl (Nat.le_of_ble_eq_true rfl) ⟨Nat.le_of_ble_eq_true rfl, Nat.le_of_ble_eq_true rfl⟩ dX0_mergeLevel_17 (fun ro hp1 H locs hP1 hV0 hA0 hS => ?_)
  obtain ⟨rfl, hT1⟩ := hP1
  have hT := hT.tr hT1
  have hC := hT.1
  refine lv_aload_n hx hb dX0_mergeLevel_20 rfl (lv_at hl 0 rfl) ?_
  refine h_get (v := .ref (aN ad k)) hx hb hts hi0 hown hK0 hV0 (hC.bo hk) rfl 1 (by decide) hw0 rfl dX0_mergeLevel_21 ?_
  refine lv_iload_n hx hb dX0_mergeLevel_24 rfl (lv_at hl 1 rfl) ?_
  refine lv_iconst (v := nI 0) hx hb dX0_mergeLevel_25 (by decide) ?_
  refine h_iast (i := lv) (x := nI 0) hx hb hK0 hV0 hA0 hS (hC.bn hk) (by omega) (by omega) dX0_mergeLevel_26 (fun H locs hV0 hA0 hS => ?_)
  have hT := hT.setN (k := k) hk (l := lv) (v := 0) (by omega) (by omega)
  have hC := hT.1
  have hT : cT ad hp (mg2 S k lv) _ := hT
  have hC := hT.1
  have hmin := Nat.min_le_right (lv + 1) 3
  refine lv_aload_n hx hb dX0_mergeLevel_27 rfl (lv_at hl 0 rfl) ?_
  refine lv_iload_n hx hb dX0_mergeLevel_28 rfl (lv_at hl 1 rfl) ?_
  refine lv_iconst (v := nI 1) hx hb dX0_mergeLevel_29 (by decide) ?_
  refine h_iaddN hx hb dX0_mergeLevel_30 ?_
  refine lv_iconst (v := nI 3) hx hb dX0_mergeLevel_31 (by decide) ?_
  refine va_mmin hx hb (hml.trans hl.1.symm) hown hw1 hw2 hw3 hw4 (Nat.le_of_ble_eq_true rfl) (Nat.le_of_ble_eq_true rfl) (Nat.le_of_ble_eq_true rfl) (Nat.le_of_ble_eq_true rfl) dX0_mergeLevel_32 ?_
  rw [min_lv hl4]
  refine lv_aload_n hx hb dX0_mergeLevel_35 rfl (lv_at hl 0 rfl) ?_
  refine h_get (v := .ref (aS ad (13 + 13 * k))) hx hb hts hi0 hown hK0 hV0 (hC.bo hk) rfl 2 (by decide) hw5 rfl dX0_mergeLevel_36 ?_
  refine h_wrV (As := [.int (nI (min (lv + 1) 3)), .ref (aS ad (13 + 13 * k))]) (rest := []) hF (c_X0_addRun l G A _ ad (mg2 S k lv) hC k hk (min (lv + 1) 3) (by omega) (13 + 13 * k) (by omega) hmp (by omega) hA0) 2 gX0_mergeLevel_X0_addRun rfl (by decide +kernel) ⟨Nat.le_of_ble_eq_true rfl, Nat.le_of_ble_eq_true rfl⟩ hK0 hV0 hA hS (hC.bo hk) rfl rfl rfl hl.1 rfl (Nat.le_of_ble_eq_true rfl) ⟨Nat.le_of_ble_eq_true rfl, Nat.le_of_ble_eq_true rfl⟩ dX0_mergeLevel_39 (fun ro hp1 H locs hP1 hV0 hA0 hS => ?_)
  obtain ⟨rfl, hT1⟩ := hP1
  have hT := hT.tr hT1
  have hC := hT.1
  have hT : cT ad hp (mg3 S k lv) _ := hT
  have hC := hT.1
  refine lv_aload_n hx hb dX0_mergeLevel_42 rfl (lv_at hl 0 rfl) ?_
  refine lv_dup hx hb dX0_mergeLevel_43 rfl ?_
  refine h_get (v := .int (sG (mg3 S k lv) k)) hx hb hts hi0 hown hK0 hV0 (hC.bo hk) rfl 4 (by decide) hw6 rfl dX0_mergeLevel_44 ?_
  refine lv_iconst (v := nI 1) hx hb dX0_mergeLevel_47 (by decide) ?_
  refine lv_iadd hx hb dX0_mergeLevel_48 ?_
  refine h_put (v := .int ((sG (mg3 S k lv) k) + nI 1)) hx hb hts hi0 tyX0 tyX0_ok nmX0 hown hK0 hV0 hA0 hS (hC.bo hk) rfl 4 (by decide) hw6 rfl (by rfl) (by rfl) (Nat.le_of_ble_eq_true rfl) dX0_mergeLevel_49 (fun H locs hV0 hA0 hS => ?_)
  have hT := hT.setG (k := k) hk (((sG (mg3 S k lv) k) + nI 1))
  have hC := hT.1
  exact W.vret hx hb hr (h_qW ⟨rfl, hT⟩ hV0 hA0 hS) hS.2.2 dX0_mergeLevel_52 hlocks

set_option maxHeartbeats 4000000 in
set_option maxRecDepth 100000 in
theorem c_X0_settle (l : Launch) (G : hG) (A : Nat → Prop) (hp : HP) (ad : Nat → Nat) (S : CS) (hC : cW ad S hp) (k : Nat) (hk : k < 2) (L : Nat) (h1 : oneB (sN S k) L) (hA0 : hIn A hp) : hWr l yX0_settle wsX0_settle 4 92 0 0 G A hp [.ref (aB ad k)] (fun ro hp' => ro = none ∧ cT ad hp (stS S k 4) hp') := by
  refine Met.ofW (cc := cX0_settle) (maxL := 2) (ret := none) (by decide) rfl ?_
  intro p e s m args below meth c s₁ B hml hv
  obtain ⟨rfl, hV0, hK0, hA⟩ := hv
  have hx := B.exec
  have hb := B.bytes
  have hr := B.returns
  have hts := atoms_spec (ws := wsX0_settle) B.pre
  have hown : s.vm.findClass RX0 = some m.cls := findClass_of_methodNamed B.named
  have hlocks := B.notSynchronized
  have hF : CallFix p m c cX0_settle 2 s [.ref (aB ad k)].toArray wsX0_settle RX0 := ⟨hx, hb, hml, hown, hts⟩
  have hS : va_S A s.heap s.heap [] := va_S.rf
  have hl := lv_entry ([.ref (aB ad k)]) (n := 2) (Nat.le_of_ble_eq_true rfl)
  rw [lg_entry_eq]
  generalize (lg_sl ([.ref (aB ad k)]) ++ List.replicate (2 - (lg_sl ([.ref (aB ad k)])).length) Slot.unset).toArray = ls at hl ⊢
  replace hl : lv_has ls 2 [(0, .ref (aB ad k))] := hl
  have hT := cT.rf hC
  refine lv_iconst (v := nI 0) hx hb dX0_settle_0 (by decide) ?_
  refine lv_istore_n (lv' := [(1, .int (nI 0)), (0, .ref (aB ad k))]) hx hb dX0_settle_1 rfl hl (by decide) rfl (fun ls hl => ?_)
  replace hl : lv_has ls 2 [(1, .int (nI 0)), (0, .ref (aB ad k))] := lv_sub hl [0, 1] rfl
  refine h_loopW (G := G) (A := A) (H0 := s.heap) (Wf := fun i H locs ls => W p l e (headSpec wsX0_settle { frames := 4, cells := 0, slots := 0, locals := 92 }).room s m ([.ref (aB ad k)].toArray) below meth c H locs 0 0 (MQ below (hW G A (fun ro hp' => ro = none ∧ cT ad hp (stS S k 4) hp')) ([.ref (aB ad k)].toArray) s 0 0 A) (F0 m 2 ls [])) 4 (fun i => [(1, .int (nI i)), (0, .ref (aB ad k))]) (fun i hp' => cT ad hp (stS S k i) hp') (fun i hi2 hp' H locs hT hV0 hA0 hS ih2 ls hl => ?_) 0 (Nat.zero_le _) hp s.heap [] hT hV0 hA0 hS ls hl
  have hC := hT.1
  have hn := hC.ok.2.1 k i
  refine lv_iload_n hx hb dX0_settle_2 rfl (lv_at hl 0 rfl) ?_
  refine lv_iconst (v := nI 4) hx hb dX0_settle_3 (by decide) ?_
  refine h_icmp_ge (a := i) (b := 4) (tgt := 27) hx hb dX0_settle_4 (by decide) (by omega) (by omega) (fun c_4 => ?_) (fun c_4 => ?_)
  · obtain rfl : i = 4 := by omega
    exact W.vret hx hb hr (h_qW ⟨rfl, hT⟩ hV0 hA0 hS) hS.2.2 dX0_settle_27 hlocks
  · refine lv_aload_n hx hb dX0_settle_7 rfl (lv_at hl 1 rfl) ?_
    refine lv_iload_n hx hb dX0_settle_8 rfl (lv_at hl 0 rfl) ?_
    refine h_rdV (As := [.int (nI i)]) (rest := []) hF (c_X0_runsOf l G _ ad (stS S k i) hC k hk i (by omega)) 1 gX0_settle_X0_runsOf rfl (by decide +kernel) ⟨Nat.le_of_ble_eq_true rfl, Nat.le_of_ble_eq_true rfl⟩ hK0 hV0 (hC.bo hk) rfl rfl rfl hl.1 rfl (Nat.le_of_ble_eq_true rfl) (Nat.le_of_ble_eq_true rfl) (Nat.le_of_ble_eq_true rfl) dX0_settle_9 ?_
    refine lv_iconst (v := nI 3) hx hb dX0_settle_12 (by decide) ?_
    refine h_icmp_lt (a := sN (stS S k i) k i) (b := 3) (tgt := 21) hx hb dX0_settle_13 (by decide) (by omega) (by omega) (fun c_13 => ?_) (fun c_13 => ?_)
    · refine lv_iinc (v := nI (i + 1)) (lv' := [(1, .int (nI (i + 1))), (0, .ref (aB ad k))]) hx hb dX0_settle_21 hl (k := 0) rfl (nI_add (i) 1) (by decide) rfl (fun ls hl => ?_)
      refine lv_goto (tgt := 2) hx hb dX0_settle_24 (by decide) ?_
      rw [← stS_n c_13] at hT
      exact ih2 _ H locs (by omega) hT hV0 hA0 hS ls (lv_sub hl [0, 1] rfl)
    · refine lv_aload_n hx hb dX0_settle_16 rfl (lv_at hl 1 rfl) ?_
      refine lv_iload_n hx hb dX0_settle_17 rfl (lv_at hl 0 rfl) ?_
      refine h_wrV (As := [.int (nI i)]) (rest := []) hF (c_X0_mergeLevel l G A _ ad (stS S k i) hC k hk i (by omega) (st_at h1 (by omega) c_13) hA0) 1 gX0_settle_X0_mergeLevel rfl (by decide +kernel) ⟨Nat.le_of_ble_eq_true rfl, Nat.le_of_ble_eq_true rfl⟩ hK0 hV0 hA hS (hC.bo hk) rfl rfl rfl hl.1 rfl (Nat.le_of_ble_eq_true rfl) ⟨Nat.le_of_ble_eq_true rfl, Nat.le_of_ble_eq_true rfl⟩ dX0_settle_18 (fun ro hp1 H locs hP1 hV0 hA0 hS => ?_)
      obtain ⟨rfl, hT1⟩ := hP1
      have hT := hT.tr hT1
      have hC := hT.1
      refine lv_iinc (v := nI (i + 1)) (lv' := [(1, .int (nI (i + 1))), (0, .ref (aB ad k))]) hx hb dX0_settle_21 hl (k := 0) rfl (nI_add (i) 1) (by decide) rfl (fun ls hl => ?_)
      refine lv_goto (tgt := 2) hx hb dX0_settle_24 (by decide) ?_
      rw [← stS_y c_13] at hT
      exact ih2 _ H locs (by omega) hT hV0 hA0 hS ls (lv_sub hl [0, 1] rfl)
end
section
/-! binder 1 takes over the runs of binder 0: a levels have their number, i levels their rows, level i has j rows -/
def cpS (S : CS) (a i j : Nat) : CS := (fun q => if (14 ≤ q ∧ q < 26) ∧ (((q - 14) / 3 < i ∧ (q - 14) % 3 < sN S 0 ((q - 14) / 3)) ∨ ((q - 14) / 3 = i ∧ (q - 14) % 3 < j)) then sF S (q - 13) else sF S q, fun k l => if k = 1 ∧ l < a then sN S 0 l else sN S k l, sV S, sG S, sR S, sD S)
theorem cpS_0 (S : CS) : cpS S 0 0 0 = S := by
  unfold cpS
  have h1 : (fun q => if (14 ≤ q ∧ q < 26) ∧ (((q - 14) / 3 < 0 ∧ (q - 14) % 3 < sN S 0 ((q - 14) / 3)) ∨ ((q - 14) / 3 = 0 ∧ (q - 14) % 3 < 0)) then sF S (q - 13) else sF S q) = sF S := by
    funext q
    rw [if_neg (by omega)]
  have h2 : (fun k l => if k = 1 ∧ l < 0 then sN S 0 l else sN S k l) = sN S := by
    funext k l
    rw [if_neg (by omega)]
  rw [h1, h2]
  rfl
theorem cpS_N0 (S : CS) (a i j l : Nat) : sN (cpS S a i j) 0 l = sN S 0 l := by
  show (if 0 = 1 ∧ l < a then sN S 0 l else sN S 0 l) = _
  split <;> rfl
theorem cpS_N1 (S : CS) (i j : Nat) : sN (cpS S (i + 1) i j) 1 i = sN S 0 i := if_pos ⟨rfl, Nat.lt_succ_self i⟩
theorem cpS_n {S : CS} {i : Nat} (hi : i < 4) : uN (cpS S i i 0) 1 i (sN S 0 i) = cpS S (i + 1) i 0 := by
  unfold uN cpS
  congr 2
  funext k l
  show (if k = 1 ∧ l = i then sN S 0 i else if k = 1 ∧ l < i then sN S 0 l else sN S k l) = _
  by_cases h1 : k = 1 ∧ l = i
  · obtain ⟨rfl, rfl⟩ := h1
    simp
  · rw [if_neg h1]
    by_cases h2 : k = 1 ∧ l < i
    · rw [if_pos h2, if_pos ⟨h2.1, by omega⟩]
    · rw [if_neg h2, if_neg (by omega)]
theorem cpS_put {S : CS} {i j : Nat} (hi : i < 4) (hj : j < 3) : uF (cpS S (i + 1) i j) (1 + 13 * 1 + (3 * i + j)) (sF (cpS S (i + 1) i j) (1 + 13 * 0 + (3 * i + j))) = cpS S (i + 1) i (j + 1) := by
  unfold uF
  have h0 : sF (cpS S (i + 1) i j) (1 + 13 * 0 + (3 * i + j)) = sF S (1 + (3 * i + j)) := by
    rw [show 1 + 13 * 0 + (3 * i + j) = 1 + (3 * i + j) by omega]
    exact if_neg (by omega)
  rw [h0]
  unfold cpS
  congr 1
  funext q
  show (if q = 1 + 13 * 1 + (3 * i + j) then sF S (1 + (3 * i + j)) else if (14 ≤ q ∧ q < 26) ∧ (((q - 14) / 3 < i ∧ (q - 14) % 3 < sN S 0 ((q - 14) / 3)) ∨ ((q - 14) / 3 = i ∧ (q - 14) % 3 < j)) then sF S (q - 13) else sF S q) = _
  by_cases h1 : q = 1 + 13 * 1 + (3 * i + j)
  · rw [if_pos h1, if_pos (by omega), show q - 13 = 1 + (3 * i + j) by omega]
  · rw [if_neg h1]
    by_cases h2 : (14 ≤ q ∧ q < 26) ∧ (((q - 14) / 3 < i ∧ (q - 14) % 3 < sN S 0 ((q - 14) / 3)) ∨ ((q - 14) / 3 = i ∧ (q - 14) % 3 < j))
    · rw [if_pos h2, if_pos (by omega)]
    · rw [if_neg h2, if_neg (by omega)]
theorem cpS_next {S : CS} {i : Nat} (hi : i < 4) : cpS S (i + 1) i (sN S 0 i) = cpS S (i + 1) (i + 1) 0 := by
  unfold cpS
  congr 1
  funext q
  by_cases h2 : (14 ≤ q ∧ q < 26) ∧ (((q - 14) / 3 < i ∧ (q - 14) % 3 < sN S 0 ((q - 14) / 3)) ∨ ((q - 14) / 3 = i ∧ (q - 14) % 3 < sN S 0 i))
  · rw [if_pos h2, if_pos]
    refine ⟨h2.1, Or.inl ?_⟩
    rcases h2.2 with h3 | h3
    · exact ⟨by omega, h3.2⟩
    · rw [h3.1]
      exact ⟨by omega, h3.2⟩
  · rw [if_neg h2, if_neg]
    intro h3
    refine h2 ⟨h3.1, ?_⟩
    rcases h3.2 with h4 | h4
    · by_cases e : (q - 14) / 3 = i
      · exact Or.inr ⟨e, by rw [← e]; exact h4.2⟩
      · exact Or.inl ⟨by omega, h4.2⟩
    · exact absurd h4.2 (by omega)
theorem cpE_N {S : CS} (h : cOk S) : sN (cpS S 4 4 0) 1 = sN S 0 := by
  funext l
  show (if 1 = 1 ∧ l < 4 then sN S 0 l else sN S 1 l) = sN S 0 l
  split
  · rfl
  · rw [h.2.2 1 l (by omega), h.2.2 0 l (by omega)]
theorem cpE_g {S : CS} (h : cOk S) : gC (cpS S 4 4 0) 1 = gC S 0 := by
  funext l r
  unfold gC
  rw [cpE_N h]
  split
  · rename_i h1
    have h3 := h.2.1 0 l
    have h4 : l < 4 := by
      rcases Nat.lt_or_ge l 4 with q | q
      · exact q
      · have := h.2.2 0 l q
        omega
    show (if (14 ≤ 1 + 13 * 1 + (3 * l + (sN S 0 l - 1 - r)) ∧ 1 + 13 * 1 + (3 * l + (sN S 0 l - 1 - r)) < 26) ∧ _ then _ else _) = _
    rw [if_pos]
    · congr 1
      omega
    · have e1 : (1 + 13 * 1 + (3 * l + (sN S 0 l - 1 - r)) - 14) / 3 = l := by omega
      have e2 : (1 + 13 * 1 + (3 * l + (sN S 0 l - 1 - r)) - 14) % 3 = sN S 0 l - 1 - r := by omega
      rw [e1, e2]
      exact ⟨by omega, Or.inl ⟨by omega, by omega⟩⟩
  · rfl

set_option maxHeartbeats 4000000 in
set_option maxRecDepth 100000 in
theorem c_X0_copyRuns (l : Launch) (G : hG) (A : Nat → Prop) (hp : HP) (ad : Nat → Nat) (S : CS) (hC : cW ad S hp) (hA0 : hIn A hp) : hWr l yX0_copyRuns wsX0_copyRuns 2 42 0 0 G A hp [.ref (aB ad 1), .ref (aB ad 0)] (fun ro hp' => ro = none ∧ cT ad hp (cpS S 4 4 0) hp') := by
  refine Met.ofW (cc := cX0_copyRuns) (maxL := 5) (ret := none) (by decide) rfl ?_
  intro p e s m args below meth c s₁ B hml hv
  obtain ⟨rfl, hV0, hK0, hA⟩ := hv
  have hx := B.exec
  have hb := B.bytes
  have hr := B.returns
  have hts := atoms_spec (ws := wsX0_copyRuns) B.pre
  have hown : s.vm.findClass RX0 = some m.cls := findClass_of_methodNamed B.named
  have hlocks := B.notSynchronized
  have hF : CallFix p m c cX0_copyRuns 5 s [.ref (aB ad 1), .ref (aB ad 0)].toArray wsX0_copyRuns RX0 := ⟨hx, hb, hml, hown, hts⟩
  have hw0 := hts (.fieldLink RX0 17 "SlipLevels$Binder" "runs" "[I") (by decide +kernel)
  have hi0 : ∀ w ∈ u_ws RX0 TX0 5, w ∈ wsX0_copyRuns := by
    intro w h
    unfold wsX0_copyRuns
    simp only [List.mem_cons, List.mem_append, h, true_or, or_true]
  have hS : va_S A s.heap s.heap [] := va_S.rf
  have hl := lv_entry ([.ref (aB ad 1), .ref (aB ad 0)]) (n := 5) (Nat.le_of_ble_eq_true rfl)
  rw [lg_entry_eq]
  generalize (lg_sl ([.ref (aB ad 1), .ref (aB ad 0)]) ++ List.replicate (5 - (lg_sl ([.ref (aB ad 1), .ref (aB ad 0)])).length) Slot.unset).toArray = ls at hl ⊢
  replace hl : lv_has ls 5 [(0, .ref (aB ad 1)), (1, .ref (aB ad 0))] := hl
  have hT := cT.rf hC
  have hOk := hC.ok
  refine lv_iconst (v := nI 0) hx hb dX0_copyRuns_0 (by decide) ?_
  refine lv_istore_n (lv' := [(2, .int (nI 0)), (0, .ref (aB ad 1)), (1, .ref (aB ad 0))]) hx hb dX0_copyRuns_1 rfl hl (by decide) rfl (fun ls hl => ?_)
  rw [← cpS_0 S] at hT
  replace hl : lv_has ls 5 [(2, .int (nI 0)), (0, .ref (aB ad 1)), (1, .ref (aB ad 0))] := lv_sub hl [0, 1, 2] rfl
  refine h_loopW (G := G) (A := A) (H0 := s.heap) (Wf := fun i H locs ls => W p l e (headSpec wsX0_copyRuns { frames := 2, cells := 0, slots := 0, locals := 42 }).room s m ([.ref (aB ad 1), .ref (aB ad 0)].toArray) below meth c H locs 0 0 (MQ below (hW G A (fun ro hp' => ro = none ∧ cT ad hp (cpS S 4 4 0) hp')) ([.ref (aB ad 1), .ref (aB ad 0)].toArray) s 0 0 A) (F0 m 2 ls [])) 4 (fun i => [(2, .int (nI i)), (0, .ref (aB ad 1)), (1, .ref (aB ad 0))]) (fun i hp' => cT ad hp (cpS S i i 0) hp') (fun i hi2 hp' H locs hT hV0 hA0 hS ih2 ls hl => ?_) 0 (Nat.zero_le _) hp s.heap [] hT hV0 hA0 hS ls hl
  have hC := hT.1
  have hn := hOk.2.1 0 i
  refine lv_iload_n hx hb dX0_copyRuns_2 rfl (lv_at hl 0 rfl) ?_
  refine lv_iconst (v := nI 4) hx hb dX0_copyRuns_3 (by decide) ?_
  refine h_icmp_ge (a := i) (b := 4) (tgt := 67) hx hb dX0_copyRuns_4 (by decide) (by omega) (by omega) (fun c_4 => ?_) (fun c_4 => ?_)
  · obtain rfl : i = 4 := by omega
    exact W.vret hx hb hr (h_qW ⟨rfl, hT⟩ hV0 hA0 hS) hS.2.2 dX0_copyRuns_67 hlocks
  · refine lv_aload_n hx hb dX0_copyRuns_7 rfl (lv_at hl 1 rfl) ?_
    refine h_get (v := .ref (aN ad 1)) hx hb hts hi0 hown hK0 hV0 (hC.bo (by decide)) rfl 1 (by decide) hw0 rfl dX0_copyRuns_8 ?_
    refine lv_iload_n hx hb dX0_copyRuns_11 rfl (lv_at hl 0 rfl) ?_
    refine lv_aload_n hx hb dX0_copyRuns_12 rfl (lv_at hl 2 rfl) ?_
    refine h_get (v := .ref (aN ad 0)) hx hb hts hi0 hown hK0 hV0 (hC.bo (by decide)) rfl 1 (by decide) hw0 rfl dX0_copyRuns_13 ?_
    refine lv_iload_n hx hb dX0_copyRuns_16 rfl (lv_at hl 0 rfl) ?_
    refine h_iald (i := i) hx hb hK0 hV0 (hC.bn (by decide)) (by omega) (by omega) dX0_copyRuns_17 ?_
    have he17 : sN (cpS S i i 0) 0 i = sN S 0 i := cpS_N0 S i i 0 i
    rw [he17]
    refine h_iast (i := i) (x := nI (sN S 0 i)) hx hb hK0 hV0 hA0 hS (hC.bn (by decide)) (by omega) (by omega) dX0_copyRuns_18 (fun H locs hV0 hA0 hS => ?_)
    have hT := hT.setN (k := 1) (by decide) (l := i) (v := sN S 0 i) (by omega) (by omega)
    have hC := hT.1
    refine lv_iconst (v := nI 0) hx hb dX0_copyRuns_19 (by decide) ?_
    refine lv_istore_n (lv' := [(3, .int (nI 0)), (2, .int (nI i)), (0, .ref (aB ad 1)), (1, .ref (aB ad 0))]) hx hb dX0_copyRuns_20 rfl hl (by decide) rfl (fun ls hl => ?_)
    have hSe0 : uN (cpS S i i 0) 1 i (sN S 0 i) = cpS S (i + 1) i 0 := cpS_n (by omega)
    rw [hSe0] at hT
    replace hl : lv_has ls 5 [(3, .int (nI 0)), (2, .int (nI i)), (0, .ref (aB ad 1)), (1, .ref (aB ad 0))] := lv_sub hl [0, 1, 2, 3] rfl
    refine h_loopW (G := G) (A := A) (H0 := s.heap) (Wf := fun j H locs ls => W p l e (headSpec wsX0_copyRuns { frames := 2, cells := 0, slots := 0, locals := 42 }).room s m ([.ref (aB ad 1), .ref (aB ad 0)].toArray) below meth c H locs 0 0 (MQ below (hW G A (fun ro hp' => ro = none ∧ cT ad hp (cpS S 4 4 0) hp')) ([.ref (aB ad 1), .ref (aB ad 0)].toArray) s 0 0 A) (F0 m 21 ls [])) (sN S 0 i) (fun j => [(3, .int (nI j)), (2, .int (nI i)), (0, .ref (aB ad 1)), (1, .ref (aB ad 0))]) (fun j hp' => cT ad hp (cpS S (i + 1) i j) hp') (fun j hi21 hp' H locs hT hV0 hA0 hS ih21 ls hl => ?_) 0 (Nat.zero_le _) _ H locs hT hV0 hA0 hS ls hl
    have hC := hT.1
    refine lv_iload_n hx hb dX0_copyRuns_21 rfl (lv_at hl 0 rfl) ?_
    refine lv_aload_n hx hb dX0_copyRuns_22 rfl (lv_at hl 2 rfl) ?_
    refine h_get (v := .ref (aN ad 1)) hx hb hts hi0 hown hK0 hV0 (hC.bo (by decide)) rfl 1 (by decide) hw0 rfl dX0_copyRuns_23 ?_
    refine lv_iload_n hx hb dX0_copyRuns_26 rfl (lv_at hl 1 rfl) ?_
    refine h_iald (i := i) hx hb hK0 hV0 (hC.bn (by decide)) (by omega) (by omega) dX0_copyRuns_27 ?_
    have he17 : sN (cpS S (i + 1) i j) 1 i = sN S 0 i := cpS_N1 S i j
    rw [he17]
    refine h_icmp_ge (a := j) (b := sN S 0 i) (tgt := 61) hx hb dX0_copyRuns_28 (by decide) (by omega) (by omega) (fun c_28 => ?_) (fun c_28 => ?_)
    · have hj9 : j = sN S 0 i := by omega
      refine lv_iinc (v := nI (i + 1)) (lv' := [(2, .int (nI (i + 1))), (3, .int (nI j)), (0, .ref (aB ad 1)), (1, .ref (aB ad 0))]) hx hb dX0_copyRuns_61 hl (k := 1) rfl (nI_add (i) 1) (by decide) rfl (fun ls hl => ?_)
      refine lv_goto (tgt := 2) hx hb dX0_copyRuns_64 (by decide) ?_
      rw [hj9, cpS_next (S := S) (i := i) (by omega)] at hT
      exact ih2 _ H locs (by omega) hT hV0 hA0 hS ls (lv_sub hl [0, 2, 3] rfl)
    · refine lv_aload_n hx hb dX0_copyRuns_31 rfl (lv_at hl 2 rfl) ?_
      refine lv_iload_n hx hb dX0_copyRuns_32 rfl (lv_at hl 1 rfl) ?_
      refine lv_iload_n hx hb dX0_copyRuns_33 rfl (lv_at hl 0 rfl) ?_
      refine h_rdV (As := [.int (nI i), .int (nI j)]) (rest := []) hF (c_X0_rowAt l G _ ad (cpS S (i + 1) i j) hC 1 (by decide) i j (by omega) (by omega)) 2 gX0_copyRuns_X0_rowAt rfl (by decide +kernel) ⟨Nat.le_of_ble_eq_true rfl, Nat.le_of_ble_eq_true rfl⟩ hK0 hV0 (hC.bo (by decide)) rfl rfl rfl hl.1 rfl (Nat.le_of_ble_eq_true rfl) (Nat.le_of_ble_eq_true rfl) (Nat.le_of_ble_eq_true rfl) dX0_copyRuns_34 ?_
      refine lv_astore (lv' := [(4, .ref (aS ad (1 + 13 * 1 + (3 * i + j)))), (3, .int (nI j)), (2, .int (nI i)), (0, .ref (aB ad 1)), (1, .ref (aB ad 0))]) hx hb dX0_copyRuns_37 hl (by decide) rfl (fun ls hl => ?_)
      refine lv_aload hx hb dX0_copyRuns_39 (lv_at hl 0 rfl) ?_
      refine lv_ifnull hx hb dX0_copyRuns_41 ?_
      refine lv_aload hx hb dX0_copyRuns_44 (lv_at hl 0 rfl) ?_
      refine lv_aload_n hx hb dX0_copyRuns_46 rfl (lv_at hl 4 rfl) ?_
      refine lv_iload_n hx hb dX0_copyRuns_47 rfl (lv_at hl 2 rfl) ?_
      refine lv_iload_n hx hb dX0_copyRuns_48 rfl (lv_at hl 1 rfl) ?_
      refine h_rdV (As := [.int (nI i), .int (nI j)]) (rest := [.ref (aS ad (1 + 13 * 1 + (3 * i + j)))]) hF (c_X0_rowAt l G _ ad (cpS S (i + 1) i j) hC 0 (by decide) i j (by omega) (by omega)) 2 gX0_copyRuns_X0_rowAt rfl (by decide +kernel) ⟨Nat.le_of_ble_eq_true rfl, Nat.le_of_ble_eq_true rfl⟩ hK0 hV0 (hC.bo (by decide)) rfl rfl rfl hl.1 rfl (Nat.le_of_ble_eq_true rfl) (Nat.le_of_ble_eq_true rfl) (Nat.le_of_ble_eq_true rfl) dX0_copyRuns_49 ?_
      refine h_wrV (As := [.ref (aS ad (1 + 13 * 0 + (3 * i + j)))]) (rest := []) hF (c_X1_copy l G A _ (aS ad (1 + 13 * 1 + (3 * i + j))) (aW ad (1 + 13 * 1 + (3 * i + j))) (aS ad (1 + 13 * 0 + (3 * i + j))) (aW ad (1 + 13 * 0 + (3 * i + j))) (sF (cpS S (i + 1) i j) (1 + 13 * 1 + (3 * i + j))) (sF (cpS S (i + 1) i j) (1 + 13 * 0 + (3 * i + j))) (hC.sl (by omega)) (hC.sl (by omega)) (hC.ne (by omega) (by omega) (by omega)).1 (hC.ne (by omega) (by omega) (by omega)).2 (hC.ok.1 _).1 (hC.ok.1 _).1 hA0) 1 gX0_copyRuns_X1_copy rfl (by decide +kernel) ⟨Nat.le_of_ble_eq_true rfl, Nat.le_of_ble_eq_true rfl⟩ hK0 hV0 hA hS (hC.sl (by omega)).1 rfl rfl rfl hl.1 rfl (Nat.le_of_ble_eq_true rfl) ⟨Nat.le_of_ble_eq_true rfl, Nat.le_of_ble_eq_true rfl⟩ dX0_copyRuns_52 (fun ro hp1 H locs hP1 hV0 hA0 hS => ?_)
      obtain ⟨rfl, rfl⟩ := hP1
      have hT := hT.setF (j := (1 + 13 * 1 + (3 * i + j))) (by omega) (hC.ok.1 (1 + 13 * 0 + (3 * i + j)))
      have hC := hT.1
      refine lv_iinc (v := nI (j + 1)) (lv' := [(3, .int (nI (j + 1))), (4, .ref (aS ad (1 + 13 * 1 + (3 * i + j)))), (2, .int (nI i)), (0, .ref (aB ad 1)), (1, .ref (aB ad 0))]) hx hb dX0_copyRuns_55 hl (k := 1) rfl (nI_add (j) 1) (by decide) rfl (fun ls hl => ?_)
      refine lv_goto (tgt := 21) hx hb dX0_copyRuns_58 (by decide) ?_
      have hSe : uF (cpS S (i + 1) i j) (1 + 13 * 1 + (3 * i + j)) (sF (cpS S (i + 1) i j) (1 + 13 * 0 + (3 * i + j))) = cpS S (i + 1) i (j + 1) := cpS_put (by omega) (by omega)
      rw [hSe] at hT
      exact ih21 _ H locs (by omega) hT hV0 hA0 hS ls (lv_sub hl [0, 2, 3, 4] rfl)
end
section
set_option maxRecDepth 20000 in
theorem ggX2_init_X1_init : GoodIn wsX2_init wsX1_init := goodIn_r _ [17, 18, 2, 3, 19, 20, 21, 22, 23, 6, 24, 25, 26, 27, 28, 29, 30, 31, 32, 33, 45, 46, 47, 48, 49, 50] (by decide +kernel) (by decide +kernel)
set_option maxRecDepth 20000 in
theorem gX2_init_X1_init : GoodIn wsX2_init (wsX1_init) := ggX2_init_X1_init
set_option maxRecDepth 20000 in
theorem ggX2_init_X0_init : GoodIn wsX2_init wsX0_init := goodIn_r _ [36, 37, 2, 3, 38, 39, 19, 40, 5, 6, 41, 42, 43, 44, 16, 17, 18, 20, 21, 22, 23, 24, 25, 26, 27, 28, 29, 30, 31, 32, 33, 56, 57, 58, 59, 60, 45, 46, 47, 48, 49, 50] (by decide +kernel) (by decide +kernel)
set_option maxRecDepth 20000 in
theorem gX2_init_X0_init : GoodIn wsX2_init (wsX0_init) := ggX2_init_X0_init
theorem dX2_init_0 : decode cX2_init 0 = .ok (.aload_n 0, 1) := by decide +kernel
theorem dX2_init_1 : decode cX2_init 1 = .ok (.invokespecial 1, 3) := by decide +kernel
theorem dX2_init_4 : decode cX2_init 4 = .ok (.aload_n 0, 1) := by decide +kernel
theorem dX2_init_5 : decode cX2_init 5 = .ok (.new 7, 3) := by decide +kernel
theorem dX2_init_8 : decode cX2_init 8 = .ok (.dup, 1) := by decide +kernel
theorem dX2_init_9 : decode cX2_init 9 = .ok (.invokespecial 9, 3) := by decide +kernel
theorem dX2_init_12 : decode cX2_init 12 = .ok (.putfield 10, 3) := by decide +kernel
theorem dX2_init_15 : decode cX2_init 15 = .ok (.aload_n 0, 1) := by decide +kernel
theorem dX2_init_16 : decode cX2_init 16 = .ok (.new 16, 3) := by decide +kernel
theorem dX2_init_19 : decode cX2_init 19 = .ok (.dup, 1) := by decide +kernel
theorem dX2_init_20 : decode cX2_init 20 = .ok (.invokespecial 18, 3) := by decide +kernel
theorem dX2_init_23 : decode cX2_init 23 = .ok (.putfield 19, 3) := by decide +kernel
theorem dX2_init_26 : decode cX2_init 26 = .ok (.aload_n 0, 1) := by decide +kernel
theorem dX2_init_27 : decode cX2_init 27 = .ok (.new 16, 3) := by decide +kernel
theorem dX2_init_30 : decode cX2_init 30 = .ok (.dup, 1) := by decide +kernel
theorem dX2_init_31 : decode cX2_init 31 = .ok (.invokespecial 18, 3) := by decide +kernel
theorem dX2_init_34 : decode cX2_init 34 = .ok (.putfield 23, 3) := by decide +kernel
theorem dX2_init_37 : decode cX2_init 37 = .ok (.aload_n 0, 1) := by decide +kernel
theorem dX2_init_38 : decode cX2_init 38 = .ok (.iconst 4, 1) := by decide +kernel
theorem dX2_init_39 : decode cX2_init 39 = .ok (.putfield 26, 3) := by decide +kernel
theorem dX2_init_42 : decode cX2_init 42 = .ok (.aload_n 0, 1) := by decide +kernel
theorem dX2_init_43 : decode cX2_init 43 = .ok (.iconst 0, 1) := by decide +kernel
theorem dX2_init_44 : decode cX2_init 44 = .ok (.putfield 30, 3) := by decide +kernel
theorem dX2_init_47 : decode cX2_init 47 = .ok (.return_, 1) := by decide +kernel
set_option maxRecDepth 20000 in
theorem ggX2_write_X2_needNumber : GoodIn wsX2_write wsX2_needNumber := goodIn_ca (goodIn_r _ [8, 9, 10] (by decide +kernel) (by decide +kernel)) (goodIn_sub (fun _ h => List.mem_cons_of_mem _ (List.mem_append_right _ h)) (by decide +kernel))
set_option maxRecDepth 20000 in
theorem gX2_write_X2_needNumber : GoodIn wsX2_write (va_wsS RX2 33 yX2_needNumber wsX2_needNumber) := goodIn_app (goodIn_of _ (by decide +kernel)) ggX2_write_X2_needNumber
set_option maxRecDepth 20000 in
theorem ggX2_write_X1_put : GoodIn wsX2_write wsX1_put := goodIn_r _ [15, 16, 17, 18, 19, 20, 21, 22, 23, 24, 25, 26, 27, 28, 114, 115, 116, 117, 118, 119] (by decide +kernel) (by decide +kernel)
set_option maxRecDepth 20000 in
theorem gX2_write_X1_put : GoodIn wsX2_write (wsV RX2 44 RX1 yX1_put wsX1_put) := goodIn_app (goodIn_of _ (by decide +kernel)) ggX2_write_X1_put
set_option maxRecDepth 20000 in
theorem ggX2_write_X2_bindFrom : GoodIn wsX2_write wsX2_bindFrom := goodIn_r _ [32, 3, 33, 34, 35, 36, 14, 37, 17, 38, 39, 40, 41, 42, 43, 44, 45, 46, 47, 48, 49, 50, 51, 52, 53, 54, 55, 56, 57, 58, 59, 60, 61, 62, 16, 63, 64, 65, 66, 18, 19, 24, 28, 67, 68, 69, 70, 71, 72, 73, 74, 75, 76, 77, 78, 79, 80, 81, 82, 83, 21, 22, 23, 84, 85, 86, 87, 88, 89, 90, 91, 92, 93, 94, 95, 96, 97, 98, 99, 100, 101, 102, 103, 104, 105, 106, 107, 12, 13, 15, 20, 25, 26, 27, 108, 109, 110, 111, 112, 113, 114, 115, 116, 117, 118, 119, 120, 121, 122, 123, 124] (by decide +kernel) (by decide +kernel)
set_option maxRecDepth 20000 in
theorem gX2_write_X2_bindFrom : GoodIn wsX2_write (wsV RX2 48 RX2 yX2_bindFrom wsX2_bindFrom) := goodIn_app (goodIn_of _ (by decide +kernel)) ggX2_write_X2_bindFrom
theorem dX2_write_0 : decode cX2_write 0 = .ok (.iload_n 1, 1) := by decide +kernel
theorem dX2_write_1 : decode cX2_write 1 = .ok (.invokestatic 33, 3) := by decide +kernel
theorem dX2_write_4 : decode cX2_write 4 = .ok (.iload_n 2, 1) := by decide +kernel
theorem dX2_write_5 : decode cX2_write 5 = .ok (.ifCond .lt 9, 3) := by decide +kernel
theorem dX2_write_8 : decode cX2_write 8 = .ok (.iload_n 2, 1) := by decide +kernel
theorem dX2_write_9 : decode cX2_write 9 = .ok (.bipush 100, 2) := by decide +kernel
theorem dX2_write_11 : decode cX2_write 11 = .ok (.if_icmp .lt 13, 3) := by decide +kernel
theorem dX2_write_14 : decode cX2_write 14 = .ok (.new 37, 3) := by decide +kernel
theorem dX2_write_17 : decode cX2_write 17 = .ok (.dup, 1) := by decide +kernel
theorem dX2_write_18 : decode cX2_write 18 = .ok (.ldc 39, 2) := by decide +kernel
theorem dX2_write_20 : decode cX2_write 20 = .ok (.invokespecial 41, 3) := by decide +kernel
theorem dX2_write_23 : decode cX2_write 23 = .ok (.athrow, 1) := by decide +kernel
theorem dX2_write_24 : decode cX2_write 24 = .ok (.aload_n 0, 1) := by decide +kernel
theorem dX2_write_25 : decode cX2_write 25 = .ok (.getfield 10, 3) := by decide +kernel
theorem dX2_write_28 : decode cX2_write 28 = .ok (.iload_n 1, 1) := by decide +kernel
theorem dX2_write_29 : decode cX2_write 29 = .ok (.iload_n 2, 1) := by decide +kernel
theorem dX2_write_30 : decode cX2_write 30 = .ok (.invokevirtual 44, 3) := by decide +kernel
theorem dX2_write_33 : decode cX2_write 33 = .ok (.aload_n 0, 1) := by decide +kernel
theorem dX2_write_34 : decode cX2_write 34 = .ok (.aload_n 0, 1) := by decide +kernel
theorem dX2_write_35 : decode cX2_write 35 = .ok (.getfield 26, 3) := by decide +kernel
theorem dX2_write_38 : decode cX2_write 38 = .ok (.invokevirtual 48, 3) := by decide +kernel
theorem dX2_write_41 : decode cX2_write 41 = .ok (.ifCond .le 7, 3) := by decide +kernel
theorem dX2_write_44 : decode cX2_write 44 = .ok (.iconst 1, 1) := by decide +kernel
theorem dX2_write_45 : decode cX2_write 45 = .ok (.goto 4, 3) := by decide +kernel
theorem dX2_write_48 : decode cX2_write 48 = .ok (.iconst 0, 1) := by decide +kernel
theorem dX2_write_49 : decode cX2_write 49 = .ok (.ireturn, 1) := by decide +kernel
set_option maxRecDepth 20000 in
theorem ggX2_strike_X2_needNumber : GoodIn wsX2_strike wsX2_needNumber := goodIn_ca (goodIn_r _ [6, 7, 8] (by decide +kernel) (by decide +kernel)) (goodIn_sub (fun _ h => List.mem_cons_of_mem _ (List.mem_append_right _ h)) (by decide +kernel))
set_option maxRecDepth 20000 in
theorem gX2_strike_X2_needNumber : GoodIn wsX2_strike (va_wsS RX2 33 yX2_needNumber wsX2_needNumber) := goodIn_app (goodIn_of _ (by decide +kernel)) ggX2_strike_X2_needNumber
set_option maxRecDepth 20000 in
theorem ggX2_strike_X1_put : GoodIn wsX2_strike wsX1_put := goodIn_r _ [13, 14, 15, 16, 17, 18, 19, 20, 21, 22, 23, 24, 25, 26, 112, 113, 114, 115, 116, 117] (by decide +kernel) (by decide +kernel)
set_option maxRecDepth 20000 in
theorem gX2_strike_X1_put : GoodIn wsX2_strike (wsV RX2 44 RX1 yX1_put wsX1_put) := goodIn_app (goodIn_of _ (by decide +kernel)) ggX2_strike_X1_put
set_option maxRecDepth 20000 in
theorem ggX2_strike_X2_bindFrom : GoodIn wsX2_strike wsX2_bindFrom := goodIn_r _ [30, 1, 31, 32, 33, 34, 12, 35, 15, 36, 37, 38, 39, 40, 41, 42, 43, 44, 45, 46, 47, 48, 49, 50, 51, 52, 53, 54, 55, 56, 57, 58, 59, 60, 14, 61, 62, 63, 64, 16, 17, 22, 26, 65, 66, 67, 68, 69, 70, 71, 72, 73, 74, 75, 76, 77, 78, 79, 80, 81, 19, 20, 21, 82, 83, 84, 85, 86, 87, 88, 89, 90, 91, 92, 93, 94, 95, 96, 97, 98, 99, 100, 101, 102, 103, 104, 105, 10, 11, 13, 18, 23, 24, 25, 106, 107, 108, 109, 110, 111, 112, 113, 114, 115, 116, 117, 118, 119, 120, 121, 122] (by decide +kernel) (by decide +kernel)
set_option maxRecDepth 20000 in
theorem gX2_strike_X2_bindFrom : GoodIn wsX2_strike (wsV RX2 48 RX2 yX2_bindFrom wsX2_bindFrom) := goodIn_app (goodIn_of _ (by decide +kernel)) ggX2_strike_X2_bindFrom
theorem dX2_strike_0 : decode cX2_strike 0 = .ok (.iload_n 1, 1) := by decide +kernel
theorem dX2_strike_1 : decode cX2_strike 1 = .ok (.invokestatic 33, 3) := by decide +kernel
theorem dX2_strike_4 : decode cX2_strike 4 = .ok (.aload_n 0, 1) := by decide +kernel
theorem dX2_strike_5 : decode cX2_strike 5 = .ok (.getfield 10, 3) := by decide +kernel
theorem dX2_strike_8 : decode cX2_strike 8 = .ok (.iload_n 1, 1) := by decide +kernel
theorem dX2_strike_9 : decode cX2_strike 9 = .ok (.iconst (-1), 1) := by decide +kernel
theorem dX2_strike_10 : decode cX2_strike 10 = .ok (.invokevirtual 44, 3) := by decide +kernel
theorem dX2_strike_13 : decode cX2_strike 13 = .ok (.aload_n 0, 1) := by decide +kernel
theorem dX2_strike_14 : decode cX2_strike 14 = .ok (.aload_n 0, 1) := by decide +kernel
theorem dX2_strike_15 : decode cX2_strike 15 = .ok (.getfield 26, 3) := by decide +kernel
theorem dX2_strike_18 : decode cX2_strike 18 = .ok (.invokevirtual 48, 3) := by decide +kernel
theorem dX2_strike_21 : decode cX2_strike 21 = .ok (.ifCond .le 7, 3) := by decide +kernel
theorem dX2_strike_24 : decode cX2_strike 24 = .ok (.iconst 1, 1) := by decide +kernel
theorem dX2_strike_25 : decode cX2_strike 25 = .ok (.goto 4, 3) := by decide +kernel
theorem dX2_strike_28 : decode cX2_strike 28 = .ok (.iconst 0, 1) := by decide +kernel
theorem dX2_strike_29 : decode cX2_strike 29 = .ok (.ireturn, 1) := by decide +kernel
set_option maxRecDepth 20000 in
theorem ggX2_bind_X2_bindFrom : GoodIn wsX2_bind wsX2_bindFrom := goodIn_r _ [5, 6, 7, 8, 9, 10, 11, 12, 13, 14, 15, 16, 17, 18, 19, 20, 21, 22, 23, 24, 25, 26, 27, 28, 29, 30, 31, 32, 33, 34, 35, 36, 37, 38, 39, 40, 41, 42, 43, 44, 45, 46, 47, 48, 49, 50, 51, 52, 53, 54, 55, 56, 57, 58, 59, 60, 61, 62, 63, 64, 65, 66, 67, 68, 69, 70, 71, 72, 73, 74, 75, 76, 77, 78, 79, 80, 81, 82, 83, 84, 85, 86, 87, 88, 89, 90, 91, 92, 93, 94, 95, 96, 97, 98, 99, 100, 101, 102, 103, 104, 105, 106, 107, 108, 109, 110, 111, 112, 113, 114, 115] (by decide +kernel) (by decide +kernel)
set_option maxRecDepth 20000 in
theorem gX2_bind_X2_bindFrom : GoodIn wsX2_bind (wsV RX2 48 RX2 yX2_bindFrom wsX2_bindFrom) := goodIn_app (goodIn_of _ (by decide +kernel)) ggX2_bind_X2_bindFrom
theorem dX2_bind_0 : decode cX2_bind 0 = .ok (.aload_n 0, 1) := by decide +kernel
theorem dX2_bind_1 : decode cX2_bind 1 = .ok (.iconst 1, 1) := by decide +kernel
theorem dX2_bind_2 : decode cX2_bind 2 = .ok (.invokevirtual 48, 3) := by decide +kernel
theorem dX2_bind_5 : decode cX2_bind 5 = .ok (.ireturn, 1) := by decide +kernel
set_option maxRecDepth 20000 in
theorem ggX2_merge_X2_needLevel : GoodIn wsX2_merge wsX2_needLevel := goodIn_ca (goodIn_r _ [7, 8, 9] (by decide +kernel) (by decide +kernel)) (goodIn_sub (fun _ h => List.mem_cons_of_mem _ (List.mem_append_right _ h)) (by decide +kernel))
set_option maxRecDepth 20000 in
theorem gX2_merge_X2_needLevel : GoodIn wsX2_merge (va_wsS RX2 52 yX2_needLevel wsX2_needLevel) := goodIn_app (goodIn_of _ (by decide +kernel)) ggX2_merge_X2_needLevel
set_option maxRecDepth 20000 in
theorem ggX2_merge_X0_runsOf : GoodIn wsX2_merge wsX0_runsOf := goodIn_r _ [14, 15, 106, 107, 108, 109, 110] (by decide +kernel) (by decide +kernel)
set_option maxRecDepth 20000 in
theorem gX2_merge_X0_runsOf : GoodIn wsX2_merge (wsV RX2 55 RX0 yX0_runsOf wsX0_runsOf) := goodIn_app (goodIn_of _ (by decide +kernel)) ggX2_merge_X0_runsOf
set_option maxRecDepth 20000 in
theorem ggX2_merge_X0_moves : GoodIn wsX2_merge wsX0_moves := goodIn_r _ [19, 20, 106, 107, 108, 109, 110] (by decide +kernel) (by decide +kernel)
set_option maxRecDepth 20000 in
theorem gX2_merge_X0_moves : GoodIn wsX2_merge (wsV RX2 63 RX0 yX0_moves wsX0_moves) := goodIn_app (goodIn_of _ (by decide +kernel)) ggX2_merge_X0_moves
set_option maxRecDepth 20000 in
theorem ggX2_merge_X0_mergeLevel : GoodIn wsX2_merge wsX0_mergeLevel := goodIn_r _ [24, 15, 25, 26, 27, 28, 29, 30, 31, 32, 33, 13, 34, 35, 11, 12, 14, 36, 37, 38, 39, 40, 41, 42, 43, 44, 45, 46, 47, 48, 49, 50, 51, 52, 53, 54, 55, 56, 57, 58, 59, 60, 61, 62, 63, 64, 65, 66, 67, 68, 69, 70, 71, 72, 73, 74, 75, 76, 77, 78, 79, 20, 80, 81, 82, 83, 84, 85, 86, 87, 88, 89, 90, 91, 92, 93, 94, 95, 106, 107, 108, 109, 110, 111, 112, 113, 114, 115, 116] (by decide +kernel) (by decide +kernel)
set_option maxRecDepth 20000 in
theorem gX2_merge_X0_mergeLevel : GoodIn wsX2_merge (wsV RX2 67 RX0 yX0_mergeLevel wsX0_mergeLevel) := goodIn_app (goodIn_of _ (by decide +kernel)) ggX2_merge_X0_mergeLevel
set_option maxRecDepth 20000 in
theorem ggX2_merge_X0_settle : GoodIn wsX2_merge wsX0_settle := goodIn_r _ [99, 35, 11, 12, 13, 14, 15, 100, 22, 23, 24, 25, 26, 27, 28, 29, 30, 31, 32, 33, 34, 36, 37, 38, 39, 40, 41, 42, 43, 44, 45, 46, 47, 48, 49, 50, 51, 52, 53, 54, 55, 56, 57, 58, 59, 60, 61, 62, 63, 64, 65, 66, 67, 68, 69, 70, 71, 72, 73, 74, 75, 76, 77, 78, 79, 20, 80, 81, 82, 83, 84, 85, 86, 87, 88, 89, 90, 91, 92, 93, 94, 95, 106, 107, 108, 109, 110, 111, 112, 113, 114, 115, 116] (by decide +kernel) (by decide +kernel)
set_option maxRecDepth 20000 in
theorem gX2_merge_X0_settle : GoodIn wsX2_merge (wsV RX2 70 RX0 yX0_settle wsX0_settle) := goodIn_app (goodIn_of _ (by decide +kernel)) ggX2_merge_X0_settle
theorem dX2_merge_0 : decode cX2_merge 0 = .ok (.iload_n 1, 1) := by decide +kernel
theorem dX2_merge_1 : decode cX2_merge 1 = .ok (.invokestatic 52, 3) := by decide +kernel
theorem dX2_merge_4 : decode cX2_merge 4 = .ok (.aload_n 0, 1) := by decide +kernel
theorem dX2_merge_5 : decode cX2_merge 5 = .ok (.getfield 19, 3) := by decide +kernel
theorem dX2_merge_8 : decode cX2_merge 8 = .ok (.iload_n 1, 1) := by decide +kernel
theorem dX2_merge_9 : decode cX2_merge 9 = .ok (.invokevirtual 55, 3) := by decide +kernel
theorem dX2_merge_12 : decode cX2_merge 12 = .ok (.ifCond .ne 13, 3) := by decide +kernel
theorem dX2_merge_15 : decode cX2_merge 15 = .ok (.new 58, 3) := by decide +kernel
theorem dX2_merge_18 : decode cX2_merge 18 = .ok (.dup, 1) := by decide +kernel
theorem dX2_merge_19 : decode cX2_merge 19 = .ok (.ldc 60, 2) := by decide +kernel
theorem dX2_merge_21 : decode cX2_merge 21 = .ok (.invokespecial 62, 3) := by decide +kernel
theorem dX2_merge_24 : decode cX2_merge 24 = .ok (.athrow, 1) := by decide +kernel
theorem dX2_merge_25 : decode cX2_merge 25 = .ok (.aload_n 0, 1) := by decide +kernel
theorem dX2_merge_26 : decode cX2_merge 26 = .ok (.getfield 19, 3) := by decide +kernel
theorem dX2_merge_29 : decode cX2_merge 29 = .ok (.invokevirtual 63, 3) := by decide +kernel
theorem dX2_merge_32 : decode cX2_merge 32 = .ok (.istore_n 2, 1) := by decide +kernel
theorem dX2_merge_33 : decode cX2_merge 33 = .ok (.aload_n 0, 1) := by decide +kernel
theorem dX2_merge_34 : decode cX2_merge 34 = .ok (.getfield 19, 3) := by decide +kernel
theorem dX2_merge_37 : decode cX2_merge 37 = .ok (.iload_n 1, 1) := by decide +kernel
theorem dX2_merge_38 : decode cX2_merge 38 = .ok (.invokevirtual 67, 3) := by decide +kernel
theorem dX2_merge_41 : decode cX2_merge 41 = .ok (.aload_n 0, 1) := by decide +kernel
theorem dX2_merge_42 : decode cX2_merge 42 = .ok (.getfield 19, 3) := by decide +kernel
theorem dX2_merge_45 : decode cX2_merge 45 = .ok (.invokevirtual 70, 3) := by decide +kernel
theorem dX2_merge_48 : decode cX2_merge 48 = .ok (.aload_n 0, 1) := by decide +kernel
theorem dX2_merge_49 : decode cX2_merge 49 = .ok (.getfield 19, 3) := by decide +kernel
theorem dX2_merge_52 : decode cX2_merge 52 = .ok (.invokevirtual 63, 3) := by decide +kernel
theorem dX2_merge_55 : decode cX2_merge 55 = .ok (.iload_n 2, 1) := by decide +kernel
theorem dX2_merge_56 : decode cX2_merge 56 = .ok (.isub, 1) := by decide +kernel
theorem dX2_merge_57 : decode cX2_merge 57 = .ok (.ireturn, 1) := by decide +kernel
set_option maxRecDepth 20000 in
theorem ggX2_setRoom_X2_bindFrom : GoodIn wsX2_setRoom wsX2_bindFrom := goodIn_r _ [8, 9, 10, 11, 12, 13, 14, 15, 16, 17, 18, 19, 20, 21, 22, 23, 24, 25, 26, 27, 28, 29, 30, 31, 32, 33, 34, 35, 36, 37, 38, 39, 40, 41, 42, 43, 44, 45, 46, 47, 48, 49, 50, 51, 52, 53, 54, 55, 56, 57, 58, 59, 60, 61, 62, 63, 64, 65, 66, 67, 68, 69, 70, 71, 72, 73, 74, 75, 76, 77, 78, 79, 80, 81, 82, 83, 84, 85, 86, 87, 88, 89, 90, 91, 92, 93, 94, 95, 96, 97, 98, 99, 100, 101, 102, 103, 104, 105, 106, 107, 108, 109, 110, 111, 112, 113, 114, 115, 116, 117, 118] (by decide +kernel) (by decide +kernel)
set_option maxRecDepth 20000 in
theorem gX2_setRoom_X2_bindFrom : GoodIn wsX2_setRoom (wsV RX2 48 RX2 yX2_bindFrom wsX2_bindFrom) := goodIn_app (goodIn_of _ (by decide +kernel)) ggX2_setRoom_X2_bindFrom
theorem dX2_setRoom_0 : decode cX2_setRoom 0 = .ok (.iload_n 1, 1) := by decide +kernel
theorem dX2_setRoom_1 : decode cX2_setRoom 1 = .ok (.iconst 1, 1) := by decide +kernel
theorem dX2_setRoom_2 : decode cX2_setRoom 2 = .ok (.if_icmp .lt 9, 3) := by decide +kernel
theorem dX2_setRoom_5 : decode cX2_setRoom 5 = .ok (.iload_n 1, 1) := by decide +kernel
theorem dX2_setRoom_6 : decode cX2_setRoom 6 = .ok (.bipush 8, 2) := by decide +kernel
theorem dX2_setRoom_8 : decode cX2_setRoom 8 = .ok (.if_icmp .le 13, 3) := by decide +kernel
theorem dX2_setRoom_11 : decode cX2_setRoom 11 = .ok (.new 37, 3) := by decide +kernel
theorem dX2_setRoom_14 : decode cX2_setRoom 14 = .ok (.dup, 1) := by decide +kernel
theorem dX2_setRoom_15 : decode cX2_setRoom 15 = .ok (.ldc 73, 2) := by decide +kernel
theorem dX2_setRoom_17 : decode cX2_setRoom 17 = .ok (.invokespecial 41, 3) := by decide +kernel
theorem dX2_setRoom_20 : decode cX2_setRoom 20 = .ok (.athrow, 1) := by decide +kernel
theorem dX2_setRoom_21 : decode cX2_setRoom 21 = .ok (.aload_n 0, 1) := by decide +kernel
theorem dX2_setRoom_22 : decode cX2_setRoom 22 = .ok (.getfield 26, 3) := by decide +kernel
theorem dX2_setRoom_25 : decode cX2_setRoom 25 = .ok (.istore_n 2, 1) := by decide +kernel
theorem dX2_setRoom_26 : decode cX2_setRoom 26 = .ok (.aload_n 0, 1) := by decide +kernel
theorem dX2_setRoom_27 : decode cX2_setRoom 27 = .ok (.iload_n 1, 1) := by decide +kernel
theorem dX2_setRoom_28 : decode cX2_setRoom 28 = .ok (.putfield 26, 3) := by decide +kernel
theorem dX2_setRoom_31 : decode cX2_setRoom 31 = .ok (.aload_n 0, 1) := by decide +kernel
theorem dX2_setRoom_32 : decode cX2_setRoom 32 = .ok (.iload_n 1, 1) := by decide +kernel
theorem dX2_setRoom_33 : decode cX2_setRoom 33 = .ok (.invokevirtual 48, 3) := by decide +kernel
theorem dX2_setRoom_36 : decode cX2_setRoom 36 = .ok (.pop, 1) := by decide +kernel
theorem dX2_setRoom_37 : decode cX2_setRoom 37 = .ok (.iload_n 2, 1) := by decide +kernel
theorem dX2_setRoom_38 : decode cX2_setRoom 38 = .ok (.ireturn, 1) := by decide +kernel
set_option maxRecDepth 20000 in
theorem ggX2_read_X2_needNumber : GoodIn wsX2_read wsX2_needNumber := goodIn_ca (goodIn_r _ [6, 7, 8] (by decide +kernel) (by decide +kernel)) (goodIn_sub (fun _ h => List.mem_cons_of_mem _ (List.mem_append_right _ h)) (by decide +kernel))
set_option maxRecDepth 20000 in
theorem gX2_read_X2_needNumber : GoodIn wsX2_read (va_wsS RX2 33 yX2_needNumber wsX2_needNumber) := goodIn_app (goodIn_of _ (by decide +kernel)) ggX2_read_X2_needNumber
set_option maxRecDepth 20000 in
theorem ggX2_read_X2_detoursIn : GoodIn wsX2_read wsX2_detoursIn := goodIn_r _ [12, 13, 14, 15, 16, 17, 18, 19, 20, 21, 22, 23, 24, 25, 26, 27, 28, 29, 30, 31, 32, 33, 34, 35, 36, 37, 38, 39, 40, 41, 42, 43, 44, 45, 46, 61, 62, 63, 64, 65, 66, 67, 68, 69, 70, 71, 72, 73, 74, 75, 76] (by decide +kernel) (by decide +kernel)
set_option maxRecDepth 20000 in
theorem gX2_read_X2_detoursIn : GoodIn wsX2_read (wsV RX2 75 RX2 yX2_detoursIn wsX2_detoursIn) := goodIn_app (goodIn_of _ (by decide +kernel)) ggX2_read_X2_detoursIn
set_option maxRecDepth 20000 in
theorem ggX2_read_X2_wordOf : GoodIn wsX2_read wsX2_wordOf := goodIn_r _ [50, 13, 2, 51, 20, 21, 17, 22, 23, 52, 53, 54, 27, 55, 56, 57, 58, 59, 34, 35, 36, 37, 33, 38, 60, 61, 62, 63, 64, 65, 66, 67, 68, 69, 70, 71, 72, 73, 74, 75, 76] (by decide +kernel) (by decide +kernel)
set_option maxRecDepth 20000 in
theorem gX2_read_X2_wordOf : GoodIn wsX2_read (wsV RX2 79 RX2 yX2_wordOf wsX2_wordOf) := goodIn_app (goodIn_of _ (by decide +kernel)) ggX2_read_X2_wordOf
theorem dX2_read_0 : decode cX2_read 0 = .ok (.iload_n 1, 1) := by decide +kernel
theorem dX2_read_1 : decode cX2_read 1 = .ok (.invokestatic 33, 3) := by decide +kernel
theorem dX2_read_4 : decode cX2_read 4 = .ok (.aload_n 0, 1) := by decide +kernel
theorem dX2_read_5 : decode cX2_read 5 = .ok (.dup, 1) := by decide +kernel
theorem dX2_read_6 : decode cX2_read 6 = .ok (.getfield 30, 3) := by decide +kernel
theorem dX2_read_9 : decode cX2_read 9 = .ok (.aload_n 0, 1) := by decide +kernel
theorem dX2_read_10 : decode cX2_read 10 = .ok (.aload_n 0, 1) := by decide +kernel
theorem dX2_read_11 : decode cX2_read 11 = .ok (.getfield 19, 3) := by decide +kernel
theorem dX2_read_14 : decode cX2_read 14 = .ok (.iload_n 1, 1) := by decide +kernel
theorem dX2_read_15 : decode cX2_read 15 = .ok (.invokevirtual 75, 3) := by decide +kernel
theorem dX2_read_18 : decode cX2_read 18 = .ok (.iadd, 1) := by decide +kernel
theorem dX2_read_19 : decode cX2_read 19 = .ok (.putfield 30, 3) := by decide +kernel
theorem dX2_read_22 : decode cX2_read 22 = .ok (.aload_n 0, 1) := by decide +kernel
theorem dX2_read_23 : decode cX2_read 23 = .ok (.iload_n 1, 1) := by decide +kernel
theorem dX2_read_24 : decode cX2_read 24 = .ok (.invokevirtual 79, 3) := by decide +kernel
theorem dX2_read_27 : decode cX2_read 27 = .ok (.ireturn, 1) := by decide +kernel
set_option maxRecDepth 20000 in
theorem ggX2_detours_X2_needNumber : GoodIn wsX2_detours wsX2_needNumber := goodIn_ca (goodIn_r _ [5, 6, 7] (by decide +kernel) (by decide +kernel)) (goodIn_sub (fun _ h => List.mem_cons_of_mem _ (List.mem_append_right _ h)) (by decide +kernel))
set_option maxRecDepth 20000 in
theorem gX2_detours_X2_needNumber : GoodIn wsX2_detours (va_wsS RX2 33 yX2_needNumber wsX2_needNumber) := goodIn_app (goodIn_of _ (by decide +kernel)) ggX2_detours_X2_needNumber
set_option maxRecDepth 20000 in
theorem ggX2_detours_X2_detoursIn : GoodIn wsX2_detours wsX2_detoursIn := goodIn_r _ [11, 12, 13, 14, 15, 16, 17, 18, 19, 20, 21, 22, 23, 24, 25, 26, 27, 28, 29, 30, 31, 32, 33, 34, 35, 36, 37, 38, 39, 40, 41, 42, 43, 44, 45, 46, 47, 48, 49, 50, 51, 52, 53, 54, 55, 56, 57, 58, 59, 60, 61] (by decide +kernel) (by decide +kernel)
set_option maxRecDepth 20000 in
theorem gX2_detours_X2_detoursIn : GoodIn wsX2_detours (wsV RX2 75 RX2 yX2_detoursIn wsX2_detoursIn) := goodIn_app (goodIn_of _ (by decide +kernel)) ggX2_detours_X2_detoursIn
theorem dX2_detours_0 : decode cX2_detours 0 = .ok (.iload_n 1, 1) := by decide +kernel
theorem dX2_detours_1 : decode cX2_detours 1 = .ok (.invokestatic 33, 3) := by decide +kernel
theorem dX2_detours_4 : decode cX2_detours 4 = .ok (.aload_n 0, 1) := by decide +kernel
theorem dX2_detours_5 : decode cX2_detours 5 = .ok (.aload_n 0, 1) := by decide +kernel
theorem dX2_detours_6 : decode cX2_detours 6 = .ok (.getfield 19, 3) := by decide +kernel
theorem dX2_detours_9 : decode cX2_detours 9 = .ok (.iload_n 1, 1) := by decide +kernel
theorem dX2_detours_10 : decode cX2_detours 10 = .ok (.invokevirtual 75, 3) := by decide +kernel
theorem dX2_detours_13 : decode cX2_detours 13 = .ok (.ireturn, 1) := by decide +kernel
set_option maxRecDepth 20000 in
theorem ggX2_next_X2_needNumber : GoodIn wsX2_next wsX2_needNumber := goodIn_ca (goodIn_r _ [4, 5, 6] (by decide +kernel) (by decide +kernel)) (goodIn_sub (fun _ h => List.mem_cons_of_mem _ (List.mem_append_right _ h)) (by decide +kernel))
set_option maxRecDepth 20000 in
theorem gX2_next_X2_needNumber : GoodIn wsX2_next (va_wsS RX2 33 yX2_needNumber wsX2_needNumber) := goodIn_app (goodIn_of _ (by decide +kernel)) ggX2_next_X2_needNumber
set_option maxRecDepth 20000 in
theorem ggX2_next_X2_wordOf : GoodIn wsX2_next wsX2_wordOf := goodIn_r _ [10, 11, 12, 13, 14, 15, 16, 17, 18, 19, 20, 21, 22, 23, 24, 25, 26, 27, 28, 29, 30, 31, 32, 33, 34, 35, 36, 37, 38, 39, 40, 41, 42, 43, 44, 45, 46, 47, 48, 49, 50] (by decide +kernel) (by decide +kernel)
set_option maxRecDepth 20000 in
theorem gX2_next_X2_wordOf : GoodIn wsX2_next (wsV RX2 79 RX2 yX2_wordOf wsX2_wordOf) := goodIn_app (goodIn_of _ (by decide +kernel)) ggX2_next_X2_wordOf
theorem dX2_next_0 : decode cX2_next 0 = .ok (.iload_n 1, 1) := by decide +kernel
theorem dX2_next_1 : decode cX2_next 1 = .ok (.invokestatic 33, 3) := by decide +kernel
theorem dX2_next_4 : decode cX2_next 4 = .ok (.iload_n 1, 1) := by decide +kernel
theorem dX2_next_5 : decode cX2_next 5 = .ok (.istore_n 2, 1) := by decide +kernel
theorem dX2_next_6 : decode cX2_next 6 = .ok (.iload_n 2, 1) := by decide +kernel
theorem dX2_next_7 : decode cX2_next 7 = .ok (.bipush 64, 2) := by decide +kernel
theorem dX2_next_9 : decode cX2_next 9 = .ok (.if_icmp .ge 19, 3) := by decide +kernel
theorem dX2_next_12 : decode cX2_next 12 = .ok (.aload_n 0, 1) := by decide +kernel
theorem dX2_next_13 : decode cX2_next 13 = .ok (.iload_n 2, 1) := by decide +kernel
theorem dX2_next_14 : decode cX2_next 14 = .ok (.invokevirtual 79, 3) := by decide +kernel
theorem dX2_next_17 : decode cX2_next 17 = .ok (.ifCond .lt 5, 3) := by decide +kernel
theorem dX2_next_20 : decode cX2_next 20 = .ok (.iload_n 2, 1) := by decide +kernel
theorem dX2_next_21 : decode cX2_next 21 = .ok (.ireturn, 1) := by decide +kernel
theorem dX2_next_22 : decode cX2_next 22 = .ok (.iinc 2 1, 3) := by decide +kernel
theorem dX2_next_25 : decode cX2_next 25 = .ok (.goto (-19), 3) := by decide +kernel
theorem dX2_next_28 : decode cX2_next 28 = .ok (.iconst (-1), 1) := by decide +kernel
theorem dX2_next_29 : decode cX2_next 29 = .ok (.ireturn, 1) := by decide +kernel
set_option maxRecDepth 20000 in
theorem ggX2_sum_X2_needNumber : GoodIn wsX2_sum wsX2_needNumber := goodIn_ca (goodIn_r _ [10, 11, 12] (by decide +kernel) (by decide +kernel)) (goodIn_sub (fun _ h => List.mem_cons_of_mem _ (List.mem_append_right _ h)) (by decide +kernel))
set_option maxRecDepth 20000 in
theorem gX2_sum_X2_needNumber : GoodIn wsX2_sum (va_wsS RX2 33 yX2_needNumber wsX2_needNumber) := goodIn_app (goodIn_of _ (by decide +kernel)) ggX2_sum_X2_needNumber
set_option maxRecDepth 20000 in
theorem ggX2_sum_X2_wordOf : GoodIn wsX2_sum wsX2_wordOf := goodIn_r _ [16, 17, 18, 19, 20, 21, 22, 23, 24, 25, 26, 27, 28, 29, 30, 31, 32, 33, 34, 35, 36, 37, 38, 39, 40, 41, 42, 43, 44, 45, 46, 47, 48, 49, 50, 51, 52, 53, 54, 55, 56] (by decide +kernel) (by decide +kernel)
set_option maxRecDepth 20000 in
theorem gX2_sum_X2_wordOf : GoodIn wsX2_sum (wsV RX2 79 RX2 yX2_wordOf wsX2_wordOf) := goodIn_app (goodIn_of _ (by decide +kernel)) ggX2_sum_X2_wordOf
theorem dX2_sum_0 : decode cX2_sum 0 = .ok (.iload_n 1, 1) := by decide +kernel
theorem dX2_sum_1 : decode cX2_sum 1 = .ok (.invokestatic 33, 3) := by decide +kernel
theorem dX2_sum_4 : decode cX2_sum 4 = .ok (.iload_n 2, 1) := by decide +kernel
theorem dX2_sum_5 : decode cX2_sum 5 = .ok (.invokestatic 33, 3) := by decide +kernel
theorem dX2_sum_8 : decode cX2_sum 8 = .ok (.iload_n 1, 1) := by decide +kernel
theorem dX2_sum_9 : decode cX2_sum 9 = .ok (.iload_n 2, 1) := by decide +kernel
theorem dX2_sum_10 : decode cX2_sum 10 = .ok (.if_icmp .le 13, 3) := by decide +kernel
theorem dX2_sum_13 : decode cX2_sum 13 = .ok (.new 37, 3) := by decide +kernel
theorem dX2_sum_16 : decode cX2_sum 16 = .ok (.dup, 1) := by decide +kernel
theorem dX2_sum_17 : decode cX2_sum 17 = .ok (.ldc 82, 2) := by decide +kernel
theorem dX2_sum_19 : decode cX2_sum 19 = .ok (.invokespecial 41, 3) := by decide +kernel
theorem dX2_sum_22 : decode cX2_sum 22 = .ok (.athrow, 1) := by decide +kernel
theorem dX2_sum_23 : decode cX2_sum 23 = .ok (.iconst 0, 1) := by decide +kernel
theorem dX2_sum_24 : decode cX2_sum 24 = .ok (.istore_n 3, 1) := by decide +kernel
theorem dX2_sum_25 : decode cX2_sum 25 = .ok (.iload_n 1, 1) := by decide +kernel
theorem dX2_sum_26 : decode cX2_sum 26 = .ok (.istore 4, 2) := by decide +kernel
theorem dX2_sum_28 : decode cX2_sum 28 = .ok (.iload 4, 2) := by decide +kernel
theorem dX2_sum_30 : decode cX2_sum 30 = .ok (.iload_n 2, 1) := by decide +kernel
theorem dX2_sum_31 : decode cX2_sum 31 = .ok (.if_icmp .gt 22, 3) := by decide +kernel
theorem dX2_sum_34 : decode cX2_sum 34 = .ok (.iload_n 3, 1) := by decide +kernel
theorem dX2_sum_35 : decode cX2_sum 35 = .ok (.aload_n 0, 1) := by decide +kernel
theorem dX2_sum_36 : decode cX2_sum 36 = .ok (.iload 4, 2) := by decide +kernel
theorem dX2_sum_38 : decode cX2_sum 38 = .ok (.invokevirtual 79, 3) := by decide +kernel
theorem dX2_sum_41 : decode cX2_sum 41 = .ok (.iconst 0, 1) := by decide +kernel
theorem dX2_sum_42 : decode cX2_sum 42 = .ok (.invokestatic 84, 3) := by decide +kernel
theorem dX2_sum_45 : decode cX2_sum 45 = .ok (.iadd, 1) := by decide +kernel
theorem dX2_sum_46 : decode cX2_sum 46 = .ok (.istore_n 3, 1) := by decide +kernel
theorem dX2_sum_47 : decode cX2_sum 47 = .ok (.iinc 4 1, 3) := by decide +kernel
theorem dX2_sum_50 : decode cX2_sum 50 = .ok (.goto (-22), 3) := by decide +kernel
theorem dX2_sum_53 : decode cX2_sum 53 = .ok (.iload_n 3, 1) := by decide +kernel
theorem dX2_sum_54 : decode cX2_sum 54 = .ok (.ireturn, 1) := by decide +kernel
set_option maxRecDepth 20000 in
theorem ggX2_run_X2_needLevel : GoodIn wsX2_run wsX2_needLevel := goodIn_ca (goodIn_r _ [7, 1, 2] (by decide +kernel) (by decide +kernel)) (goodIn_sub (fun _ h => List.mem_cons_of_mem _ (List.mem_append_right _ h)) (by decide +kernel))
set_option maxRecDepth 20000 in
theorem gX2_run_X2_needLevel : GoodIn wsX2_run (va_wsS RX2 52 yX2_needLevel wsX2_needLevel) := goodIn_app (goodIn_of _ (by decide +kernel)) ggX2_run_X2_needLevel
set_option maxRecDepth 20000 in
theorem ggX2_run_X0_runAt : GoodIn wsX2_run wsX0_runAt := goodIn_r _ [12, 13, 14, 55, 56, 57, 58, 59] (by decide +kernel) (by decide +kernel)
set_option maxRecDepth 20000 in
theorem gX2_run_X0_runAt : GoodIn wsX2_run (wsV RX2 90 RX0 yX0_runAt wsX0_runAt) := goodIn_app (goodIn_of _ (by decide +kernel)) ggX2_run_X0_runAt
set_option maxRecDepth 20000 in
theorem ggX2_run_X2_standingIn : GoodIn wsX2_run wsX2_standingIn := goodIn_r _ [18, 19, 3, 20, 21, 22, 23, 24, 25, 26, 27, 28, 29, 30, 31, 32, 11, 33, 34, 35, 36, 37, 38, 9, 10, 12, 13, 14, 39, 40, 50, 51, 52, 53, 54, 60, 61, 62, 63, 64, 65, 55, 56, 57, 58, 59] (by decide +kernel) (by decide +kernel)
set_option maxRecDepth 20000 in
theorem gX2_run_X2_standingIn : GoodIn wsX2_run (wsV RX2 101 RX2 yX2_standingIn wsX2_standingIn) := goodIn_app (goodIn_of _ (by decide +kernel)) ggX2_run_X2_standingIn
set_option maxRecDepth 20000 in
theorem ggX2_run_X1_fact : GoodIn wsX2_run wsX1_fact := goodIn_r _ [44, 45, 46, 47, 48, 49, 60, 61, 62, 63, 64, 65] (by decide +kernel) (by decide +kernel)
set_option maxRecDepth 20000 in
theorem gX2_run_X1_fact : GoodIn wsX2_run (wsV RX2 104 RX1 yX1_fact wsX1_fact) := goodIn_app (goodIn_of _ (by decide +kernel)) ggX2_run_X1_fact
theorem dX2_run_0 : decode cX2_run 0 = .ok (.iload_n 1, 1) := by decide +kernel
theorem dX2_run_1 : decode cX2_run 1 = .ok (.invokestatic 52, 3) := by decide +kernel
theorem dX2_run_4 : decode cX2_run 4 = .ok (.aload_n 0, 1) := by decide +kernel
theorem dX2_run_5 : decode cX2_run 5 = .ok (.getfield 19, 3) := by decide +kernel
theorem dX2_run_8 : decode cX2_run 8 = .ok (.iload_n 1, 1) := by decide +kernel
theorem dX2_run_9 : decode cX2_run 9 = .ok (.iload_n 2, 1) := by decide +kernel
theorem dX2_run_10 : decode cX2_run 10 = .ok (.invokevirtual 90, 3) := by decide +kernel
theorem dX2_run_13 : decode cX2_run 13 = .ok (.astore 4, 2) := by decide +kernel
theorem dX2_run_15 : decode cX2_run 15 = .ok (.aload 4, 2) := by decide +kernel
theorem dX2_run_17 : decode cX2_run 17 = .ok (.ifnonnull 13, 3) := by decide +kernel
theorem dX2_run_20 : decode cX2_run 20 = .ok (.new 94, 3) := by decide +kernel
theorem dX2_run_23 : decode cX2_run 23 = .ok (.dup, 1) := by decide +kernel
theorem dX2_run_24 : decode cX2_run 24 = .ok (.ldc 96, 2) := by decide +kernel
theorem dX2_run_26 : decode cX2_run 26 = .ok (.invokespecial 98, 3) := by decide +kernel
theorem dX2_run_29 : decode cX2_run 29 = .ok (.athrow, 1) := by decide +kernel
theorem dX2_run_30 : decode cX2_run 30 = .ok (.iload_n 3, 1) := by decide +kernel
theorem dX2_run_31 : decode cX2_run 31 = .ok (.ifCond .lt 9, 3) := by decide +kernel
theorem dX2_run_34 : decode cX2_run 34 = .ok (.iload_n 3, 1) := by decide +kernel
theorem dX2_run_35 : decode cX2_run 35 = .ok (.bipush 6, 2) := by decide +kernel
theorem dX2_run_37 : decode cX2_run 37 = .ok (.if_icmp .lt 13, 3) := by decide +kernel
theorem dX2_run_40 : decode cX2_run 40 = .ok (.new 94, 3) := by decide +kernel
theorem dX2_run_43 : decode cX2_run 43 = .ok (.dup, 1) := by decide +kernel
theorem dX2_run_44 : decode cX2_run 44 = .ok (.ldc 99, 2) := by decide +kernel
theorem dX2_run_46 : decode cX2_run 46 = .ok (.invokespecial 98, 3) := by decide +kernel
theorem dX2_run_49 : decode cX2_run 49 = .ok (.athrow, 1) := by decide +kernel
theorem dX2_run_50 : decode cX2_run 50 = .ok (.iload_n 3, 1) := by decide +kernel
theorem dX2_run_51 : decode cX2_run 51 = .ok (.iconst 5, 1) := by decide +kernel
theorem dX2_run_52 : decode cX2_run 52 = .ok (.if_icmp .ne 12, 3) := by decide +kernel
theorem dX2_run_55 : decode cX2_run 55 = .ok (.aload_n 0, 1) := by decide +kernel
theorem dX2_run_56 : decode cX2_run 56 = .ok (.iload_n 1, 1) := by decide +kernel
theorem dX2_run_57 : decode cX2_run 57 = .ok (.iload_n 2, 1) := by decide +kernel
theorem dX2_run_58 : decode cX2_run 58 = .ok (.invokevirtual 101, 3) := by decide +kernel
theorem dX2_run_61 : decode cX2_run 61 = .ok (.goto 9, 3) := by decide +kernel
theorem dX2_run_64 : decode cX2_run 64 = .ok (.aload 4, 2) := by decide +kernel
theorem dX2_run_66 : decode cX2_run 66 = .ok (.iload_n 3, 1) := by decide +kernel
theorem dX2_run_67 : decode cX2_run 67 = .ok (.invokevirtual 104, 3) := by decide +kernel
theorem dX2_run_70 : decode cX2_run 70 = .ok (.ireturn, 1) := by decide +kernel
set_option maxRecDepth 20000 in
theorem ggX2_slip_X2_needLevel : GoodIn wsX2_slip wsX2_needLevel := goodIn_ca (goodIn_r _ [7, 1, 2] (by decide +kernel) (by decide +kernel)) (goodIn_sub (fun _ h => List.mem_cons_of_mem _ (List.mem_append_right _ h)) (by decide +kernel))
set_option maxRecDepth 20000 in
theorem gX2_slip_X2_needLevel : GoodIn wsX2_slip (va_wsS RX2 52 yX2_needLevel wsX2_needLevel) := goodIn_app (goodIn_of _ (by decide +kernel)) ggX2_slip_X2_needLevel
set_option maxRecDepth 20000 in
theorem ggX2_slip_X0_runAt : GoodIn wsX2_slip wsX0_runAt := goodIn_r _ [12, 13, 14, 42, 43, 44, 45, 46] (by decide +kernel) (by decide +kernel)
set_option maxRecDepth 20000 in
theorem gX2_slip_X0_runAt : GoodIn wsX2_slip (wsV RX2 90 RX0 yX0_runAt wsX0_runAt) := goodIn_app (goodIn_of _ (by decide +kernel)) ggX2_slip_X0_runAt
set_option maxRecDepth 20000 in
theorem ggX2_slip_X2_slipAt : GoodIn wsX2_slip wsX2_slipAt := goodIn_ca (goodIn_r _ [17, 1, 2, 18, 19, 20, 21, 22, 23, 24, 25, 26, 27, 28, 29, 30, 31, 32, 33, 34, 35, 36, 47, 48, 49, 50, 51, 52] (by decide +kernel) (by decide +kernel)) (goodIn_sub (fun _ h => List.mem_cons_of_mem _ (List.mem_append_right _ h)) (by decide +kernel))
set_option maxRecDepth 20000 in
theorem gX2_slip_X2_slipAt : GoodIn wsX2_slip (va_wsS RX2 107 yX2_slipAt wsX2_slipAt) := goodIn_app (goodIn_of _ (by decide +kernel)) ggX2_slip_X2_slipAt
theorem dX2_slip_0 : decode cX2_slip 0 = .ok (.iload_n 1, 1) := by decide +kernel
theorem dX2_slip_1 : decode cX2_slip 1 = .ok (.invokestatic 52, 3) := by decide +kernel
theorem dX2_slip_4 : decode cX2_slip 4 = .ok (.aload_n 0, 1) := by decide +kernel
theorem dX2_slip_5 : decode cX2_slip 5 = .ok (.getfield 19, 3) := by decide +kernel
theorem dX2_slip_8 : decode cX2_slip 8 = .ok (.iload_n 1, 1) := by decide +kernel
theorem dX2_slip_9 : decode cX2_slip 9 = .ok (.iload_n 2, 1) := by decide +kernel
theorem dX2_slip_10 : decode cX2_slip 10 = .ok (.invokevirtual 90, 3) := by decide +kernel
theorem dX2_slip_13 : decode cX2_slip 13 = .ok (.astore 4, 2) := by decide +kernel
theorem dX2_slip_15 : decode cX2_slip 15 = .ok (.aload 4, 2) := by decide +kernel
theorem dX2_slip_17 : decode cX2_slip 17 = .ok (.ifnonnull 13, 3) := by decide +kernel
theorem dX2_slip_20 : decode cX2_slip 20 = .ok (.new 94, 3) := by decide +kernel
theorem dX2_slip_23 : decode cX2_slip 23 = .ok (.dup, 1) := by decide +kernel
theorem dX2_slip_24 : decode cX2_slip 24 = .ok (.ldc 96, 2) := by decide +kernel
theorem dX2_slip_26 : decode cX2_slip 26 = .ok (.invokespecial 98, 3) := by decide +kernel
theorem dX2_slip_29 : decode cX2_slip 29 = .ok (.athrow, 1) := by decide +kernel
theorem dX2_slip_30 : decode cX2_slip 30 = .ok (.aload 4, 2) := by decide +kernel
theorem dX2_slip_32 : decode cX2_slip 32 = .ok (.iload_n 3, 1) := by decide +kernel
theorem dX2_slip_33 : decode cX2_slip 33 = .ok (.invokestatic 107, 3) := by decide +kernel
theorem dX2_slip_36 : decode cX2_slip 36 = .ok (.ireturn, 1) := by decide +kernel
set_option maxRecDepth 20000 in
theorem ggX2_desk_X2_slipAt : GoodIn wsX2_desk wsX2_slipAt := goodIn_ca (goodIn_r _ [5, 6, 7, 8, 9, 10, 11, 12, 13, 14, 15, 16, 17, 18, 19, 20, 21, 22, 23, 24, 25, 26, 32, 33, 34, 35, 36, 37] (by decide +kernel) (by decide +kernel)) (goodIn_sub (fun _ h => List.mem_cons_of_mem _ (List.mem_append_right _ h)) (by decide +kernel))
set_option maxRecDepth 20000 in
theorem gX2_desk_X2_slipAt : GoodIn wsX2_desk (va_wsS RX2 107 yX2_slipAt wsX2_slipAt) := goodIn_app (goodIn_of _ (by decide +kernel)) ggX2_desk_X2_slipAt
theorem dX2_desk_0 : decode cX2_desk 0 = .ok (.aload_n 0, 1) := by decide +kernel
theorem dX2_desk_1 : decode cX2_desk 1 = .ok (.getfield 10, 3) := by decide +kernel
theorem dX2_desk_4 : decode cX2_desk 4 = .ok (.iload_n 1, 1) := by decide +kernel
theorem dX2_desk_5 : decode cX2_desk 5 = .ok (.invokestatic 107, 3) := by decide +kernel
theorem dX2_desk_8 : decode cX2_desk 8 = .ok (.ireturn, 1) := by decide +kernel
set_option maxRecDepth 20000 in
theorem ggX2_level_X2_needLevel : GoodIn wsX2_level wsX2_needLevel := goodIn_ca (goodIn_r _ [7, 1, 2] (by decide +kernel) (by decide +kernel)) (goodIn_sub (fun _ h => List.mem_cons_of_mem _ (List.mem_append_right _ h)) (by decide +kernel))
set_option maxRecDepth 20000 in
theorem gX2_level_X2_needLevel : GoodIn wsX2_level (va_wsS RX2 52 yX2_needLevel wsX2_needLevel) := goodIn_app (goodIn_of _ (by decide +kernel)) ggX2_level_X2_needLevel
set_option maxRecDepth 20000 in
theorem ggX2_level_X0_runsOf : GoodIn wsX2_level wsX0_runsOf := goodIn_r _ [12, 13, 44, 45, 46, 47, 48] (by decide +kernel) (by decide +kernel)
set_option maxRecDepth 20000 in
theorem gX2_level_X0_runsOf : GoodIn wsX2_level (wsV RX2 55 RX0 yX0_runsOf wsX0_runsOf) := goodIn_app (goodIn_of _ (by decide +kernel)) ggX2_level_X0_runsOf
set_option maxRecDepth 20000 in
theorem ggX2_level_X0_slipsOf : GoodIn wsX2_level wsX0_slipsOf := goodIn_r _ [17, 18, 9, 10, 11, 12, 13, 19, 20, 21, 22, 23, 24, 25, 26, 27, 28, 29, 44, 45, 46, 47, 48, 49, 50, 51, 52, 53, 54] (by decide +kernel) (by decide +kernel)
set_option maxRecDepth 20000 in
theorem gX2_level_X0_slipsOf : GoodIn wsX2_level (wsV RX2 113 RX0 yX0_slipsOf wsX0_slipsOf) := goodIn_app (goodIn_of _ (by decide +kernel)) ggX2_level_X0_slipsOf
set_option maxRecDepth 20000 in
theorem ggX2_level_X0_tombsOf : GoodIn wsX2_level wsX0_tombsOf := goodIn_r _ [33, 18, 9, 10, 11, 12, 13, 19, 20, 21, 22, 23, 34, 35, 36, 27, 37, 38, 44, 45, 46, 47, 48, 49, 50, 51, 52, 53, 54] (by decide +kernel) (by decide +kernel)
set_option maxRecDepth 20000 in
theorem gX2_level_X0_tombsOf : GoodIn wsX2_level (wsV RX2 116 RX0 yX0_tombsOf wsX0_tombsOf) := goodIn_app (goodIn_of _ (by decide +kernel)) ggX2_level_X0_tombsOf
theorem dX2_level_0 : decode cX2_level 0 = .ok (.iload_n 1, 1) := by decide +kernel
theorem dX2_level_1 : decode cX2_level 1 = .ok (.invokestatic 52, 3) := by decide +kernel
theorem dX2_level_4 : decode cX2_level 4 = .ok (.iload_n 2, 1) := by decide +kernel
theorem dX2_level_5 : decode cX2_level 5 = .ok (.ifCond .lt 8, 3) := by decide +kernel
theorem dX2_level_8 : decode cX2_level 8 = .ok (.iload_n 2, 1) := by decide +kernel
theorem dX2_level_9 : decode cX2_level 9 = .ok (.iconst 3, 1) := by decide +kernel
theorem dX2_level_10 : decode cX2_level 10 = .ok (.if_icmp .lt 13, 3) := by decide +kernel
theorem dX2_level_13 : decode cX2_level 13 = .ok (.new 94, 3) := by decide +kernel
theorem dX2_level_16 : decode cX2_level 16 = .ok (.dup, 1) := by decide +kernel
theorem dX2_level_17 : decode cX2_level 17 = .ok (.ldc 111, 2) := by decide +kernel
theorem dX2_level_19 : decode cX2_level 19 = .ok (.invokespecial 98, 3) := by decide +kernel
theorem dX2_level_22 : decode cX2_level 22 = .ok (.athrow, 1) := by decide +kernel
theorem dX2_level_23 : decode cX2_level 23 = .ok (.iload_n 2, 1) := by decide +kernel
theorem dX2_level_24 : decode cX2_level 24 = .ok (.lookupswitch 46 #[(0, 28), (1, 37)], 28) := by decide +kernel
theorem dX2_level_52 : decode cX2_level 52 = .ok (.aload_n 0, 1) := by decide +kernel
theorem dX2_level_53 : decode cX2_level 53 = .ok (.getfield 19, 3) := by decide +kernel
theorem dX2_level_56 : decode cX2_level 56 = .ok (.iload_n 1, 1) := by decide +kernel
theorem dX2_level_57 : decode cX2_level 57 = .ok (.invokevirtual 55, 3) := by decide +kernel
theorem dX2_level_60 : decode cX2_level 60 = .ok (.ireturn, 1) := by decide +kernel
theorem dX2_level_61 : decode cX2_level 61 = .ok (.aload_n 0, 1) := by decide +kernel
theorem dX2_level_62 : decode cX2_level 62 = .ok (.getfield 19, 3) := by decide +kernel
theorem dX2_level_65 : decode cX2_level 65 = .ok (.iload_n 1, 1) := by decide +kernel
theorem dX2_level_66 : decode cX2_level 66 = .ok (.invokevirtual 113, 3) := by decide +kernel
theorem dX2_level_69 : decode cX2_level 69 = .ok (.ireturn, 1) := by decide +kernel
theorem dX2_level_70 : decode cX2_level 70 = .ok (.aload_n 0, 1) := by decide +kernel
theorem dX2_level_71 : decode cX2_level 71 = .ok (.getfield 19, 3) := by decide +kernel
theorem dX2_level_74 : decode cX2_level 74 = .ok (.iload_n 1, 1) := by decide +kernel
theorem dX2_level_75 : decode cX2_level 75 = .ok (.invokevirtual 116, 3) := by decide +kernel
theorem dX2_level_78 : decode cX2_level 78 = .ok (.ireturn, 1) := by decide +kernel
set_option maxRecDepth 20000 in
theorem ggX2_count_X2_tally : GoodIn wsX2_count wsX2_tally := goodIn_r _ [7, 8, 9, 10, 11, 12, 13, 14, 15, 16, 17, 18, 19, 20, 21, 22, 23, 24, 25, 26, 27, 28, 29, 30, 31, 32, 33, 34, 35, 36, 37, 38, 39, 40, 6, 41, 42, 43, 44, 45, 46, 47, 48, 49, 50, 51, 52, 53, 54, 55, 56, 57, 58, 59, 60, 61, 62, 63, 64, 65, 66, 67, 68, 69, 70, 71, 72, 73, 74, 75, 76, 77, 78, 79, 80, 81, 82, 83, 84, 85] (by decide +kernel) (by decide +kernel)
set_option maxRecDepth 20000 in
theorem gX2_count_X2_tally : GoodIn wsX2_count (wsV RX2 121 RX2 yX2_tally wsX2_tally) := goodIn_app (goodIn_of _ (by decide +kernel)) ggX2_count_X2_tally
theorem dX2_count_0 : decode cX2_count 0 = .ok (.iload_n 1, 1) := by decide +kernel
theorem dX2_count_1 : decode cX2_count 1 = .ok (.ifCond .lt 9, 3) := by decide +kernel
theorem dX2_count_4 : decode cX2_count 4 = .ok (.iload_n 1, 1) := by decide +kernel
theorem dX2_count_5 : decode cX2_count 5 = .ok (.bipush 7, 2) := by decide +kernel
theorem dX2_count_7 : decode cX2_count 7 = .ok (.if_icmp .lt 13, 3) := by decide +kernel
theorem dX2_count_10 : decode cX2_count 10 = .ok (.new 94, 3) := by decide +kernel
theorem dX2_count_13 : decode cX2_count 13 = .ok (.dup, 1) := by decide +kernel
theorem dX2_count_14 : decode cX2_count 14 = .ok (.ldc 119, 2) := by decide +kernel
theorem dX2_count_16 : decode cX2_count 16 = .ok (.invokespecial 98, 3) := by decide +kernel
theorem dX2_count_19 : decode cX2_count 19 = .ok (.athrow, 1) := by decide +kernel
theorem dX2_count_20 : decode cX2_count 20 = .ok (.aload_n 0, 1) := by decide +kernel
theorem dX2_count_21 : decode cX2_count 21 = .ok (.iload_n 1, 1) := by decide +kernel
theorem dX2_count_22 : decode cX2_count 22 = .ok (.invokevirtual 121, 3) := by decide +kernel
theorem dX2_count_25 : decode cX2_count 25 = .ok (.ireturn, 1) := by decide +kernel
set_option maxRecDepth 20000 in
theorem ggX2_spares_X2_needLevel : GoodIn wsX2_spares wsX2_needLevel := goodIn_ca (goodIn_r _ [6, 7, 8] (by decide +kernel) (by decide +kernel)) (goodIn_sub (fun _ h => List.mem_cons_of_mem _ (List.mem_append_right _ h)) (by decide +kernel))
set_option maxRecDepth 20000 in
theorem gX2_spares_X2_needLevel : GoodIn wsX2_spares (va_wsS RX2 52 yX2_needLevel wsX2_needLevel) := goodIn_app (goodIn_of _ (by decide +kernel)) ggX2_spares_X2_needLevel
set_option maxRecDepth 20000 in
theorem ggX2_spares_X0_runsOf : GoodIn wsX2_spares wsX0_runsOf := goodIn_r _ [13, 14, 117, 118, 119, 120, 121] (by decide +kernel) (by decide +kernel)
set_option maxRecDepth 20000 in
theorem gX2_spares_X0_runsOf : GoodIn wsX2_spares (wsV RX2 55 RX0 yX0_runsOf wsX0_runsOf) := goodIn_app (goodIn_of _ (by decide +kernel)) ggX2_spares_X0_runsOf
set_option maxRecDepth 20000 in
theorem ggX2_spares_X2_tryMerging : GoodIn wsX2_spares wsX2_tryMerging := goodIn_r _ [18, 2, 1, 19, 20, 21, 12, 22, 14, 23, 24, 25, 26, 27, 28, 29, 30, 31, 32, 33, 34, 35, 36, 37, 38, 39, 40, 41, 42, 43, 44, 45, 46, 47, 48, 49, 50, 51, 52, 53, 54, 55, 56, 57, 10, 11, 13, 58, 59, 60, 61, 62, 63, 64, 65, 66, 67, 68, 69, 70, 71, 72, 73, 74, 75, 76, 77, 78, 79, 80, 81, 82, 83, 84, 85, 86, 87, 88, 89, 90, 91, 92, 93, 94, 95, 96, 97, 98, 99, 100, 101, 102, 103, 112, 113, 114, 115, 116, 117, 118, 119, 120, 121, 122, 123, 124, 125, 126, 127] (by decide +kernel) (by decide +kernel)
set_option maxRecDepth 20000 in
theorem gX2_spares_X2_tryMerging : GoodIn wsX2_spares (wsV RX2 124 RX2 yX2_tryMerging wsX2_tryMerging) := goodIn_app (goodIn_of _ (by decide +kernel)) ggX2_spares_X2_tryMerging
set_option maxRecDepth 20000 in
theorem ggX2_spares_X0_slips : GoodIn wsX2_spares wsX0_slips := goodIn_r _ [107, 108, 109, 110, 12, 111, 57, 10, 11, 13, 14, 74, 75, 76, 77, 27, 95, 96, 97, 31, 98, 38, 117, 118, 119, 120, 121, 122, 123, 124, 125, 126, 127] (by decide +kernel) (by decide +kernel)
set_option maxRecDepth 20000 in
theorem gX2_spares_X0_slips : GoodIn wsX2_spares (wsV RX2 127 RX0 yX0_slips wsX0_slips) := goodIn_app (goodIn_of _ (by decide +kernel)) ggX2_spares_X0_slips
theorem dX2_spares_0 : decode cX2_spares 0 = .ok (.iload_n 1, 1) := by decide +kernel
theorem dX2_spares_1 : decode cX2_spares 1 = .ok (.invokestatic 52, 3) := by decide +kernel
theorem dX2_spares_4 : decode cX2_spares 4 = .ok (.aload_n 0, 1) := by decide +kernel
theorem dX2_spares_5 : decode cX2_spares 5 = .ok (.getfield 19, 3) := by decide +kernel
theorem dX2_spares_8 : decode cX2_spares 8 = .ok (.iload_n 1, 1) := by decide +kernel
theorem dX2_spares_9 : decode cX2_spares 9 = .ok (.invokevirtual 55, 3) := by decide +kernel
theorem dX2_spares_12 : decode cX2_spares 12 = .ok (.ifCond .ne 5, 3) := by decide +kernel
theorem dX2_spares_15 : decode cX2_spares 15 = .ok (.iconst (-1), 1) := by decide +kernel
theorem dX2_spares_16 : decode cX2_spares 16 = .ok (.ireturn, 1) := by decide +kernel
theorem dX2_spares_17 : decode cX2_spares 17 = .ok (.aload_n 0, 1) := by decide +kernel
theorem dX2_spares_18 : decode cX2_spares 18 = .ok (.iload_n 1, 1) := by decide +kernel
theorem dX2_spares_19 : decode cX2_spares 19 = .ok (.invokevirtual 124, 3) := by decide +kernel
theorem dX2_spares_22 : decode cX2_spares 22 = .ok (.aload_n 0, 1) := by decide +kernel
theorem dX2_spares_23 : decode cX2_spares 23 = .ok (.getfield 19, 3) := by decide +kernel
theorem dX2_spares_26 : decode cX2_spares 26 = .ok (.invokevirtual 127, 3) := by decide +kernel
theorem dX2_spares_29 : decode cX2_spares 29 = .ok (.aload_n 0, 1) := by decide +kernel
theorem dX2_spares_30 : decode cX2_spares 30 = .ok (.getfield 23, 3) := by decide +kernel
theorem dX2_spares_33 : decode cX2_spares 33 = .ok (.invokevirtual 127, 3) := by decide +kernel
theorem dX2_spares_36 : decode cX2_spares 36 = .ok (.isub, 1) := by decide +kernel
theorem dX2_spares_37 : decode cX2_spares 37 = .ok (.ireturn, 1) := by decide +kernel
set_option maxRecDepth 20000 in
theorem ggX2_advise_X0_runsOf : GoodIn wsX2_advise wsX0_runsOf := goodIn_r _ [7, 8, 127, 128, 129, 130, 131] (by decide +kernel) (by decide +kernel)
set_option maxRecDepth 20000 in
theorem gX2_advise_X0_runsOf : GoodIn wsX2_advise (wsV RX2 55 RX0 yX0_runsOf wsX0_runsOf) := goodIn_app (goodIn_of _ (by decide +kernel)) ggX2_advise_X0_runsOf
set_option maxRecDepth 20000 in
theorem ggX2_advise_X2_tryMerging : GoodIn wsX2_advise wsX2_tryMerging := goodIn_r _ [13, 2, 1, 14, 15, 16, 6, 17, 8, 18, 19, 20, 21, 22, 23, 24, 25, 26, 27, 28, 29, 30, 31, 32, 33, 34, 35, 36, 37, 38, 39, 40, 41, 42, 43, 44, 45, 46, 47, 48, 49, 50, 51, 52, 4, 5, 7, 53, 54, 55, 56, 57, 58, 59, 60, 61, 62, 63, 64, 65, 66, 67, 68, 69, 70, 71, 72, 73, 74, 75, 76, 77, 78, 79, 80, 81, 82, 83, 84, 85, 86, 87, 88, 89, 90, 91, 92, 93, 94, 95, 96, 97, 98, 122, 123, 124, 125, 126, 127, 128, 129, 130, 131, 132, 133, 134, 135, 136, 137] (by decide +kernel) (by decide +kernel)
set_option maxRecDepth 20000 in
theorem gX2_advise_X2_tryMerging : GoodIn wsX2_advise (wsV RX2 124 RX2 yX2_tryMerging wsX2_tryMerging) := goodIn_app (goodIn_of _ (by decide +kernel)) ggX2_advise_X2_tryMerging
set_option maxRecDepth 20000 in
theorem ggX2_advise_X2_allDetoursIn : GoodIn wsX2_advise wsX2_allDetoursIn := goodIn_r _ [102, 103, 104, 105, 12, 106, 107, 108, 109, 110, 26, 111, 112, 74, 75, 76, 28, 113, 114, 115, 6, 116, 52, 4, 5, 7, 8, 69, 70, 71, 72, 22, 117, 118, 119, 120, 35, 36, 37, 121, 122, 123, 124, 125, 126, 132, 133, 134, 135, 136, 137, 127, 128, 129, 130, 131] (by decide +kernel) (by decide +kernel)
set_option maxRecDepth 20000 in
theorem gX2_advise_X2_allDetoursIn : GoodIn wsX2_advise (wsV RX2 130 RX2 yX2_allDetoursIn wsX2_allDetoursIn) := goodIn_app (goodIn_of _ (by decide +kernel)) ggX2_advise_X2_allDetoursIn
theorem dX2_advise_0 : decode cX2_advise 0 = .ok (.iconst (-1), 1) := by decide +kernel
theorem dX2_advise_1 : decode cX2_advise 1 = .ok (.istore_n 1, 1) := by decide +kernel
theorem dX2_advise_2 : decode cX2_advise 2 = .ok (.iconst 0, 1) := by decide +kernel
theorem dX2_advise_3 : decode cX2_advise 3 = .ok (.istore_n 2, 1) := by decide +kernel
theorem dX2_advise_4 : decode cX2_advise 4 = .ok (.iconst 0, 1) := by decide +kernel
theorem dX2_advise_5 : decode cX2_advise 5 = .ok (.istore_n 3, 1) := by decide +kernel
theorem dX2_advise_6 : decode cX2_advise 6 = .ok (.iload_n 3, 1) := by decide +kernel
theorem dX2_advise_7 : decode cX2_advise 7 = .ok (.iconst 4, 1) := by decide +kernel
theorem dX2_advise_8 : decode cX2_advise 8 = .ok (.if_icmp .ge 53, 3) := by decide +kernel
theorem dX2_advise_11 : decode cX2_advise 11 = .ok (.aload_n 0, 1) := by decide +kernel
theorem dX2_advise_12 : decode cX2_advise 12 = .ok (.getfield 19, 3) := by decide +kernel
theorem dX2_advise_15 : decode cX2_advise 15 = .ok (.iload_n 3, 1) := by decide +kernel
theorem dX2_advise_16 : decode cX2_advise 16 = .ok (.invokevirtual 55, 3) := by decide +kernel
theorem dX2_advise_19 : decode cX2_advise 19 = .ok (.ifCond .ne 6, 3) := by decide +kernel
theorem dX2_advise_22 : decode cX2_advise 22 = .ok (.goto 33, 3) := by decide +kernel
theorem dX2_advise_25 : decode cX2_advise 25 = .ok (.aload_n 0, 1) := by decide +kernel
theorem dX2_advise_26 : decode cX2_advise 26 = .ok (.iload_n 3, 1) := by decide +kernel
theorem dX2_advise_27 : decode cX2_advise 27 = .ok (.invokevirtual 124, 3) := by decide +kernel
theorem dX2_advise_30 : decode cX2_advise 30 = .ok (.aload_n 0, 1) := by decide +kernel
theorem dX2_advise_31 : decode cX2_advise 31 = .ok (.aload_n 0, 1) := by decide +kernel
theorem dX2_advise_32 : decode cX2_advise 32 = .ok (.getfield 23, 3) := by decide +kernel
theorem dX2_advise_35 : decode cX2_advise 35 = .ok (.invokevirtual 130, 3) := by decide +kernel
theorem dX2_advise_38 : decode cX2_advise 38 = .ok (.istore 4, 2) := by decide +kernel
theorem dX2_advise_40 : decode cX2_advise 40 = .ok (.iload_n 1, 1) := by decide +kernel
theorem dX2_advise_41 : decode cX2_advise 41 = .ok (.ifCond .lt 9, 3) := by decide +kernel
theorem dX2_advise_44 : decode cX2_advise 44 = .ok (.iload 4, 2) := by decide +kernel
theorem dX2_advise_46 : decode cX2_advise 46 = .ok (.iload_n 2, 1) := by decide +kernel
theorem dX2_advise_47 : decode cX2_advise 47 = .ok (.if_icmp .ge 8, 3) := by decide +kernel
theorem dX2_advise_50 : decode cX2_advise 50 = .ok (.iload_n 3, 1) := by decide +kernel
theorem dX2_advise_51 : decode cX2_advise 51 = .ok (.istore_n 1, 1) := by decide +kernel
theorem dX2_advise_52 : decode cX2_advise 52 = .ok (.iload 4, 2) := by decide +kernel
theorem dX2_advise_54 : decode cX2_advise 54 = .ok (.istore_n 2, 1) := by decide +kernel
theorem dX2_advise_55 : decode cX2_advise 55 = .ok (.iinc 3 1, 3) := by decide +kernel
theorem dX2_advise_58 : decode cX2_advise 58 = .ok (.goto (-52), 3) := by decide +kernel
theorem dX2_advise_61 : decode cX2_advise 61 = .ok (.iload_n 1, 1) := by decide +kernel
theorem dX2_advise_62 : decode cX2_advise 62 = .ok (.ireturn, 1) := by decide +kernel
set_option maxRecDepth 20000 in
theorem ggX2_mean_X2_allDetoursIn : GoodIn wsX2_mean wsX2_allDetoursIn := goodIn_r _ [7, 8, 9, 10, 6, 11, 12, 13, 14, 15, 16, 17, 18, 19, 20, 21, 22, 23, 24, 25, 26, 27, 28, 29, 30, 31, 32, 33, 34, 35, 36, 37, 38, 39, 40, 41, 42, 43, 44, 45, 46, 47, 48, 49, 50, 51, 52, 53, 54, 55, 56, 57, 58, 59, 60, 61] (by decide +kernel) (by decide +kernel)
set_option maxRecDepth 20000 in
theorem gX2_mean_X2_allDetoursIn : GoodIn wsX2_mean (wsV RX2 130 RX2 yX2_allDetoursIn wsX2_allDetoursIn) := goodIn_app (goodIn_of _ (by decide +kernel)) ggX2_mean_X2_allDetoursIn
theorem dX2_mean_0 : decode cX2_mean 0 = .ok (.aload_n 0, 1) := by decide +kernel
theorem dX2_mean_1 : decode cX2_mean 1 = .ok (.aload_n 0, 1) := by decide +kernel
theorem dX2_mean_2 : decode cX2_mean 2 = .ok (.getfield 19, 3) := by decide +kernel
theorem dX2_mean_5 : decode cX2_mean 5 = .ok (.invokevirtual 130, 3) := by decide +kernel
theorem dX2_mean_8 : decode cX2_mean 8 = .ok (.i2d, 1) := by decide +kernel
theorem dX2_mean_9 : decode cX2_mean 9 = .ok (.ldc2_w 134, 3) := by decide +kernel
theorem dX2_mean_12 : decode cX2_mean 12 = .ok (.ddiv, 1) := by decide +kernel
theorem dX2_mean_13 : decode cX2_mean 13 = .ok (.dreturn, 1) := by decide +kernel
set_option maxRecDepth 20000 in
theorem ggX2_digest_X2_tally : GoodIn wsX2_digest wsX2_tally := goodIn_r _ [8, 3, 9, 10, 11, 12, 13, 14, 15, 16, 17, 18, 19, 20, 21, 22, 23, 24, 25, 26, 27, 28, 29, 30, 31, 32, 33, 34, 35, 36, 37, 38, 39, 40, 7, 41, 42, 43, 44, 45, 46, 47, 48, 49, 50, 51, 52, 53, 54, 55, 56, 57, 58, 59, 60, 61, 62, 63, 64, 65, 66, 67, 68, 69, 105, 106, 107, 108, 109, 110, 111, 112, 113, 114, 115, 116, 117, 118, 119, 120] (by decide +kernel) (by decide +kernel)
set_option maxRecDepth 20000 in
theorem gX2_digest_X2_tally : GoodIn wsX2_digest (wsV RX2 121 RX2 yX2_tally wsX2_tally) := goodIn_app (goodIn_of _ (by decide +kernel)) ggX2_digest_X2_tally
set_option maxRecDepth 20000 in
theorem ggX2_digest_X2_digestSlips : GoodIn wsX2_digest wsX2_digestSlips := goodIn_r _ [72, 2, 73, 74, 75, 15, 76, 77, 47, 48, 49, 50, 78, 79, 80, 81, 110, 111, 112, 113, 114, 115] (by decide +kernel) (by decide +kernel)
set_option maxRecDepth 20000 in
theorem gX2_digest_X2_digestSlips : GoodIn wsX2_digest (va_wsS RX2 140 yX2_digestSlips wsX2_digestSlips) := goodIn_app (goodIn_of _ (by decide +kernel)) ggX2_digest_X2_digestSlips
set_option maxRecDepth 20000 in
theorem ggX2_digest_X2_digestLevel : GoodIn wsX2_digest wsX2_digestLevel := goodIn_r _ [85, 10, 2, 86, 28, 29, 21, 30, 31, 87, 33, 34, 35, 36, 88, 89, 90, 7, 91, 3, 73, 74, 75, 15, 76, 77, 47, 48, 49, 50, 92, 93, 94, 95, 55, 56, 57, 58, 32, 59, 96, 97, 98, 99, 100, 17, 101, 102, 103, 104, 70, 71, 72, 78, 79, 80, 81, 105, 106, 107, 108, 109, 116, 117, 118, 119, 120, 110, 111, 112, 113, 114, 115] (by decide +kernel) (by decide +kernel)
set_option maxRecDepth 20000 in
theorem gX2_digest_X2_digestLevel : GoodIn wsX2_digest (wsV RX2 144 RX2 yX2_digestLevel wsX2_digestLevel) := goodIn_app (goodIn_of _ (by decide +kernel)) ggX2_digest_X2_digestLevel
set_option maxRecDepth 20000 in
theorem ggX2_digest_X2_wordOf : GoodIn wsX2_digest wsX2_wordOf := goodIn_r _ [45, 3, 10, 46, 47, 48, 15, 49, 50, 51, 52, 53, 21, 54, 55, 56, 57, 58, 32, 33, 34, 35, 31, 36, 59, 105, 106, 107, 108, 109, 110, 111, 112, 113, 114, 115, 116, 117, 118, 119, 120] (by decide +kernel) (by decide +kernel)
set_option maxRecDepth 20000 in
theorem gX2_digest_X2_wordOf : GoodIn wsX2_digest (wsV RX2 79 RX2 yX2_wordOf wsX2_wordOf) := goodIn_app (goodIn_of _ (by decide +kernel)) ggX2_digest_X2_wordOf
theorem dX2_digest_0 : decode cX2_digest 0 = .ok (.ldc2_w 136, 3) := by decide +kernel
theorem dX2_digest_3 : decode cX2_digest 3 = .ok (.lstore_n 1, 1) := by decide +kernel
theorem dX2_digest_4 : decode cX2_digest 4 = .ok (.iconst 0, 1) := by decide +kernel
theorem dX2_digest_5 : decode cX2_digest 5 = .ok (.istore_n 3, 1) := by decide +kernel
theorem dX2_digest_6 : decode cX2_digest 6 = .ok (.iload_n 3, 1) := by decide +kernel
theorem dX2_digest_7 : decode cX2_digest 7 = .ok (.bipush 7, 2) := by decide +kernel
theorem dX2_digest_9 : decode cX2_digest 9 = .ok (.if_icmp .ge 22, 3) := by decide +kernel
theorem dX2_digest_12 : decode cX2_digest 12 = .ok (.lload_n 1, 1) := by decide +kernel
theorem dX2_digest_13 : decode cX2_digest 13 = .ok (.ldc2_w 138, 3) := by decide +kernel
theorem dX2_digest_16 : decode cX2_digest 16 = .ok (.lmul, 1) := by decide +kernel
theorem dX2_digest_17 : decode cX2_digest 17 = .ok (.aload_n 0, 1) := by decide +kernel
theorem dX2_digest_18 : decode cX2_digest 18 = .ok (.iload_n 3, 1) := by decide +kernel
theorem dX2_digest_19 : decode cX2_digest 19 = .ok (.invokevirtual 121, 3) := by decide +kernel
theorem dX2_digest_22 : decode cX2_digest 22 = .ok (.i2l, 1) := by decide +kernel
theorem dX2_digest_23 : decode cX2_digest 23 = .ok (.ladd, 1) := by decide +kernel
theorem dX2_digest_24 : decode cX2_digest 24 = .ok (.lstore_n 1, 1) := by decide +kernel
theorem dX2_digest_25 : decode cX2_digest 25 = .ok (.iinc 3 1, 3) := by decide +kernel
theorem dX2_digest_28 : decode cX2_digest 28 = .ok (.goto (-22), 3) := by decide +kernel
theorem dX2_digest_31 : decode cX2_digest 31 = .ok (.lload_n 1, 1) := by decide +kernel
theorem dX2_digest_32 : decode cX2_digest 32 = .ok (.aload_n 0, 1) := by decide +kernel
theorem dX2_digest_33 : decode cX2_digest 33 = .ok (.getfield 10, 3) := by decide +kernel
theorem dX2_digest_36 : decode cX2_digest 36 = .ok (.invokestatic 140, 3) := by decide +kernel
theorem dX2_digest_39 : decode cX2_digest 39 = .ok (.lstore_n 1, 1) := by decide +kernel
theorem dX2_digest_40 : decode cX2_digest 40 = .ok (.iconst 0, 1) := by decide +kernel
theorem dX2_digest_41 : decode cX2_digest 41 = .ok (.istore_n 3, 1) := by decide +kernel
theorem dX2_digest_42 : decode cX2_digest 42 = .ok (.iload_n 3, 1) := by decide +kernel
theorem dX2_digest_43 : decode cX2_digest 43 = .ok (.iconst 4, 1) := by decide +kernel
theorem dX2_digest_44 : decode cX2_digest 44 = .ok (.if_icmp .ge 16, 3) := by decide +kernel
theorem dX2_digest_47 : decode cX2_digest 47 = .ok (.aload_n 0, 1) := by decide +kernel
theorem dX2_digest_48 : decode cX2_digest 48 = .ok (.lload_n 1, 1) := by decide +kernel
theorem dX2_digest_49 : decode cX2_digest 49 = .ok (.iload_n 3, 1) := by decide +kernel
theorem dX2_digest_50 : decode cX2_digest 50 = .ok (.invokevirtual 144, 3) := by decide +kernel
theorem dX2_digest_53 : decode cX2_digest 53 = .ok (.lstore_n 1, 1) := by decide +kernel
theorem dX2_digest_54 : decode cX2_digest 54 = .ok (.iinc 3 1, 3) := by decide +kernel
theorem dX2_digest_57 : decode cX2_digest 57 = .ok (.goto (-15), 3) := by decide +kernel
theorem dX2_digest_60 : decode cX2_digest 60 = .ok (.iconst 0, 1) := by decide +kernel
theorem dX2_digest_61 : decode cX2_digest 61 = .ok (.istore_n 3, 1) := by decide +kernel
theorem dX2_digest_62 : decode cX2_digest 62 = .ok (.iload_n 3, 1) := by decide +kernel
theorem dX2_digest_63 : decode cX2_digest 63 = .ok (.bipush 64, 2) := by decide +kernel
theorem dX2_digest_65 : decode cX2_digest 65 = .ok (.if_icmp .ge 22, 3) := by decide +kernel
theorem dX2_digest_68 : decode cX2_digest 68 = .ok (.lload_n 1, 1) := by decide +kernel
theorem dX2_digest_69 : decode cX2_digest 69 = .ok (.ldc2_w 138, 3) := by decide +kernel
theorem dX2_digest_72 : decode cX2_digest 72 = .ok (.lmul, 1) := by decide +kernel
theorem dX2_digest_73 : decode cX2_digest 73 = .ok (.aload_n 0, 1) := by decide +kernel
theorem dX2_digest_74 : decode cX2_digest 74 = .ok (.iload_n 3, 1) := by decide +kernel
theorem dX2_digest_75 : decode cX2_digest 75 = .ok (.invokevirtual 79, 3) := by decide +kernel
theorem dX2_digest_78 : decode cX2_digest 78 = .ok (.i2l, 1) := by decide +kernel
theorem dX2_digest_79 : decode cX2_digest 79 = .ok (.ladd, 1) := by decide +kernel
theorem dX2_digest_80 : decode cX2_digest 80 = .ok (.lstore_n 1, 1) := by decide +kernel
theorem dX2_digest_81 : decode cX2_digest 81 = .ok (.iinc 3 1, 3) := by decide +kernel
theorem dX2_digest_84 : decode cX2_digest 84 = .ok (.goto (-22), 3) := by decide +kernel
theorem dX2_digest_87 : decode cX2_digest 87 = .ok (.lload_n 1, 1) := by decide +kernel
theorem dX2_digest_88 : decode cX2_digest 88 = .ok (.lreturn, 1) := by decide +kernel
theorem dX2_needNumber_0 : decode cX2_needNumber 0 = .ok (.iload_n 0, 1) := by decide +kernel
theorem dX2_needNumber_1 : decode cX2_needNumber 1 = .ok (.ifCond .lt 9, 3) := by decide +kernel
theorem dX2_needNumber_4 : decode cX2_needNumber 4 = .ok (.iload_n 0, 1) := by decide +kernel
theorem dX2_needNumber_5 : decode cX2_needNumber 5 = .ok (.bipush 64, 2) := by decide +kernel
theorem dX2_needNumber_7 : decode cX2_needNumber 7 = .ok (.if_icmp .lt 13, 3) := by decide +kernel
theorem dX2_needNumber_10 : decode cX2_needNumber 10 = .ok (.new 94, 3) := by decide +kernel
theorem dX2_needNumber_13 : decode cX2_needNumber 13 = .ok (.dup, 1) := by decide +kernel
theorem dX2_needNumber_14 : decode cX2_needNumber 14 = .ok (.ldc 148, 2) := by decide +kernel
theorem dX2_needNumber_16 : decode cX2_needNumber 16 = .ok (.invokespecial 98, 3) := by decide +kernel
theorem dX2_needNumber_19 : decode cX2_needNumber 19 = .ok (.athrow, 1) := by decide +kernel
theorem dX2_needNumber_20 : decode cX2_needNumber 20 = .ok (.return_, 1) := by decide +kernel
theorem dX2_needLevel_0 : decode cX2_needLevel 0 = .ok (.iload_n 0, 1) := by decide +kernel
theorem dX2_needLevel_1 : decode cX2_needLevel 1 = .ok (.ifCond .lt 8, 3) := by decide +kernel
theorem dX2_needLevel_4 : decode cX2_needLevel 4 = .ok (.iload_n 0, 1) := by decide +kernel
theorem dX2_needLevel_5 : decode cX2_needLevel 5 = .ok (.iconst 4, 1) := by decide +kernel
theorem dX2_needLevel_6 : decode cX2_needLevel 6 = .ok (.if_icmp .lt 13, 3) := by decide +kernel
theorem dX2_needLevel_9 : decode cX2_needLevel 9 = .ok (.new 94, 3) := by decide +kernel
theorem dX2_needLevel_12 : decode cX2_needLevel 12 = .ok (.dup, 1) := by decide +kernel
theorem dX2_needLevel_13 : decode cX2_needLevel 13 = .ok (.ldc 150, 2) := by decide +kernel
theorem dX2_needLevel_15 : decode cX2_needLevel 15 = .ok (.invokespecial 98, 3) := by decide +kernel
theorem dX2_needLevel_18 : decode cX2_needLevel 18 = .ok (.athrow, 1) := by decide +kernel
theorem dX2_needLevel_19 : decode cX2_needLevel 19 = .ok (.return_, 1) := by decide +kernel
set_option maxRecDepth 20000 in
theorem ggX2_slipAt_X1_numberAt : GoodIn wsX2_slipAt wsX1_numberAt := goodIn_r _ [7, 8, 9, 10, 11, 6, 12, 13, 14, 15, 16, 17, 22, 23, 24, 25, 26, 27] (by decide +kernel) (by decide +kernel)
set_option maxRecDepth 20000 in
theorem gX2_slipAt_X1_numberAt : GoodIn wsX2_slipAt (wsV RX2 152 RX1 yX1_numberAt wsX1_numberAt) := goodIn_app (goodIn_of _ (by decide +kernel)) ggX2_slipAt_X1_numberAt
set_option maxRecDepth 20000 in
theorem ggX2_slipAt_X1_told : GoodIn wsX2_slipAt wsX1_told := goodIn_r _ [21, 13, 14, 15, 6, 16, 17, 22, 23, 24, 25, 26, 27] (by decide +kernel) (by decide +kernel)
set_option maxRecDepth 20000 in
theorem gX2_slipAt_X1_told : GoodIn wsX2_slipAt (wsV RX2 157 RX1 yX1_told wsX1_told) := goodIn_app (goodIn_of _ (by decide +kernel)) ggX2_slipAt_X1_told
theorem dX2_slipAt_0 : decode cX2_slipAt 0 = .ok (.aload_n 0, 1) := by decide +kernel
theorem dX2_slipAt_1 : decode cX2_slipAt 1 = .ok (.iload_n 1, 1) := by decide +kernel
theorem dX2_slipAt_2 : decode cX2_slipAt 2 = .ok (.invokevirtual 152, 3) := by decide +kernel
theorem dX2_slipAt_5 : decode cX2_slipAt 5 = .ok (.istore_n 2, 1) := by decide +kernel
theorem dX2_slipAt_6 : decode cX2_slipAt 6 = .ok (.iload_n 2, 1) := by decide +kernel
theorem dX2_slipAt_7 : decode cX2_slipAt 7 = .ok (.ifCond .ge 13, 3) := by decide +kernel
theorem dX2_slipAt_10 : decode cX2_slipAt 10 = .ok (.new 94, 3) := by decide +kernel
theorem dX2_slipAt_13 : decode cX2_slipAt 13 = .ok (.dup, 1) := by decide +kernel
theorem dX2_slipAt_14 : decode cX2_slipAt 14 = .ok (.ldc 155, 2) := by decide +kernel
theorem dX2_slipAt_16 : decode cX2_slipAt 16 = .ok (.invokespecial 98, 3) := by decide +kernel
theorem dX2_slipAt_19 : decode cX2_slipAt 19 = .ok (.athrow, 1) := by decide +kernel
theorem dX2_slipAt_20 : decode cX2_slipAt 20 = .ok (.aload_n 0, 1) := by decide +kernel
theorem dX2_slipAt_21 : decode cX2_slipAt 21 = .ok (.iload_n 2, 1) := by decide +kernel
theorem dX2_slipAt_22 : decode cX2_slipAt 22 = .ok (.invokevirtual 157, 3) := by decide +kernel
theorem dX2_slipAt_25 : decode cX2_slipAt 25 = .ok (.ireturn, 1) := by decide +kernel
set_option maxRecDepth 20000 in
theorem ggX2_bindFrom_X1_size : GoodIn wsX2_bindFrom wsX1_size := goodIn_r _ [7, 8, 100, 101, 102, 103, 104, 105] (by decide +kernel) (by decide +kernel)
set_option maxRecDepth 20000 in
theorem gX2_bindFrom_X1_size : GoodIn wsX2_bindFrom (wsV RX2 160 RX1 yX1_size wsX1_size) := goodIn_app (goodIn_of _ (by decide +kernel)) ggX2_bindFrom_X1_size
set_option maxRecDepth 20000 in
theorem ggX2_bindFrom_X0_moves : GoodIn wsX2_bindFrom wsX0_moves := goodIn_r _ [13, 14, 106, 107, 108, 109, 110] (by decide +kernel) (by decide +kernel)
set_option maxRecDepth 20000 in
theorem gX2_bindFrom_X0_moves : GoodIn wsX2_bindFrom (wsV RX2 63 RX0 yX0_moves wsX0_moves) := goodIn_app (goodIn_of _ (by decide +kernel)) ggX2_bindFrom_X0_moves
set_option maxRecDepth 20000 in
theorem ggX2_bindFrom_X0_addRun : GoodIn wsX2_bindFrom wsX0_addRun := goodIn_r _ [18, 19, 14, 20, 21, 22, 12, 23, 24, 25, 26, 27, 28, 29, 4, 5, 6, 7, 8, 30, 31, 32, 33, 34, 35, 36, 37, 38, 39, 40, 41, 42, 106, 107, 108, 109, 110, 100, 101, 102, 103, 104, 105] (by decide +kernel) (by decide +kernel)
set_option maxRecDepth 20000 in
theorem gX2_bindFrom_X0_addRun : GoodIn wsX2_bindFrom (wsV RX2 163 RX0 yX0_addRun wsX0_addRun) := goodIn_app (goodIn_of _ (by decide +kernel)) ggX2_bindFrom_X0_addRun
set_option maxRecDepth 20000 in
theorem ggX2_bindFrom_X1_clear : GoodIn wsX2_bindFrom wsX1_clear := goodIn_r _ [46, 34, 8, 39, 40, 41, 42, 47, 48, 49, 50, 100, 101, 102, 103, 104, 105] (by decide +kernel) (by decide +kernel)
set_option maxRecDepth 20000 in
theorem gX2_bindFrom_X1_clear : GoodIn wsX2_bindFrom (wsV RX2 167 RX1 yX1_clear wsX1_clear) := goodIn_app (goodIn_of _ (by decide +kernel)) ggX2_bindFrom_X1_clear
set_option maxRecDepth 20000 in
theorem ggX2_bindFrom_X0_settle : GoodIn wsX2_bindFrom wsX0_settle := goodIn_r _ [54, 20, 21, 22, 12, 23, 19, 55, 56, 57, 58, 59, 60, 61, 62, 63, 64, 65, 66, 67, 68, 69, 70, 71, 72, 73, 44, 45, 6, 46, 34, 8, 39, 40, 41, 42, 47, 48, 49, 50, 74, 75, 76, 77, 78, 79, 80, 81, 28, 82, 83, 84, 85, 86, 87, 88, 89, 90, 91, 92, 93, 94, 16, 17, 18, 14, 24, 25, 26, 27, 29, 4, 5, 7, 30, 31, 32, 33, 35, 36, 37, 38, 106, 107, 108, 109, 110, 100, 101, 102, 103, 104, 105] (by decide +kernel) (by decide +kernel)
set_option maxRecDepth 20000 in
theorem gX2_bindFrom_X0_settle : GoodIn wsX2_bindFrom (wsV RX2 70 RX0 yX0_settle wsX0_settle) := goodIn_app (goodIn_of _ (by decide +kernel)) ggX2_bindFrom_X0_settle
theorem dX2_bindFrom_0 : decode cX2_bindFrom 0 = .ok (.aload_n 0, 1) := by decide +kernel
theorem dX2_bindFrom_1 : decode cX2_bindFrom 1 = .ok (.getfield 10, 3) := by decide +kernel
theorem dX2_bindFrom_4 : decode cX2_bindFrom 4 = .ok (.invokevirtual 160, 3) := by decide +kernel
theorem dX2_bindFrom_7 : decode cX2_bindFrom 7 = .ok (.iload_n 1, 1) := by decide +kernel
theorem dX2_bindFrom_8 : decode cX2_bindFrom 8 = .ok (.if_icmp .ge 5, 3) := by decide +kernel
theorem dX2_bindFrom_11 : decode cX2_bindFrom 11 = .ok (.iconst 0, 1) := by decide +kernel
theorem dX2_bindFrom_12 : decode cX2_bindFrom 12 = .ok (.ireturn, 1) := by decide +kernel
theorem dX2_bindFrom_13 : decode cX2_bindFrom 13 = .ok (.aload_n 0, 1) := by decide +kernel
theorem dX2_bindFrom_14 : decode cX2_bindFrom 14 = .ok (.getfield 19, 3) := by decide +kernel
theorem dX2_bindFrom_17 : decode cX2_bindFrom 17 = .ok (.invokevirtual 63, 3) := by decide +kernel
theorem dX2_bindFrom_20 : decode cX2_bindFrom 20 = .ok (.istore_n 2, 1) := by decide +kernel
theorem dX2_bindFrom_21 : decode cX2_bindFrom 21 = .ok (.aload_n 0, 1) := by decide +kernel
theorem dX2_bindFrom_22 : decode cX2_bindFrom 22 = .ok (.getfield 19, 3) := by decide +kernel
theorem dX2_bindFrom_25 : decode cX2_bindFrom 25 = .ok (.iconst 0, 1) := by decide +kernel
theorem dX2_bindFrom_26 : decode cX2_bindFrom 26 = .ok (.aload_n 0, 1) := by decide +kernel
theorem dX2_bindFrom_27 : decode cX2_bindFrom 27 = .ok (.getfield 10, 3) := by decide +kernel
theorem dX2_bindFrom_30 : decode cX2_bindFrom 30 = .ok (.invokevirtual 163, 3) := by decide +kernel
theorem dX2_bindFrom_33 : decode cX2_bindFrom 33 = .ok (.aload_n 0, 1) := by decide +kernel
theorem dX2_bindFrom_34 : decode cX2_bindFrom 34 = .ok (.getfield 10, 3) := by decide +kernel
theorem dX2_bindFrom_37 : decode cX2_bindFrom 37 = .ok (.invokevirtual 167, 3) := by decide +kernel
theorem dX2_bindFrom_40 : decode cX2_bindFrom 40 = .ok (.aload_n 0, 1) := by decide +kernel
theorem dX2_bindFrom_41 : decode cX2_bindFrom 41 = .ok (.getfield 19, 3) := by decide +kernel
theorem dX2_bindFrom_44 : decode cX2_bindFrom 44 = .ok (.invokevirtual 70, 3) := by decide +kernel
theorem dX2_bindFrom_47 : decode cX2_bindFrom 47 = .ok (.aload_n 0, 1) := by decide +kernel
theorem dX2_bindFrom_48 : decode cX2_bindFrom 48 = .ok (.getfield 19, 3) := by decide +kernel
theorem dX2_bindFrom_51 : decode cX2_bindFrom 51 = .ok (.invokevirtual 63, 3) := by decide +kernel
theorem dX2_bindFrom_54 : decode cX2_bindFrom 54 = .ok (.iload_n 2, 1) := by decide +kernel
theorem dX2_bindFrom_55 : decode cX2_bindFrom 55 = .ok (.isub, 1) := by decide +kernel
theorem dX2_bindFrom_56 : decode cX2_bindFrom 56 = .ok (.ireturn, 1) := by decide +kernel
set_option maxRecDepth 20000 in
theorem ggX2_wordOf_X1_wordAt : GoodIn wsX2_wordOf wsX1_wordAt := goodIn_r _ [7, 8, 30, 31, 32, 33, 34, 35] (by decide +kernel) (by decide +kernel)
set_option maxRecDepth 20000 in
theorem gX2_wordOf_X1_wordAt : GoodIn wsX2_wordOf (wsV RX2 170 RX1 yX1_wordAt wsX1_wordAt) := goodIn_app (goodIn_of _ (by decide +kernel)) ggX2_wordOf_X1_wordAt
set_option maxRecDepth 20000 in
theorem ggX2_wordOf_X0_firstWord : GoodIn wsX2_wordOf wsX0_firstWord := goodIn_r _ [13, 14, 15, 16, 12, 17, 18, 19, 20, 21, 22, 23, 24, 4, 5, 6, 7, 8, 36, 37, 38, 39, 40, 30, 31, 32, 33, 34, 35] (by decide +kernel) (by decide +kernel)
set_option maxRecDepth 20000 in
theorem gX2_wordOf_X0_firstWord : GoodIn wsX2_wordOf (wsV RX2 173 RX0 yX0_firstWord wsX0_firstWord) := goodIn_app (goodIn_of _ (by decide +kernel)) ggX2_wordOf_X0_firstWord
theorem dX2_wordOf_0 : decode cX2_wordOf 0 = .ok (.aload_n 0, 1) := by decide +kernel
theorem dX2_wordOf_1 : decode cX2_wordOf 1 = .ok (.getfield 10, 3) := by decide +kernel
theorem dX2_wordOf_4 : decode cX2_wordOf 4 = .ok (.iload_n 1, 1) := by decide +kernel
theorem dX2_wordOf_5 : decode cX2_wordOf 5 = .ok (.invokevirtual 170, 3) := by decide +kernel
theorem dX2_wordOf_8 : decode cX2_wordOf 8 = .ok (.istore_n 2, 1) := by decide +kernel
theorem dX2_wordOf_9 : decode cX2_wordOf 9 = .ok (.iload_n 2, 1) := by decide +kernel
theorem dX2_wordOf_10 : decode cX2_wordOf 10 = .ok (.bipush (-2), 2) := by decide +kernel
theorem dX2_wordOf_12 : decode cX2_wordOf 12 = .ok (.if_icmp .ne 12, 3) := by decide +kernel
theorem dX2_wordOf_15 : decode cX2_wordOf 15 = .ok (.aload_n 0, 1) := by decide +kernel
theorem dX2_wordOf_16 : decode cX2_wordOf 16 = .ok (.getfield 19, 3) := by decide +kernel
theorem dX2_wordOf_19 : decode cX2_wordOf 19 = .ok (.iload_n 1, 1) := by decide +kernel
theorem dX2_wordOf_20 : decode cX2_wordOf 20 = .ok (.invokevirtual 173, 3) := by decide +kernel
theorem dX2_wordOf_23 : decode cX2_wordOf 23 = .ok (.istore_n 2, 1) := by decide +kernel
theorem dX2_wordOf_24 : decode cX2_wordOf 24 = .ok (.iload_n 2, 1) := by decide +kernel
theorem dX2_wordOf_25 : decode cX2_wordOf 25 = .ok (.ifCond .ge 7, 3) := by decide +kernel
theorem dX2_wordOf_28 : decode cX2_wordOf 28 = .ok (.iconst (-1), 1) := by decide +kernel
theorem dX2_wordOf_29 : decode cX2_wordOf 29 = .ok (.goto 4, 3) := by decide +kernel
theorem dX2_wordOf_32 : decode cX2_wordOf 32 = .ok (.iload_n 2, 1) := by decide +kernel
theorem dX2_wordOf_33 : decode cX2_wordOf 33 = .ok (.ireturn, 1) := by decide +kernel
set_option maxRecDepth 20000 in
theorem ggX2_detoursIn_X1_has : GoodIn wsX2_detoursIn wsX1_has := goodIn_r _ [6, 7, 8, 9, 5, 10, 11, 40, 41, 42, 43, 44, 45] (by decide +kernel) (by decide +kernel)
set_option maxRecDepth 20000 in
theorem gX2_detoursIn_X1_has : GoodIn wsX2_detoursIn (wsV RX2 176 RX1 yX1_has wsX1_has) := goodIn_app (goodIn_of _ (by decide +kernel)) ggX2_detoursIn_X1_has
set_option maxRecDepth 20000 in
theorem ggX2_detoursIn_X0_detoursTo : GoodIn wsX2_detoursIn wsX0_detoursTo := goodIn_r _ [16, 17, 18, 19, 15, 20, 21, 22, 23, 24, 25, 26, 27, 28, 29, 5, 30, 31, 32, 33, 34, 3, 4, 6, 7, 8, 9, 10, 11, 46, 47, 48, 49, 50, 40, 41, 42, 43, 44, 45] (by decide +kernel) (by decide +kernel)
set_option maxRecDepth 20000 in
theorem gX2_detoursIn_X0_detoursTo : GoodIn wsX2_detoursIn (wsV RX2 180 RX0 yX0_detoursTo wsX0_detoursTo) := goodIn_app (goodIn_of _ (by decide +kernel)) ggX2_detoursIn_X0_detoursTo
theorem dX2_detoursIn_0 : decode cX2_detoursIn 0 = .ok (.aload_n 0, 1) := by decide +kernel
theorem dX2_detoursIn_1 : decode cX2_detoursIn 1 = .ok (.getfield 10, 3) := by decide +kernel
theorem dX2_detoursIn_4 : decode cX2_detoursIn 4 = .ok (.iload_n 2, 1) := by decide +kernel
theorem dX2_detoursIn_5 : decode cX2_detoursIn 5 = .ok (.invokevirtual 176, 3) := by decide +kernel
theorem dX2_detoursIn_8 : decode cX2_detoursIn 8 = .ok (.ifCond .eq 7, 3) := by decide +kernel
theorem dX2_detoursIn_11 : decode cX2_detoursIn 11 = .ok (.iconst 0, 1) := by decide +kernel
theorem dX2_detoursIn_12 : decode cX2_detoursIn 12 = .ok (.goto 8, 3) := by decide +kernel
theorem dX2_detoursIn_15 : decode cX2_detoursIn 15 = .ok (.aload_n 1, 1) := by decide +kernel
theorem dX2_detoursIn_16 : decode cX2_detoursIn 16 = .ok (.iload_n 2, 1) := by decide +kernel
theorem dX2_detoursIn_17 : decode cX2_detoursIn 17 = .ok (.invokevirtual 180, 3) := by decide +kernel
theorem dX2_detoursIn_20 : decode cX2_detoursIn 20 = .ok (.ireturn, 1) := by decide +kernel
set_option maxRecDepth 20000 in
theorem ggX2_allDetoursIn_X2_detoursIn : GoodIn wsX2_allDetoursIn wsX2_detoursIn := goodIn_r _ [5, 6, 7, 8, 9, 10, 11, 12, 13, 14, 15, 16, 17, 18, 19, 20, 21, 22, 23, 24, 25, 26, 27, 28, 29, 30, 31, 32, 33, 34, 35, 36, 37, 38, 39, 40, 41, 42, 43, 44, 45, 46, 47, 48, 49, 50, 51, 52, 53, 54, 55] (by decide +kernel) (by decide +kernel)
set_option maxRecDepth 20000 in
theorem gX2_allDetoursIn_X2_detoursIn : GoodIn wsX2_allDetoursIn (wsV RX2 75 RX2 yX2_detoursIn wsX2_detoursIn) := goodIn_app (goodIn_of _ (by decide +kernel)) ggX2_allDetoursIn_X2_detoursIn
theorem dX2_allDetoursIn_0 : decode cX2_allDetoursIn 0 = .ok (.iconst 0, 1) := by decide +kernel
theorem dX2_allDetoursIn_1 : decode cX2_allDetoursIn 1 = .ok (.istore_n 2, 1) := by decide +kernel
theorem dX2_allDetoursIn_2 : decode cX2_allDetoursIn 2 = .ok (.iconst 0, 1) := by decide +kernel
theorem dX2_allDetoursIn_3 : decode cX2_allDetoursIn 3 = .ok (.istore_n 3, 1) := by decide +kernel
theorem dX2_allDetoursIn_4 : decode cX2_allDetoursIn 4 = .ok (.iload_n 3, 1) := by decide +kernel
theorem dX2_allDetoursIn_5 : decode cX2_allDetoursIn 5 = .ok (.bipush 64, 2) := by decide +kernel
theorem dX2_allDetoursIn_7 : decode cX2_allDetoursIn 7 = .ok (.if_icmp .ge 18, 3) := by decide +kernel
theorem dX2_allDetoursIn_10 : decode cX2_allDetoursIn 10 = .ok (.iload_n 2, 1) := by decide +kernel
theorem dX2_allDetoursIn_11 : decode cX2_allDetoursIn 11 = .ok (.aload_n 0, 1) := by decide +kernel
theorem dX2_allDetoursIn_12 : decode cX2_allDetoursIn 12 = .ok (.aload_n 1, 1) := by decide +kernel
theorem dX2_allDetoursIn_13 : decode cX2_allDetoursIn 13 = .ok (.iload_n 3, 1) := by decide +kernel
theorem dX2_allDetoursIn_14 : decode cX2_allDetoursIn 14 = .ok (.invokevirtual 75, 3) := by decide +kernel
theorem dX2_allDetoursIn_17 : decode cX2_allDetoursIn 17 = .ok (.iadd, 1) := by decide +kernel
theorem dX2_allDetoursIn_18 : decode cX2_allDetoursIn 18 = .ok (.istore_n 2, 1) := by decide +kernel
theorem dX2_allDetoursIn_19 : decode cX2_allDetoursIn 19 = .ok (.iinc 3 1, 3) := by decide +kernel
theorem dX2_allDetoursIn_22 : decode cX2_allDetoursIn 22 = .ok (.goto (-18), 3) := by decide +kernel
theorem dX2_allDetoursIn_25 : decode cX2_allDetoursIn 25 = .ok (.iload_n 2, 1) := by decide +kernel
theorem dX2_allDetoursIn_26 : decode cX2_allDetoursIn 26 = .ok (.ireturn, 1) := by decide +kernel
set_option maxRecDepth 20000 in
theorem ggX2_standingIn_X1_has : GoodIn wsX2_standingIn wsX1_has := goodIn_r _ [7, 8, 9, 10, 6, 11, 12, 35, 36, 37, 38, 39, 40] (by decide +kernel) (by decide +kernel)
set_option maxRecDepth 20000 in
theorem gX2_standingIn_X1_has : GoodIn wsX2_standingIn (wsV RX2 176 RX1 yX1_has wsX1_has) := goodIn_app (goodIn_of _ (by decide +kernel)) ggX2_standingIn_X1_has
set_option maxRecDepth 20000 in
theorem ggX2_standingIn_X0_isFirst : GoodIn wsX2_standingIn wsX0_isFirst := goodIn_r _ [17, 18, 19, 20, 16, 21, 22, 23, 24, 25, 26, 27, 28, 9, 10, 6, 11, 12, 29, 4, 5, 7, 8, 41, 42, 43, 44, 45, 35, 36, 37, 38, 39, 40] (by decide +kernel) (by decide +kernel)
set_option maxRecDepth 20000 in
theorem gX2_standingIn_X0_isFirst : GoodIn wsX2_standingIn (wsV RX2 183 RX0 yX0_isFirst wsX0_isFirst) := goodIn_app (goodIn_of _ (by decide +kernel)) ggX2_standingIn_X0_isFirst
theorem dX2_standingIn_0 : decode cX2_standingIn 0 = .ok (.iconst 0, 1) := by decide +kernel
theorem dX2_standingIn_1 : decode cX2_standingIn 1 = .ok (.istore_n 3, 1) := by decide +kernel
theorem dX2_standingIn_2 : decode cX2_standingIn 2 = .ok (.iconst 0, 1) := by decide +kernel
theorem dX2_standingIn_3 : decode cX2_standingIn 3 = .ok (.istore 4, 2) := by decide +kernel
theorem dX2_standingIn_5 : decode cX2_standingIn 5 = .ok (.iload 4, 2) := by decide +kernel
theorem dX2_standingIn_7 : decode cX2_standingIn 7 = .ok (.bipush 64, 2) := by decide +kernel
theorem dX2_standingIn_9 : decode cX2_standingIn 9 = .ok (.if_icmp .ge 38, 3) := by decide +kernel
theorem dX2_standingIn_12 : decode cX2_standingIn 12 = .ok (.aload_n 0, 1) := by decide +kernel
theorem dX2_standingIn_13 : decode cX2_standingIn 13 = .ok (.getfield 10, 3) := by decide +kernel
theorem dX2_standingIn_16 : decode cX2_standingIn 16 = .ok (.iload 4, 2) := by decide +kernel
theorem dX2_standingIn_18 : decode cX2_standingIn 18 = .ok (.invokevirtual 176, 3) := by decide +kernel
theorem dX2_standingIn_21 : decode cX2_standingIn 21 = .ok (.ifCond .ne 20, 3) := by decide +kernel
theorem dX2_standingIn_24 : decode cX2_standingIn 24 = .ok (.aload_n 0, 1) := by decide +kernel
theorem dX2_standingIn_25 : decode cX2_standingIn 25 = .ok (.getfield 19, 3) := by decide +kernel
theorem dX2_standingIn_28 : decode cX2_standingIn 28 = .ok (.iload_n 1, 1) := by decide +kernel
theorem dX2_standingIn_29 : decode cX2_standingIn 29 = .ok (.iload_n 2, 1) := by decide +kernel
theorem dX2_standingIn_30 : decode cX2_standingIn 30 = .ok (.iload 4, 2) := by decide +kernel
theorem dX2_standingIn_32 : decode cX2_standingIn 32 = .ok (.invokevirtual 183, 3) := by decide +kernel
theorem dX2_standingIn_35 : decode cX2_standingIn 35 = .ok (.ifCond .eq 6, 3) := by decide +kernel
theorem dX2_standingIn_38 : decode cX2_standingIn 38 = .ok (.iinc 3 1, 3) := by decide +kernel
theorem dX2_standingIn_41 : decode cX2_standingIn 41 = .ok (.iinc 4 1, 3) := by decide +kernel
theorem dX2_standingIn_44 : decode cX2_standingIn 44 = .ok (.goto (-39), 3) := by decide +kernel
theorem dX2_standingIn_47 : decode cX2_standingIn 47 = .ok (.iload_n 3, 1) := by decide +kernel
theorem dX2_standingIn_48 : decode cX2_standingIn 48 = .ok (.ireturn, 1) := by decide +kernel
set_option maxRecDepth 20000 in
theorem ggX2_wordsStanding_X2_wordOf : GoodIn wsX2_wordsStanding wsX2_wordOf := goodIn_r _ [5, 6, 7, 8, 9, 10, 11, 12, 13, 14, 15, 16, 17, 18, 19, 20, 21, 22, 23, 24, 25, 26, 27, 28, 29, 30, 31, 32, 33, 34, 35, 36, 37, 38, 39, 40, 41, 42, 43, 44, 45] (by decide +kernel) (by decide +kernel)
set_option maxRecDepth 20000 in
theorem gX2_wordsStanding_X2_wordOf : GoodIn wsX2_wordsStanding (wsV RX2 79 RX2 yX2_wordOf wsX2_wordOf) := goodIn_app (goodIn_of _ (by decide +kernel)) ggX2_wordsStanding_X2_wordOf
theorem dX2_wordsStanding_0 : decode cX2_wordsStanding 0 = .ok (.iconst 0, 1) := by decide +kernel
theorem dX2_wordsStanding_1 : decode cX2_wordsStanding 1 = .ok (.istore_n 1, 1) := by decide +kernel
theorem dX2_wordsStanding_2 : decode cX2_wordsStanding 2 = .ok (.iconst 0, 1) := by decide +kernel
theorem dX2_wordsStanding_3 : decode cX2_wordsStanding 3 = .ok (.istore_n 2, 1) := by decide +kernel
theorem dX2_wordsStanding_4 : decode cX2_wordsStanding 4 = .ok (.iload_n 2, 1) := by decide +kernel
theorem dX2_wordsStanding_5 : decode cX2_wordsStanding 5 = .ok (.bipush 64, 2) := by decide +kernel
theorem dX2_wordsStanding_7 : decode cX2_wordsStanding 7 = .ok (.if_icmp .ge 20, 3) := by decide +kernel
theorem dX2_wordsStanding_10 : decode cX2_wordsStanding 10 = .ok (.aload_n 0, 1) := by decide +kernel
theorem dX2_wordsStanding_11 : decode cX2_wordsStanding 11 = .ok (.iload_n 2, 1) := by decide +kernel
theorem dX2_wordsStanding_12 : decode cX2_wordsStanding 12 = .ok (.invokevirtual 79, 3) := by decide +kernel
theorem dX2_wordsStanding_15 : decode cX2_wordsStanding 15 = .ok (.ifCond .lt 6, 3) := by decide +kernel
theorem dX2_wordsStanding_18 : decode cX2_wordsStanding 18 = .ok (.iinc 1 1, 3) := by decide +kernel
theorem dX2_wordsStanding_21 : decode cX2_wordsStanding 21 = .ok (.iinc 2 1, 3) := by decide +kernel
theorem dX2_wordsStanding_24 : decode cX2_wordsStanding 24 = .ok (.goto (-20), 3) := by decide +kernel
theorem dX2_wordsStanding_27 : decode cX2_wordsStanding 27 = .ok (.iload_n 1, 1) := by decide +kernel
theorem dX2_wordsStanding_28 : decode cX2_wordsStanding 28 = .ok (.ireturn, 1) := by decide +kernel
set_option maxRecDepth 20000 in
theorem ggX2_tally_X1_size : GoodIn wsX2_tally wsX1_size := goodIn_r _ [9, 10, 69, 70, 71, 72, 73, 74] (by decide +kernel) (by decide +kernel)
set_option maxRecDepth 20000 in
theorem gX2_tally_X1_size : GoodIn wsX2_tally (wsV RX2 160 RX1 yX1_size wsX1_size) := goodIn_app (goodIn_of _ (by decide +kernel)) ggX2_tally_X1_size
set_option maxRecDepth 20000 in
theorem ggX2_tally_X0_slips : GoodIn wsX2_tally wsX0_slips := goodIn_r _ [15, 16, 17, 18, 14, 19, 20, 21, 22, 23, 24, 25, 26, 27, 28, 29, 30, 6, 7, 8, 9, 10, 75, 76, 77, 78, 79, 69, 70, 71, 72, 73, 74] (by decide +kernel) (by decide +kernel)
set_option maxRecDepth 20000 in
theorem gX2_tally_X0_slips : GoodIn wsX2_tally (wsV RX2 127 RX0 yX0_slips wsX0_slips) := goodIn_app (goodIn_of _ (by decide +kernel)) ggX2_tally_X0_slips
set_option maxRecDepth 20000 in
theorem ggX2_tally_X2_wordsStanding : GoodIn wsX2_tally wsX2_wordsStanding := goodIn_r _ [35, 36, 37, 38, 34, 39, 1, 3, 40, 41, 42, 8, 43, 44, 45, 46, 47, 14, 48, 49, 50, 51, 52, 25, 26, 27, 28, 24, 29, 53, 64, 65, 66, 67, 68, 69, 70, 71, 72, 73, 74, 75, 76, 77, 78, 79] (by decide +kernel) (by decide +kernel)
set_option maxRecDepth 20000 in
theorem gX2_tally_X2_wordsStanding : GoodIn wsX2_tally (wsV RX2 187 RX2 yX2_wordsStanding wsX2_wordsStanding) := goodIn_app (goodIn_of _ (by decide +kernel)) ggX2_tally_X2_wordsStanding
set_option maxRecDepth 20000 in
theorem ggX2_tally_X0_moves : GoodIn wsX2_tally wsX0_moves := goodIn_r _ [57, 58, 75, 76, 77, 78, 79] (by decide +kernel) (by decide +kernel)
set_option maxRecDepth 20000 in
theorem gX2_tally_X0_moves : GoodIn wsX2_tally (wsV RX2 63 RX0 yX0_moves wsX0_moves) := goodIn_app (goodIn_of _ (by decide +kernel)) ggX2_tally_X0_moves
set_option maxRecDepth 20000 in
theorem ggX2_tally_X0_mergings : GoodIn wsX2_tally wsX0_mergings := goodIn_r _ [62, 63, 75, 76, 77, 78, 79] (by decide +kernel) (by decide +kernel)
set_option maxRecDepth 20000 in
theorem gX2_tally_X0_mergings : GoodIn wsX2_tally (wsV RX2 190 RX0 yX0_mergings wsX0_mergings) := goodIn_app (goodIn_of _ (by decide +kernel)) ggX2_tally_X0_mergings
theorem dX2_tally_0 : decode cX2_tally 0 = .ok (.iload_n 1, 1) := by decide +kernel
theorem dX2_tally_1 : decode cX2_tally 1 = .ok (.tableswitch 78 0 5 #[39, 47, 52, 60, 65, 73], 39) := by decide +kernel
theorem dX2_tally_40 : decode cX2_tally 40 = .ok (.aload_n 0, 1) := by decide +kernel
theorem dX2_tally_41 : decode cX2_tally 41 = .ok (.getfield 10, 3) := by decide +kernel
theorem dX2_tally_44 : decode cX2_tally 44 = .ok (.invokevirtual 160, 3) := by decide +kernel
theorem dX2_tally_47 : decode cX2_tally 47 = .ok (.ireturn, 1) := by decide +kernel
theorem dX2_tally_48 : decode cX2_tally 48 = .ok (.aload_n 0, 1) := by decide +kernel
theorem dX2_tally_49 : decode cX2_tally 49 = .ok (.getfield 26, 3) := by decide +kernel
theorem dX2_tally_52 : decode cX2_tally 52 = .ok (.ireturn, 1) := by decide +kernel
theorem dX2_tally_53 : decode cX2_tally 53 = .ok (.aload_n 0, 1) := by decide +kernel
theorem dX2_tally_54 : decode cX2_tally 54 = .ok (.getfield 19, 3) := by decide +kernel
theorem dX2_tally_57 : decode cX2_tally 57 = .ok (.invokevirtual 127, 3) := by decide +kernel
theorem dX2_tally_60 : decode cX2_tally 60 = .ok (.ireturn, 1) := by decide +kernel
theorem dX2_tally_61 : decode cX2_tally 61 = .ok (.aload_n 0, 1) := by decide +kernel
theorem dX2_tally_62 : decode cX2_tally 62 = .ok (.invokevirtual 187, 3) := by decide +kernel
theorem dX2_tally_65 : decode cX2_tally 65 = .ok (.ireturn, 1) := by decide +kernel
theorem dX2_tally_66 : decode cX2_tally 66 = .ok (.aload_n 0, 1) := by decide +kernel
theorem dX2_tally_67 : decode cX2_tally 67 = .ok (.getfield 19, 3) := by decide +kernel
theorem dX2_tally_70 : decode cX2_tally 70 = .ok (.invokevirtual 63, 3) := by decide +kernel
theorem dX2_tally_73 : decode cX2_tally 73 = .ok (.ireturn, 1) := by decide +kernel
theorem dX2_tally_74 : decode cX2_tally 74 = .ok (.aload_n 0, 1) := by decide +kernel
theorem dX2_tally_75 : decode cX2_tally 75 = .ok (.getfield 30, 3) := by decide +kernel
theorem dX2_tally_78 : decode cX2_tally 78 = .ok (.ireturn, 1) := by decide +kernel
theorem dX2_tally_79 : decode cX2_tally 79 = .ok (.aload_n 0, 1) := by decide +kernel
theorem dX2_tally_80 : decode cX2_tally 80 = .ok (.getfield 19, 3) := by decide +kernel
theorem dX2_tally_83 : decode cX2_tally 83 = .ok (.invokevirtual 190, 3) := by decide +kernel
theorem dX2_tally_86 : decode cX2_tally 86 = .ok (.ireturn, 1) := by decide +kernel
set_option maxRecDepth 20000 in
theorem ggX2_tryMerging_X0_copyRuns : GoodIn wsX2_tryMerging wsX0_copyRuns := goodIn_r _ [7, 8, 9, 10, 11, 6, 12, 13, 14, 15, 16, 17, 18, 19, 20, 21, 22, 23, 24, 25, 26, 27, 28, 98, 99, 100, 101, 102, 103, 104, 105, 106, 107, 108] (by decide +kernel) (by decide +kernel)
set_option maxRecDepth 20000 in
theorem gX2_tryMerging_X0_copyRuns : GoodIn wsX2_tryMerging (wsV RX2 193 RX0 yX0_copyRuns wsX0_copyRuns) := goodIn_app (goodIn_of _ (by decide +kernel)) ggX2_tryMerging_X0_copyRuns
set_option maxRecDepth 20000 in
theorem ggX2_tryMerging_X0_mergeLevel : GoodIn wsX2_tryMerging wsX0_mergeLevel := goodIn_r _ [32, 8, 33, 34, 35, 36, 37, 38, 39, 40, 41, 6, 42, 43, 44, 45, 46, 47, 48, 49, 50, 51, 52, 53, 17, 54, 19, 24, 25, 26, 27, 28, 55, 56, 57, 58, 59, 60, 61, 62, 63, 64, 65, 66, 13, 67, 68, 69, 70, 71, 72, 73, 74, 75, 76, 77, 78, 79, 80, 81, 82, 83, 9, 10, 11, 12, 84, 85, 86, 87, 14, 15, 16, 18, 20, 21, 22, 23, 98, 99, 100, 101, 102, 103, 104, 105, 106, 107, 108] (by decide +kernel) (by decide +kernel)
set_option maxRecDepth 20000 in
theorem gX2_tryMerging_X0_mergeLevel : GoodIn wsX2_tryMerging (wsV RX2 67 RX0 yX0_mergeLevel wsX0_mergeLevel) := goodIn_app (goodIn_of _ (by decide +kernel)) ggX2_tryMerging_X0_mergeLevel
set_option maxRecDepth 20000 in
theorem ggX2_tryMerging_X0_settle : GoodIn wsX2_tryMerging wsX0_settle := goodIn_r _ [91, 43, 44, 45, 6, 46, 8, 92, 30, 31, 32, 33, 34, 35, 36, 37, 38, 39, 40, 41, 42, 47, 48, 49, 50, 51, 52, 53, 17, 54, 19, 24, 25, 26, 27, 28, 55, 56, 57, 58, 59, 60, 61, 62, 63, 64, 65, 66, 13, 67, 68, 69, 70, 71, 72, 73, 74, 75, 76, 77, 78, 79, 80, 81, 82, 83, 9, 10, 11, 12, 84, 85, 86, 87, 14, 15, 16, 18, 20, 21, 22, 23, 98, 99, 100, 101, 102, 103, 104, 105, 106, 107, 108] (by decide +kernel) (by decide +kernel)
set_option maxRecDepth 20000 in
theorem gX2_tryMerging_X0_settle : GoodIn wsX2_tryMerging (wsV RX2 70 RX0 yX0_settle wsX0_settle) := goodIn_app (goodIn_of _ (by decide +kernel)) ggX2_tryMerging_X0_settle
theorem dX2_tryMerging_0 : decode cX2_tryMerging 0 = .ok (.aload_n 0, 1) := by decide +kernel
theorem dX2_tryMerging_1 : decode cX2_tryMerging 1 = .ok (.getfield 23, 3) := by decide +kernel
theorem dX2_tryMerging_4 : decode cX2_tryMerging 4 = .ok (.aload_n 0, 1) := by decide +kernel
theorem dX2_tryMerging_5 : decode cX2_tryMerging 5 = .ok (.getfield 19, 3) := by decide +kernel
theorem dX2_tryMerging_8 : decode cX2_tryMerging 8 = .ok (.invokevirtual 193, 3) := by decide +kernel
theorem dX2_tryMerging_11 : decode cX2_tryMerging 11 = .ok (.aload_n 0, 1) := by decide +kernel
theorem dX2_tryMerging_12 : decode cX2_tryMerging 12 = .ok (.getfield 23, 3) := by decide +kernel
theorem dX2_tryMerging_15 : decode cX2_tryMerging 15 = .ok (.iload_n 1, 1) := by decide +kernel
theorem dX2_tryMerging_16 : decode cX2_tryMerging 16 = .ok (.invokevirtual 67, 3) := by decide +kernel
theorem dX2_tryMerging_19 : decode cX2_tryMerging 19 = .ok (.aload_n 0, 1) := by decide +kernel
theorem dX2_tryMerging_20 : decode cX2_tryMerging 20 = .ok (.getfield 23, 3) := by decide +kernel
theorem dX2_tryMerging_23 : decode cX2_tryMerging 23 = .ok (.invokevirtual 70, 3) := by decide +kernel
theorem dX2_tryMerging_26 : decode cX2_tryMerging 26 = .ok (.return_, 1) := by decide +kernel
set_option maxRecDepth 20000 in
theorem ggX2_digestLevel_X0_runsOf : GoodIn wsX2_digestLevel wsX0_runsOf := goodIn_r _ [7, 8, 62, 63, 64, 65, 66] (by decide +kernel) (by decide +kernel)
set_option maxRecDepth 20000 in
theorem gX2_digestLevel_X0_runsOf : GoodIn wsX2_digestLevel (wsV RX2 55 RX0 yX0_runsOf wsX0_runsOf) := goodIn_app (goodIn_of _ (by decide +kernel)) ggX2_digestLevel_X0_runsOf
set_option maxRecDepth 20000 in
theorem ggX2_digestLevel_X0_runAt : GoodIn wsX2_digestLevel wsX0_runAt := goodIn_r _ [12, 8, 13, 62, 63, 64, 65, 66] (by decide +kernel) (by decide +kernel)
set_option maxRecDepth 20000 in
theorem gX2_digestLevel_X0_runAt : GoodIn wsX2_digestLevel (wsV RX2 90 RX0 yX0_runAt wsX0_runAt) := goodIn_app (goodIn_of _ (by decide +kernel)) ggX2_digestLevel_X0_runAt
set_option maxRecDepth 20000 in
theorem ggX2_digestLevel_X2_standingIn : GoodIn wsX2_digestLevel wsX2_standingIn := goodIn_r _ [18, 19, 1, 20, 21, 22, 23, 24, 25, 26, 27, 28, 29, 30, 31, 32, 6, 33, 34, 35, 36, 37, 38, 10, 11, 12, 8, 13, 39, 40, 57, 58, 59, 60, 61, 67, 68, 69, 70, 71, 72, 62, 63, 64, 65, 66] (by decide +kernel) (by decide +kernel)
set_option maxRecDepth 20000 in
theorem gX2_digestLevel_X2_standingIn : GoodIn wsX2_digestLevel (wsV RX2 101 RX2 yX2_standingIn wsX2_standingIn) := goodIn_app (goodIn_of _ (by decide +kernel)) ggX2_digestLevel_X2_standingIn
set_option maxRecDepth 20000 in
theorem ggX2_digestLevel_X1_fact : GoodIn wsX2_digestLevel wsX1_fact := goodIn_r _ [44, 45, 46, 47, 48, 49, 67, 68, 69, 70, 71, 72] (by decide +kernel) (by decide +kernel)
set_option maxRecDepth 20000 in
theorem gX2_digestLevel_X1_fact : GoodIn wsX2_digestLevel (wsV RX2 104 RX1 yX1_fact wsX1_fact) := goodIn_app (goodIn_of _ (by decide +kernel)) ggX2_digestLevel_X1_fact
set_option maxRecDepth 20000 in
theorem ggX2_digestLevel_X2_digestSlips : GoodIn wsX2_digestLevel wsX2_digestSlips := goodIn_r _ [52, 2, 20, 21, 22, 23, 24, 25, 26, 27, 28, 29, 53, 54, 55, 56, 67, 68, 69, 70, 71, 72] (by decide +kernel) (by decide +kernel)
set_option maxRecDepth 20000 in
theorem gX2_digestLevel_X2_digestSlips : GoodIn wsX2_digestLevel (va_wsS RX2 140 yX2_digestSlips wsX2_digestSlips) := goodIn_app (goodIn_of _ (by decide +kernel)) ggX2_digestLevel_X2_digestSlips
theorem dX2_digestLevel_0 : decode cX2_digestLevel 0 = .ok (.aload_n 0, 1) := by decide +kernel
theorem dX2_digestLevel_1 : decode cX2_digestLevel 1 = .ok (.getfield 19, 3) := by decide +kernel
theorem dX2_digestLevel_4 : decode cX2_digestLevel 4 = .ok (.iload_n 3, 1) := by decide +kernel
theorem dX2_digestLevel_5 : decode cX2_digestLevel 5 = .ok (.invokevirtual 55, 3) := by decide +kernel
theorem dX2_digestLevel_8 : decode cX2_digestLevel 8 = .ok (.istore 4, 2) := by decide +kernel
theorem dX2_digestLevel_10 : decode cX2_digestLevel 10 = .ok (.lload_n 1, 1) := by decide +kernel
theorem dX2_digestLevel_11 : decode cX2_digestLevel 11 = .ok (.ldc2_w 138, 3) := by decide +kernel
theorem dX2_digestLevel_14 : decode cX2_digestLevel 14 = .ok (.lmul, 1) := by decide +kernel
theorem dX2_digestLevel_15 : decode cX2_digestLevel 15 = .ok (.iload 4, 2) := by decide +kernel
theorem dX2_digestLevel_17 : decode cX2_digestLevel 17 = .ok (.i2l, 1) := by decide +kernel
theorem dX2_digestLevel_18 : decode cX2_digestLevel 18 = .ok (.ladd, 1) := by decide +kernel
theorem dX2_digestLevel_19 : decode cX2_digestLevel 19 = .ok (.lstore 5, 2) := by decide +kernel
theorem dX2_digestLevel_21 : decode cX2_digestLevel 21 = .ok (.iconst 0, 1) := by decide +kernel
theorem dX2_digestLevel_22 : decode cX2_digestLevel 22 = .ok (.istore 7, 2) := by decide +kernel
theorem dX2_digestLevel_24 : decode cX2_digestLevel 24 = .ok (.iload 7, 2) := by decide +kernel
theorem dX2_digestLevel_26 : decode cX2_digestLevel 26 = .ok (.iload 4, 2) := by decide +kernel
theorem dX2_digestLevel_28 : decode cX2_digestLevel 28 = .ok (.if_icmp .ge 91, 3) := by decide +kernel
theorem dX2_digestLevel_31 : decode cX2_digestLevel 31 = .ok (.aload_n 0, 1) := by decide +kernel
theorem dX2_digestLevel_32 : decode cX2_digestLevel 32 = .ok (.getfield 19, 3) := by decide +kernel
theorem dX2_digestLevel_35 : decode cX2_digestLevel 35 = .ok (.iload_n 3, 1) := by decide +kernel
theorem dX2_digestLevel_36 : decode cX2_digestLevel 36 = .ok (.iload 7, 2) := by decide +kernel
theorem dX2_digestLevel_38 : decode cX2_digestLevel 38 = .ok (.invokevirtual 90, 3) := by decide +kernel
theorem dX2_digestLevel_41 : decode cX2_digestLevel 41 = .ok (.astore 8, 2) := by decide +kernel
theorem dX2_digestLevel_43 : decode cX2_digestLevel 43 = .ok (.aload 8, 2) := by decide +kernel
theorem dX2_digestLevel_45 : decode cX2_digestLevel 45 = .ok (.ifnonnull 6, 3) := by decide +kernel
theorem dX2_digestLevel_48 : decode cX2_digestLevel 48 = .ok (.goto 65, 3) := by decide +kernel
theorem dX2_digestLevel_51 : decode cX2_digestLevel 51 = .ok (.iconst 0, 1) := by decide +kernel
theorem dX2_digestLevel_52 : decode cX2_digestLevel 52 = .ok (.istore 9, 2) := by decide +kernel
theorem dX2_digestLevel_54 : decode cX2_digestLevel 54 = .ok (.iload 9, 2) := by decide +kernel
theorem dX2_digestLevel_56 : decode cX2_digestLevel 56 = .ok (.bipush 6, 2) := by decide +kernel
theorem dX2_digestLevel_58 : decode cX2_digestLevel 58 = .ok (.if_icmp .ge 46, 3) := by decide +kernel
theorem dX2_digestLevel_61 : decode cX2_digestLevel 61 = .ok (.iload 9, 2) := by decide +kernel
theorem dX2_digestLevel_63 : decode cX2_digestLevel 63 = .ok (.iconst 5, 1) := by decide +kernel
theorem dX2_digestLevel_64 : decode cX2_digestLevel 64 = .ok (.if_icmp .ne 13, 3) := by decide +kernel
theorem dX2_digestLevel_67 : decode cX2_digestLevel 67 = .ok (.aload_n 0, 1) := by decide +kernel
theorem dX2_digestLevel_68 : decode cX2_digestLevel 68 = .ok (.iload_n 3, 1) := by decide +kernel
theorem dX2_digestLevel_69 : decode cX2_digestLevel 69 = .ok (.iload 7, 2) := by decide +kernel
theorem dX2_digestLevel_71 : decode cX2_digestLevel 71 = .ok (.invokevirtual 101, 3) := by decide +kernel
theorem dX2_digestLevel_74 : decode cX2_digestLevel 74 = .ok (.goto 10, 3) := by decide +kernel
theorem dX2_digestLevel_77 : decode cX2_digestLevel 77 = .ok (.aload 8, 2) := by decide +kernel
theorem dX2_digestLevel_79 : decode cX2_digestLevel 79 = .ok (.iload 9, 2) := by decide +kernel
theorem dX2_digestLevel_81 : decode cX2_digestLevel 81 = .ok (.invokevirtual 104, 3) := by decide +kernel
theorem dX2_digestLevel_84 : decode cX2_digestLevel 84 = .ok (.istore 10, 2) := by decide +kernel
theorem dX2_digestLevel_86 : decode cX2_digestLevel 86 = .ok (.lload 5, 2) := by decide +kernel
theorem dX2_digestLevel_88 : decode cX2_digestLevel 88 = .ok (.ldc2_w 138, 3) := by decide +kernel
theorem dX2_digestLevel_91 : decode cX2_digestLevel 91 = .ok (.lmul, 1) := by decide +kernel
theorem dX2_digestLevel_92 : decode cX2_digestLevel 92 = .ok (.iload 10, 2) := by decide +kernel
theorem dX2_digestLevel_94 : decode cX2_digestLevel 94 = .ok (.i2l, 1) := by decide +kernel
theorem dX2_digestLevel_95 : decode cX2_digestLevel 95 = .ok (.ladd, 1) := by decide +kernel
theorem dX2_digestLevel_96 : decode cX2_digestLevel 96 = .ok (.lstore 5, 2) := by decide +kernel
theorem dX2_digestLevel_98 : decode cX2_digestLevel 98 = .ok (.iinc 9 1, 3) := by decide +kernel
theorem dX2_digestLevel_101 : decode cX2_digestLevel 101 = .ok (.goto (-47), 3) := by decide +kernel
theorem dX2_digestLevel_104 : decode cX2_digestLevel 104 = .ok (.lload 5, 2) := by decide +kernel
theorem dX2_digestLevel_106 : decode cX2_digestLevel 106 = .ok (.aload 8, 2) := by decide +kernel
theorem dX2_digestLevel_108 : decode cX2_digestLevel 108 = .ok (.invokestatic 140, 3) := by decide +kernel
theorem dX2_digestLevel_111 : decode cX2_digestLevel 111 = .ok (.lstore 5, 2) := by decide +kernel
theorem dX2_digestLevel_113 : decode cX2_digestLevel 113 = .ok (.iinc 7 1, 3) := by decide +kernel
theorem dX2_digestLevel_116 : decode cX2_digestLevel 116 = .ok (.goto (-92), 3) := by decide +kernel
theorem dX2_digestLevel_119 : decode cX2_digestLevel 119 = .ok (.lload 5, 2) := by decide +kernel
theorem dX2_digestLevel_121 : decode cX2_digestLevel 121 = .ok (.lreturn, 1) := by decide +kernel
set_option maxRecDepth 20000 in
theorem ggX2_digestSlips_X1_has : GoodIn wsX2_digestSlips wsX1_has := goodIn_r _ [6, 7, 8, 9, 5, 10, 11, 16, 17, 18, 19, 20, 21] (by decide +kernel) (by decide +kernel)
set_option maxRecDepth 20000 in
theorem gX2_digestSlips_X1_has : GoodIn wsX2_digestSlips (wsV RX2 176 RX1 yX1_has wsX1_has) := goodIn_app (goodIn_of _ (by decide +kernel)) ggX2_digestSlips_X1_has
set_option maxRecDepth 20000 in
theorem ggX2_digestSlips_X1_told : GoodIn wsX2_digestSlips wsX1_told := goodIn_r _ [15, 7, 8, 9, 5, 10, 11, 16, 17, 18, 19, 20, 21] (by decide +kernel) (by decide +kernel)
set_option maxRecDepth 20000 in
theorem gX2_digestSlips_X1_told : GoodIn wsX2_digestSlips (wsV RX2 157 RX1 yX1_told wsX1_told) := goodIn_app (goodIn_of _ (by decide +kernel)) ggX2_digestSlips_X1_told
theorem dX2_digestSlips_0 : decode cX2_digestSlips 0 = .ok (.lload_n 0, 1) := by decide +kernel
theorem dX2_digestSlips_1 : decode cX2_digestSlips 1 = .ok (.lstore_n 3, 1) := by decide +kernel
theorem dX2_digestSlips_2 : decode cX2_digestSlips 2 = .ok (.iconst 0, 1) := by decide +kernel
theorem dX2_digestSlips_3 : decode cX2_digestSlips 3 = .ok (.istore 5, 2) := by decide +kernel
theorem dX2_digestSlips_5 : decode cX2_digestSlips 5 = .ok (.iload 5, 2) := by decide +kernel
theorem dX2_digestSlips_7 : decode cX2_digestSlips 7 = .ok (.bipush 64, 2) := by decide +kernel
theorem dX2_digestSlips_9 : decode cX2_digestSlips 9 = .ok (.if_icmp .ge 32, 3) := by decide +kernel
theorem dX2_digestSlips_12 : decode cX2_digestSlips 12 = .ok (.aload_n 2, 1) := by decide +kernel
theorem dX2_digestSlips_13 : decode cX2_digestSlips 13 = .ok (.iload 5, 2) := by decide +kernel
theorem dX2_digestSlips_15 : decode cX2_digestSlips 15 = .ok (.invokevirtual 176, 3) := by decide +kernel
theorem dX2_digestSlips_18 : decode cX2_digestSlips 18 = .ok (.ifCond .eq 17, 3) := by decide +kernel
theorem dX2_digestSlips_21 : decode cX2_digestSlips 21 = .ok (.lload_n 3, 1) := by decide +kernel
theorem dX2_digestSlips_22 : decode cX2_digestSlips 22 = .ok (.ldc2_w 138, 3) := by decide +kernel
theorem dX2_digestSlips_25 : decode cX2_digestSlips 25 = .ok (.lmul, 1) := by decide +kernel
theorem dX2_digestSlips_26 : decode cX2_digestSlips 26 = .ok (.aload_n 2, 1) := by decide +kernel
theorem dX2_digestSlips_27 : decode cX2_digestSlips 27 = .ok (.iload 5, 2) := by decide +kernel
theorem dX2_digestSlips_29 : decode cX2_digestSlips 29 = .ok (.invokevirtual 157, 3) := by decide +kernel
theorem dX2_digestSlips_32 : decode cX2_digestSlips 32 = .ok (.i2l, 1) := by decide +kernel
theorem dX2_digestSlips_33 : decode cX2_digestSlips 33 = .ok (.ladd, 1) := by decide +kernel
theorem dX2_digestSlips_34 : decode cX2_digestSlips 34 = .ok (.lstore_n 3, 1) := by decide +kernel
theorem dX2_digestSlips_35 : decode cX2_digestSlips 35 = .ok (.iinc 5 1, 3) := by decide +kernel
theorem dX2_digestSlips_38 : decode cX2_digestSlips 38 = .ok (.goto (-33), 3) := by decide +kernel
theorem dX2_digestSlips_41 : decode cX2_digestSlips 41 = .ok (.lload_n 3, 1) := by decide +kernel
theorem dX2_digestSlips_42 : decode cX2_digestSlips 42 = .ok (.lreturn, 1) := by decide +kernel
end
section
/-! what SlipLevels tells: d the desk's row, n and g the runs -/
def wd0 (d : Row) (n : Nat → Nat) (g : LV) (x : Nat) : Int32 := if d x = -2 then fsA n g x 4 0 else d x
def wdS (d : Row) (n : Nat → Nat) (g : LV) (x : Nat) : Int32 := if 0 ≤ wd0 d n g x then wd0 d n g x else -1
def dtS (d : Row) (n : Nat → Nat) (g : LV) (x : Nat) : Nat := if hasR d x then 0 else dtA n g x 4 0
def allD (d : Row) (n : Nat → Nat) (g : LV) : Nat := snA (dtS d n g) 64
def sdS (d : Row) (n : Nat → Nat) (g : LV) (l r : Nat) : Nat := cntB (fun x => !hasR d x && frA n g l r x) 64
def wnS (d : Row) (n : Nat → Nat) (g : LV) : Nat := cntB (fun x => decide (0 ≤ wdS d n g x)) 64
def dgF (f : Row) (d : Int64) : Nat → Int64
  | 0 => d
  | x + 1 => if hasR f x then dgF f d x * 31 + (toldR f x).toInt64 else dgF f d x
def dgW (fact : Nat → Int32) (d : Int64) : Nat → Int64
  | 0 => d
  | w + 1 => dgW fact d w * 31 + (fact w).toInt64
def fcS (f : Row) (s : Nat) (w : Nat) : Int32 := if w = 5 then nI s else factR f w
def dgR (g : Nat → Row) (s : Nat → Nat) (d : Int64) : Nat → Int64
  | 0 => d
  | r + 1 => dgF (g r) (dgW (fcS (g r) (s r)) (dgR g s d r) 6) 64
def dgL (d : Row) (n : Nat → Nat) (g : LV) (s : Int64) : Nat → Int64
  | 0 => s
  | l + 1 => dgR (g l) (sdS d n g l) (dgL d n g s l * 31 + (nI (n l)).toInt64) (n l)
def tlS (d : Row) (n : Nat → Nat) (g : LV) (rm mv dt mg : Int32) (w : Nat) : Int32 := match w with
  | 0 => nI (szR d)
  | 1 => rm
  | 2 => nI (snA (fun l => snA (fun r => szR (g l r)) (n l)) 4)
  | 3 => nI (wnS d n g)
  | 4 => mv
  | 5 => dt
  | _ => mg
def dgS (d : Row) (n : Nat → Nat) (g : LV) (rm mv dt mg : Int32) : Int64 := dgW (wdS d n g) (dgL d n g (dgF d (dgW (tlS d n g rm mv dt mg) 1493 7) 64) 4) 64
theorem wdS_y {d : Row} {n : Nat → Nat} {g : LV} {x : Nat} (h : 0 ≤ wd0 d n g x) : wd0 d n g x = wdS d n g x := (if_pos h).symm
theorem wdS_n {d : Row} {n : Nat → Nat} {g : LV} {x : Nat} (h : ¬ 0 ≤ wd0 d n g x) : -1 = wdS d n g x := (if_neg h).symm
theorem wd0_y {d : Row} {n : Nat → Nat} {g : LV} {x : Nat} (h : d x = -2) : wd0 d n g x = fsA n g x 4 0 := if_pos h
theorem wd0_n {d : Row} {n : Nat → Nat} {g : LV} {x : Nat} (h : ¬ d x = -2) : wd0 d n g x = d x := if_neg h
theorem dgF_y {f : Row} {d : Int64} {x : Nat} (h : hasR f x = true) : dgF f d (x + 1) = dgF f d x * 31 + (toldR f x).toInt64 := if_pos h
theorem dgF_n {f : Row} {d : Int64} {x : Nat} (h : hasR f x = false) : dgF f d (x + 1) = dgF f d x := if_neg (by rw [h]; decide)
theorem cntB_y {p : Nat → Bool} {n : Nat} (h : p n = true) : cntB p (n + 1) = cntB p n + 1 := by rw [cntB_s, h]; rfl
theorem cntB_n {p : Nat → Bool} {n : Nat} (h : p n = false) : cntB p (n + 1) = cntB p n := by rw [cntB_s, h]; rfl
theorem fcS_5 {f : Row} {s w : Nat} (h : w = 5) : nI s = fcS f s w := (if_pos h).symm
theorem fcS_n {f : Row} {s w : Nat} (h : ¬ w = 5) : factR f w = fcS f s w := (if_neg h).symm
theorem dtA_le {n : Nat → Nat} {g : LV} {x : Nat} (hn : ∀ l, n l ≤ 3) : ∀ m l, dtA n g x m l ≤ 3 * m
  | 0, _ => Nat.zero_le _
  | m + 1, l => by
    have h1 := dtA_le (g := g) (x := x) hn m (l + 1)
    have h2 : ∀ c k r, dtL (g l) x c k r ≤ c + k + 1 := by
      intro c k
      induction k with
      | zero => intro r; show c ≤ _; omega
      | succ k ih =>
        intro r
        have := ih (r + 1)
        rw [dtL_s]
        split
        · split <;> omega
        · omega
    have h3 : ∀ c k r, dtL (g l) x c k r ≤ c + k ∨ dtL (g l) x c k r ≤ k := by
      intro c k
      induction k with
      | zero => intro r; exact Or.inl (Nat.le_refl _)
      | succ k ih =>
        intro r
        have := ih (r + 1)
        rw [dtL_s]
        split
        · split
          · right; omega
          · omega
        · omega
    have h4 := h3 (dtA n g x m (l + 1)) (n l) 0
    have h5 := hn l
    show dtL (g l) x (dtA n g x m (l + 1)) (n l) 0 ≤ _
    omega
theorem allD_le {d : Row} {n : Nat → Nat} {g : LV} (hn : ∀ l, n l ≤ 3) : allD d n g ≤ 64 * 12 :=
  snA_le (fun i _ => by
    unfold dtS
    split
    · omega
    · exact dtA_le hn 4 0)

set_option maxHeartbeats 1000000 in
set_option maxRecDepth 100000 in
theorem c_X2_needNumber (l : Launch) (G : hG) (hp : HP) (x : Nat) (hx6 : x < 64) : hRd l yX2_needNumber wsX2_needNumber 0 0 G hp [.int (nI x)] none := by
  refine Met.ofW (cc := cX2_needNumber) (maxL := 1) (ret := none) (by decide) rfl ?_
  intro p e s m args below meth c s₁ B hml hv
  obtain ⟨rfl, hV0, hK0⟩ := hv
  have hx := B.exec
  have hb := B.bytes
  have hr := B.returns
  have hts := atoms_spec (ws := wsX2_needNumber) B.pre
  have hown : s.vm.findClass RX2 = some m.cls := findClass_of_methodNamed B.named
  have hlocks := B.notSynchronized
  have hF : CallFix p m c cX2_needNumber 1 s [.int (nI x)].toArray wsX2_needNumber RX2 := ⟨hx, hb, hml, hown, hts⟩
  have hl := lv_entry ([.int (nI x)]) (n := 1) (Nat.le_of_ble_eq_true rfl)
  rw [lg_entry_eq]
  generalize (lg_sl ([.int (nI x)]) ++ List.replicate (1 - (lg_sl ([.int (nI x)])).length) Slot.unset).toArray = ls at hl ⊢
  replace hl : lv_has ls 1 [(0, .int (nI x))] := hl
  refine lv_iload_n hx hb dX2_needNumber_0 rfl (lv_at hl 0 rfl) ?_
  refine h_if_lt (a := x) (tgt := 10) hx hb dX2_needNumber_1 (by decide) (by omega) ?_
  refine lv_iload_n hx hb dX2_needNumber_4 rfl (lv_at hl 0 rfl) ?_
  refine lv_bipush (v := nI 64) hx hb dX2_needNumber_5 (by decide) ?_
  refine h_icmp_lt (a := x) (b := 64) (tgt := 20) hx hb dX2_needNumber_7 (by decide) (by omega) (by omega) (fun c_7 => ?_) (fun c_7 => absurd hx6 c_7)
  exact h_vretR hx hb hr hlocks dX2_needNumber_20

set_option maxHeartbeats 1000000 in
set_option maxRecDepth 100000 in
theorem c_X2_needLevel (l : Launch) (G : hG) (hp : HP) (lv : Nat) (hl4 : lv < 4) : hRd l yX2_needLevel wsX2_needLevel 0 0 G hp [.int (nI lv)] none := by
  refine Met.ofW (cc := cX2_needLevel) (maxL := 1) (ret := none) (by decide) rfl ?_
  intro p e s m args below meth c s₁ B hml hv
  obtain ⟨rfl, hV0, hK0⟩ := hv
  have hx := B.exec
  have hb := B.bytes
  have hr := B.returns
  have hts := atoms_spec (ws := wsX2_needLevel) B.pre
  have hown : s.vm.findClass RX2 = some m.cls := findClass_of_methodNamed B.named
  have hlocks := B.notSynchronized
  have hF : CallFix p m c cX2_needLevel 1 s [.int (nI lv)].toArray wsX2_needLevel RX2 := ⟨hx, hb, hml, hown, hts⟩
  have hl := lv_entry ([.int (nI lv)]) (n := 1) (Nat.le_of_ble_eq_true rfl)
  rw [lg_entry_eq]
  generalize (lg_sl ([.int (nI lv)]) ++ List.replicate (1 - (lg_sl ([.int (nI lv)])).length) Slot.unset).toArray = ls at hl ⊢
  replace hl : lv_has ls 1 [(0, .int (nI lv))] := hl
  refine lv_iload_n hx hb dX2_needLevel_0 rfl (lv_at hl 0 rfl) ?_
  refine h_if_lt (a := lv) (tgt := 9) hx hb dX2_needLevel_1 (by decide) (by omega) ?_
  refine lv_iload_n hx hb dX2_needLevel_4 rfl (lv_at hl 0 rfl) ?_
  refine lv_iconst (v := nI 4) hx hb dX2_needLevel_5 (by decide) ?_
  refine h_icmp_lt (a := lv) (b := 4) (tgt := 19) hx hb dX2_needLevel_6 (by decide) (by omega) (by omega) (fun c_6 => ?_) (fun c_6 => absurd hl4 c_6)
  exact h_vretR hx hb hr hlocks dX2_needLevel_19

set_option maxHeartbeats 1000000 in
set_option maxRecDepth 100000 in
theorem c_X2_wordOf (l : Launch) (G : hG) (hp : HP) (ad : Nat → Nat) (S : CS) (hC : cW ad S hp) (x : Nat) (hx6 : x < 64) : hRd l yX2_wordOf wsX2_wordOf 3 70 G hp [.ref (aX ad), .int (nI x)] (some (.int (wdS (sF S 0) (sN S 0) (gC S 0) x))) := by
  refine Met.ofW (cc := cX2_wordOf) (maxL := 3) (ret := (some .int)) (by decide) rfl ?_
  intro p e s m args below meth c s₁ B hml hv
  obtain ⟨rfl, hV0, hK0⟩ := hv
  have hx := B.exec
  have hb := B.bytes
  have hr := B.returns
  have hts := atoms_spec (ws := wsX2_wordOf) B.pre
  have hown : s.vm.findClass RX2 = some m.cls := findClass_of_methodNamed B.named
  have hlocks := B.notSynchronized
  have hF : CallFix p m c cX2_wordOf 3 s [.ref (aX ad), .int (nI x)].toArray wsX2_wordOf RX2 := ⟨hx, hb, hml, hown, hts⟩
  have hw0 := hts (.fieldLink RX2 10 "SlipLevels" "deskSlips" "LSlipLevels$Slips;") (by decide +kernel)
  have hw1 := hts (.fieldLink RX2 19 "SlipLevels" "binder" "LSlipLevels$Binder;") (by decide +kernel)
  have hi2 : ∀ w ∈ u_ws RX2 TX2 5, w ∈ wsX2_wordOf := by
    intro w h
    unfold wsX2_wordOf
    simp only [List.mem_cons, List.mem_append, h, true_or, or_true]
  have hl := lv_entry ([.ref (aX ad), .int (nI x)]) (n := 3) (Nat.le_of_ble_eq_true rfl)
  rw [lg_entry_eq]
  generalize (lg_sl ([.ref (aX ad), .int (nI x)]) ++ List.replicate (3 - (lg_sl ([.ref (aX ad), .int (nI x)])).length) Slot.unset).toArray = ls at hl ⊢
  replace hl : lv_has ls 3 [(0, .ref (aX ad)), (1, .int (nI x))] := hl
  refine lv_aload_n hx hb dX2_wordOf_0 rfl (lv_at hl 0 rfl) ?_
  refine h_get (v := .ref (aS ad 0)) hx hb hts hi2 hown hK0 hV0 hC.xo rfl 0 (by decide) hw0 rfl dX2_wordOf_1 ?_
  refine lv_iload_n hx hb dX2_wordOf_4 rfl (lv_at hl 1 rfl) ?_
  refine h_rdV (As := [.int (nI x)]) (rest := []) hF (c_X1_wordAt l G hp (aS ad 0) (aW ad 0) (sF S 0) (hC.sl (by omega)) x (by omega)) 1 gX2_wordOf_X1_wordAt rfl (by decide +kernel) ⟨Nat.le_of_ble_eq_true rfl, Nat.le_of_ble_eq_true rfl⟩ hK0 hV0 (hC.sl (by omega)).1 rfl rfl rfl hl.1 rfl (Nat.le_of_ble_eq_true rfl) (Nat.le_refl _) (Nat.le_refl _) dX2_wordOf_5 ?_
  refine lv_istore_n (lv' := [(2, .int ((sF S 0) x)), (0, .ref (aX ad)), (1, .int (nI x))]) hx hb dX2_wordOf_8 rfl hl (by decide) rfl (fun ls hl => ?_)
  refine lv_iload_n hx hb dX2_wordOf_9 rfl (lv_at hl 0 rfl) ?_
  refine lv_bipush (v := (-2)) hx hb dX2_wordOf_10 (by decide) ?_
  refine lv_icmp_ne (tgt := 24) hx hb dX2_wordOf_12 (by decide) (fun c_12 => ?_) (fun c_12 => ?_)
  · refine lv_iload_n hx hb dX2_wordOf_24 rfl (lv_at hl 0 rfl) ?_
    refine lv_if_ge (tgt := 32) hx hb dX2_wordOf_25 (by decide) (fun c_25 => ?_) (fun c_25 => ?_)
    · refine lv_iload_n hx hb dX2_wordOf_32 rfl (lv_at hl 0 rfl) ?_
      exact h_iretR hx hb hr hlocks (by rw [← wd0_n (d := sF S 0) (n := sN S 0) (g := gC S 0) c_12] at c_25; rw [← wd0_n (d := sF S 0) (n := sN S 0) (g := gC S 0) c_12]; exact wdS_y c_25) dX2_wordOf_33
    · refine lv_iconst (v := (-1)) hx hb dX2_wordOf_28 (by decide) ?_
      refine lv_goto (tgt := 33) hx hb dX2_wordOf_29 (by decide) ?_
      exact h_iretR hx hb hr hlocks (by rw [← wd0_n (d := sF S 0) (n := sN S 0) (g := gC S 0) c_12] at c_25; exact wdS_n c_25) dX2_wordOf_33
  · refine lv_aload_n hx hb dX2_wordOf_15 rfl (lv_at hl 1 rfl) ?_
    refine h_get (v := .ref (aB ad 0)) hx hb hts hi2 hown hK0 hV0 hC.xo rfl 1 (by decide) hw1 rfl dX2_wordOf_16 ?_
    refine lv_iload_n hx hb dX2_wordOf_19 rfl (lv_at hl 2 rfl) ?_
    refine h_rdV (As := [.int (nI x)]) (rest := []) hF (c_X0_firstWord l G hp ad S hC 0 (by decide) x (by omega)) 1 gX2_wordOf_X0_firstWord rfl (by decide +kernel) ⟨Nat.le_of_ble_eq_true rfl, Nat.le_of_ble_eq_true rfl⟩ hK0 hV0 (hC.bo (by decide)) rfl rfl rfl hl.1 rfl (Nat.le_of_ble_eq_true rfl) (Nat.le_refl _) (Nat.le_refl _) dX2_wordOf_20 ?_
    refine lv_istore_n (lv' := [(2, .int (fsA (sN S 0) (gC S 0) x 4 0)), (0, .ref (aX ad)), (1, .int (nI x))]) hx hb dX2_wordOf_23 rfl hl (by decide) rfl (fun ls hl => ?_)
    refine lv_iload_n hx hb dX2_wordOf_24 rfl (lv_at hl 0 rfl) ?_
    refine lv_if_ge (tgt := 32) hx hb dX2_wordOf_25 (by decide) (fun c_25 => ?_) (fun c_25 => ?_)
    · refine lv_iload_n hx hb dX2_wordOf_32 rfl (lv_at hl 0 rfl) ?_
      exact h_iretR hx hb hr hlocks (by rw [← wd0_y (d := sF S 0) (n := sN S 0) (g := gC S 0) c_12] at c_25; rw [← wd0_y (d := sF S 0) (n := sN S 0) (g := gC S 0) c_12]; exact wdS_y c_25) dX2_wordOf_33
    · refine lv_iconst (v := (-1)) hx hb dX2_wordOf_28 (by decide) ?_
      refine lv_goto (tgt := 33) hx hb dX2_wordOf_29 (by decide) ?_
      exact h_iretR hx hb hr hlocks (by rw [← wd0_y (d := sF S 0) (n := sN S 0) (g := gC S 0) c_12] at c_25; exact wdS_n c_25) dX2_wordOf_33

set_option maxHeartbeats 1000000 in
set_option maxRecDepth 100000 in
theorem c_X2_detoursIn (l : Launch) (G : hG) (hp : HP) (ad : Nat → Nat) (S : CS) (hC : cW ad S hp) (k : Nat) (hk : k < 2) (x : Nat) (hx6 : x < 64) : hRd l yX2_detoursIn wsX2_detoursIn 3 67 G hp [.ref (aX ad), .ref (aB ad k), .int (nI x)] (some (.int (nI (dtS (sF S 0) (sN S k) (gC S k) x)))) := by
  refine Met.ofW (cc := cX2_detoursIn) (maxL := 3) (ret := (some .int)) (by decide) rfl ?_
  intro p e s m args below meth c s₁ B hml hv
  obtain ⟨rfl, hV0, hK0⟩ := hv
  have hx := B.exec
  have hb := B.bytes
  have hr := B.returns
  have hts := atoms_spec (ws := wsX2_detoursIn) B.pre
  have hown : s.vm.findClass RX2 = some m.cls := findClass_of_methodNamed B.named
  have hlocks := B.notSynchronized
  have hF : CallFix p m c cX2_detoursIn 3 s [.ref (aX ad), .ref (aB ad k), .int (nI x)].toArray wsX2_detoursIn RX2 := ⟨hx, hb, hml, hown, hts⟩
  have hw0 := hts (.fieldLink RX2 10 "SlipLevels" "deskSlips" "LSlipLevels$Slips;") (by decide +kernel)
  have hi2 : ∀ w ∈ u_ws RX2 TX2 5, w ∈ wsX2_detoursIn := by
    intro w h
    unfold wsX2_detoursIn
    simp only [List.mem_cons, List.mem_append, h, true_or, or_true]
  have hl := lv_entry ([.ref (aX ad), .ref (aB ad k), .int (nI x)]) (n := 3) (Nat.le_of_ble_eq_true rfl)
  rw [lg_entry_eq]
  generalize (lg_sl ([.ref (aX ad), .ref (aB ad k), .int (nI x)]) ++ List.replicate (3 - (lg_sl ([.ref (aX ad), .ref (aB ad k), .int (nI x)])).length) Slot.unset).toArray = ls at hl ⊢
  replace hl : lv_has ls 3 [(0, .ref (aX ad)), (1, .ref (aB ad k)), (2, .int (nI x))] := hl
  refine lv_aload_n hx hb dX2_detoursIn_0 rfl (lv_at hl 0 rfl) ?_
  refine h_get (v := .ref (aS ad 0)) hx hb hts hi2 hown hK0 hV0 hC.xo rfl 0 (by decide) hw0 rfl dX2_detoursIn_1 ?_
  refine lv_iload_n hx hb dX2_detoursIn_4 rfl (lv_at hl 2 rfl) ?_
  refine h_rdV (As := [.int (nI x)]) (rest := []) hF (c_X1_has l G hp (aS ad 0) (aW ad 0) (sF S 0) (hC.sl (by omega)) x (by omega)) 1 gX2_detoursIn_X1_has rfl (by decide +kernel) ⟨Nat.le_of_ble_eq_true rfl, Nat.le_of_ble_eq_true rfl⟩ hK0 hV0 (hC.sl (by omega)).1 rfl rfl rfl hl.1 rfl (Nat.le_of_ble_eq_true rfl) (Nat.le_refl _) (Nat.le_refl _) dX2_detoursIn_5 ?_
  refine h_if_eqB (tgt := 15) hx hb dX2_detoursIn_8 (by decide) (fun c_8 => ?_) (fun c_8 => ?_)
  · refine lv_aload_n hx hb dX2_detoursIn_15 rfl (lv_at hl 1 rfl) ?_
    refine lv_iload_n hx hb dX2_detoursIn_16 rfl (lv_at hl 2 rfl) ?_
    refine h_rdV (As := [.int (nI x)]) (rest := []) hF (c_X0_detoursTo l G hp ad S hC k hk x (by omega)) 1 gX2_detoursIn_X0_detoursTo rfl (by decide +kernel) ⟨Nat.le_of_ble_eq_true rfl, Nat.le_of_ble_eq_true rfl⟩ hK0 hV0 (hC.bo hk) rfl rfl rfl hl.1 rfl (Nat.le_of_ble_eq_true rfl) (Nat.le_refl _) (Nat.le_refl _) dX2_detoursIn_17 ?_
    exact h_iretR hx hb hr hlocks (by unfold dtS; first | (rw [if_pos c_8]; done) | (rw [if_neg (by rw [c_8]; decide)]; done)) dX2_detoursIn_20
  · refine lv_iconst (v := nI 0) hx hb dX2_detoursIn_11 (by decide) ?_
    refine lv_goto (tgt := 20) hx hb dX2_detoursIn_12 (by decide) ?_
    exact h_iretR hx hb hr hlocks (by unfold dtS; first | (rw [if_pos c_8]; done) | (rw [if_neg (by rw [c_8]; decide)]; done)) dX2_detoursIn_20

set_option maxHeartbeats 1000000 in
set_option maxRecDepth 100000 in
theorem c_X2_allDetoursIn (l : Launch) (G : hG) (hp : HP) (ad : Nat → Nat) (S : CS) (hC : cW ad S hp) (k : Nat) (hk : k < 2) : hRd l yX2_allDetoursIn wsX2_allDetoursIn 4 89 G hp [.ref (aX ad), .ref (aB ad k)] (some (.int (nI (allD (sF S 0) (sN S k) (gC S k))))) := by
  refine Met.ofW (cc := cX2_allDetoursIn) (maxL := 4) (ret := (some .int)) (by decide) rfl ?_
  intro p e s m args below meth c s₁ B hml hv
  obtain ⟨rfl, hV0, hK0⟩ := hv
  have hx := B.exec
  have hb := B.bytes
  have hr := B.returns
  have hts := atoms_spec (ws := wsX2_allDetoursIn) B.pre
  have hown : s.vm.findClass RX2 = some m.cls := findClass_of_methodNamed B.named
  have hlocks := B.notSynchronized
  have hF : CallFix p m c cX2_allDetoursIn 4 s [.ref (aX ad), .ref (aB ad k)].toArray wsX2_allDetoursIn RX2 := ⟨hx, hb, hml, hown, hts⟩
  have hl := lv_entry ([.ref (aX ad), .ref (aB ad k)]) (n := 4) (Nat.le_of_ble_eq_true rfl)
  rw [lg_entry_eq]
  generalize (lg_sl ([.ref (aX ad), .ref (aB ad k)]) ++ List.replicate (4 - (lg_sl ([.ref (aX ad), .ref (aB ad k)])).length) Slot.unset).toArray = ls at hl ⊢
  replace hl : lv_has ls 4 [(0, .ref (aX ad)), (1, .ref (aB ad k))] := hl
  refine lv_iconst (v := nI 0) hx hb dX2_allDetoursIn_0 (by decide) ?_
  refine lv_istore_n (lv' := [(2, .int (nI 0)), (0, .ref (aX ad)), (1, .ref (aB ad k))]) hx hb dX2_allDetoursIn_1 rfl hl (by decide) rfl (fun ls hl => ?_)
  refine lv_iconst (v := nI 0) hx hb dX2_allDetoursIn_2 (by decide) ?_
  refine lv_istore_n (lv' := [(3, .int (nI 0)), (2, .int (nI 0)), (0, .ref (aX ad)), (1, .ref (aB ad k))]) hx hb dX2_allDetoursIn_3 rfl hl (by decide) rfl (fun ls hl => ?_)
  replace hl : lv_has ls 4 [(3, .int (nI 0)), (2, .int (nI (snA (dtS (sF S 0) (sN S k) (gC S k)) 0))), (0, .ref (aX ad)), (1, .ref (aB ad k))] := lv_sub hl [0, 1, 2, 3] rfl
  revert ls
  refine h_loop 64 (fun i => [(3, .int (nI i)), (2, .int (nI (snA (dtS (sF S 0) (sN S k) (gC S k)) i))), (0, .ref (aX ad)), (1, .ref (aB ad k))]) (fun i => True) (fun i hi4 hI4 ih4 ls hl => ?_) 0 (Nat.zero_le _) trivial
  refine lv_iload_n hx hb dX2_allDetoursIn_4 rfl (lv_at hl 0 rfl) ?_
  refine lv_bipush (v := nI 64) hx hb dX2_allDetoursIn_5 (by decide) ?_
  refine h_icmp_ge (a := i) (b := 64) (tgt := 25) hx hb dX2_allDetoursIn_7 (by decide) (by omega) (by omega) (fun c_7 => ?_) (fun c_7 => ?_)
  · refine lv_iload_n hx hb dX2_allDetoursIn_25 rfl (lv_at hl 1 rfl) ?_
    exact h_iretR hx hb hr hlocks (by rw [show i = 64 by omega]; rfl) dX2_allDetoursIn_26
  · refine lv_iload_n hx hb dX2_allDetoursIn_10 rfl (lv_at hl 1 rfl) ?_
    refine lv_aload_n hx hb dX2_allDetoursIn_11 rfl (lv_at hl 2 rfl) ?_
    refine lv_aload_n hx hb dX2_allDetoursIn_12 rfl (lv_at hl 3 rfl) ?_
    refine lv_iload_n hx hb dX2_allDetoursIn_13 rfl (lv_at hl 0 rfl) ?_
    refine h_rdV (As := [.ref (aB ad k), .int (nI i)]) (rest := [.int (nI (snA (dtS (sF S 0) (sN S k) (gC S k)) i))]) hF (c_X2_detoursIn l G hp ad S hC k hk i (by omega)) 2 gX2_allDetoursIn_X2_detoursIn rfl (by decide +kernel) ⟨Nat.le_of_ble_eq_true rfl, Nat.le_of_ble_eq_true rfl⟩ hK0 hV0 hC.xo rfl rfl rfl hl.1 rfl (Nat.le_of_ble_eq_true rfl) (Nat.le_refl _) (Nat.le_refl _) dX2_allDetoursIn_14 ?_
    refine h_iaddN hx hb dX2_allDetoursIn_17 ?_
    refine lv_istore_n (lv' := [(2, .int (nI (snA (dtS (sF S 0) (sN S k) (gC S k)) i + dtS (sF S 0) (sN S k) (gC S k) i))), (3, .int (nI i)), (0, .ref (aX ad)), (1, .ref (aB ad k))]) hx hb dX2_allDetoursIn_18 rfl hl (by decide) rfl (fun ls hl => ?_)
    refine lv_iinc (v := nI (i + 1)) (lv' := [(3, .int (nI (i + 1))), (2, .int (nI (snA (dtS (sF S 0) (sN S k) (gC S k)) i + dtS (sF S 0) (sN S k) (gC S k) i))), (0, .ref (aX ad)), (1, .ref (aB ad k))]) hx hb dX2_allDetoursIn_19 hl (k := 1) rfl (nI_add (i) 1) (by decide) rfl (fun ls hl => ?_)
    refine lv_goto (tgt := 4) hx hb dX2_allDetoursIn_22 (by decide) ?_
    exact ih4 (by omega) trivial ls (lv_sub hl [0, 1, 2, 3] rfl)

set_option maxHeartbeats 1000000 in
set_option maxRecDepth 100000 in
theorem c_X2_standingIn (l : Launch) (G : hG) (hp : HP) (ad : Nat → Nat) (S : CS) (hC : cW ad S hp) (lv r : Nat) (hl4 : lv < 4) (hr0 : r < sN S 0 lv) : hRd l yX2_standingIn wsX2_standingIn 3 72 G hp [.ref (aX ad), .int (nI lv), .int (nI r)] (some (.int (nI (sdS (sF S 0) (sN S 0) (gC S 0) lv r)))) := by
  refine Met.ofW (cc := cX2_standingIn) (maxL := 5) (ret := (some .int)) (by decide) rfl ?_
  intro p e s m args below meth c s₁ B hml hv
  obtain ⟨rfl, hV0, hK0⟩ := hv
  have hx := B.exec
  have hb := B.bytes
  have hr := B.returns
  have hts := atoms_spec (ws := wsX2_standingIn) B.pre
  have hown : s.vm.findClass RX2 = some m.cls := findClass_of_methodNamed B.named
  have hlocks := B.notSynchronized
  have hF : CallFix p m c cX2_standingIn 5 s [.ref (aX ad), .int (nI lv), .int (nI r)].toArray wsX2_standingIn RX2 := ⟨hx, hb, hml, hown, hts⟩
  have hw0 := hts (.fieldLink RX2 10 "SlipLevels" "deskSlips" "LSlipLevels$Slips;") (by decide +kernel)
  have hw1 := hts (.fieldLink RX2 19 "SlipLevels" "binder" "LSlipLevels$Binder;") (by decide +kernel)
  have hi2 : ∀ w ∈ u_ws RX2 TX2 5, w ∈ wsX2_standingIn := by
    intro w h
    unfold wsX2_standingIn
    simp only [List.mem_cons, List.mem_append, h, true_or, or_true]
  have hl := lv_entry ([.ref (aX ad), .int (nI lv), .int (nI r)]) (n := 5) (Nat.le_of_ble_eq_true rfl)
  rw [lg_entry_eq]
  generalize (lg_sl ([.ref (aX ad), .int (nI lv), .int (nI r)]) ++ List.replicate (5 - (lg_sl ([.ref (aX ad), .int (nI lv), .int (nI r)])).length) Slot.unset).toArray = ls at hl ⊢
  replace hl : lv_has ls 5 [(0, .ref (aX ad)), (1, .int (nI lv)), (2, .int (nI r))] := hl
  have hn := hC.ok.2.1 0 lv
  refine lv_iconst (v := nI 0) hx hb dX2_standingIn_0 (by decide) ?_
  refine lv_istore_n (lv' := [(3, .int (nI 0)), (0, .ref (aX ad)), (1, .int (nI lv)), (2, .int (nI r))]) hx hb dX2_standingIn_1 rfl hl (by decide) rfl (fun ls hl => ?_)
  refine lv_iconst (v := nI 0) hx hb dX2_standingIn_2 (by decide) ?_
  refine lv_istore (lv' := [(4, .int (nI 0)), (3, .int (nI 0)), (0, .ref (aX ad)), (1, .int (nI lv)), (2, .int (nI r))]) hx hb dX2_standingIn_3 hl (by decide) rfl (fun ls hl => ?_)
  replace hl : lv_has ls 5 [(4, .int (nI 0)), (3, .int (nI (cntB (fun x => !hasR (sF S 0) x && frA (sN S 0) (gC S 0) lv r x) 0))), (0, .ref (aX ad)), (1, .int (nI lv)), (2, .int (nI r))] := lv_sub hl [0, 1, 2, 3, 4] rfl
  revert ls
  refine h_loop 64 (fun i => [(4, .int (nI i)), (3, .int (nI (cntB (fun x => !hasR (sF S 0) x && frA (sN S 0) (gC S 0) lv r x) i))), (0, .ref (aX ad)), (1, .int (nI lv)), (2, .int (nI r))]) (fun i => True) (fun i hi5 hI5 ih5 ls hl => ?_) 0 (Nat.zero_le _) trivial
  refine lv_iload hx hb dX2_standingIn_5 (lv_at hl 0 rfl) ?_
  refine lv_bipush (v := nI 64) hx hb dX2_standingIn_7 (by decide) ?_
  refine h_icmp_ge (a := i) (b := 64) (tgt := 47) hx hb dX2_standingIn_9 (by decide) (by omega) (by omega) (fun c_9 => ?_) (fun c_9 => ?_)
  · refine lv_iload_n hx hb dX2_standingIn_47 rfl (lv_at hl 1 rfl) ?_
    exact h_iretR hx hb hr hlocks (by rw [show i = 64 by omega]; rfl) dX2_standingIn_48
  · refine lv_aload_n hx hb dX2_standingIn_12 rfl (lv_at hl 2 rfl) ?_
    refine h_get (v := .ref (aS ad 0)) hx hb hts hi2 hown hK0 hV0 hC.xo rfl 0 (by decide) hw0 rfl dX2_standingIn_13 ?_
    refine lv_iload hx hb dX2_standingIn_16 (lv_at hl 0 rfl) ?_
    refine h_rdV (As := [.int (nI i)]) (rest := []) hF (c_X1_has l G hp (aS ad 0) (aW ad 0) (sF S 0) (hC.sl (by omega)) i (by omega)) 1 gX2_standingIn_X1_has rfl (by decide +kernel) ⟨Nat.le_of_ble_eq_true rfl, Nat.le_of_ble_eq_true rfl⟩ hK0 hV0 (hC.sl (by omega)).1 rfl rfl rfl hl.1 rfl (Nat.le_of_ble_eq_true rfl) (Nat.le_refl _) (Nat.le_refl _) dX2_standingIn_18 ?_
    refine h_if_neB (tgt := 41) hx hb dX2_standingIn_21 (by decide) (fun c_21 => ?_) (fun c_21 => ?_)
    · refine lv_iinc (v := nI (i + 1)) (lv' := [(4, .int (nI (i + 1))), (3, .int (nI (cntB (fun x => !hasR (sF S 0) x && frA (sN S 0) (gC S 0) lv r x) i))), (0, .ref (aX ad)), (1, .int (nI lv)), (2, .int (nI r))]) hx hb dX2_standingIn_41 hl (k := 0) rfl (nI_add (i) 1) (by decide) rfl (fun ls hl => ?_)
      refine lv_goto (tgt := 5) hx hb dX2_standingIn_44 (by decide) ?_
      exact ih5 (by omega) trivial ls (by show lv_has ls 5 [(4, .int (nI (i + 1))), (3, .int (nI (cntB (fun x => !hasR (sF S 0) x && frA (sN S 0) (gC S 0) lv r x) (i + 1)))), (0, .ref (aX ad)), (1, .int (nI lv)), (2, .int (nI r))]; rw [cntB_n (p := fun x => !hasR (sF S 0) x && frA (sN S 0) (gC S 0) lv r x) (by show (!hasR (sF S 0) i && frA (sN S 0) (gC S 0) lv r i) = false; rw [c_21]; rfl)]; exact lv_sub hl [0, 1, 2, 3, 4] rfl)
    · refine lv_aload_n hx hb dX2_standingIn_24 rfl (lv_at hl 2 rfl) ?_
      refine h_get (v := .ref (aB ad 0)) hx hb hts hi2 hown hK0 hV0 hC.xo rfl 1 (by decide) hw1 rfl dX2_standingIn_25 ?_
      refine lv_iload_n hx hb dX2_standingIn_28 rfl (lv_at hl 3 rfl) ?_
      refine lv_iload_n hx hb dX2_standingIn_29 rfl (lv_at hl 4 rfl) ?_
      refine lv_iload hx hb dX2_standingIn_30 (lv_at hl 0 rfl) ?_
      refine h_rdV (As := [.int (nI lv), .int (nI r), .int (nI i)]) (rest := []) hF (c_X0_isFirst l G hp ad S hC 0 (by decide) lv r (by omega) (by omega) i (by omega)) 3 gX2_standingIn_X0_isFirst rfl (by decide +kernel) ⟨Nat.le_of_ble_eq_true rfl, Nat.le_of_ble_eq_true rfl⟩ hK0 hV0 (hC.bo (by decide)) rfl rfl rfl hl.1 rfl (Nat.le_of_ble_eq_true rfl) (Nat.le_refl _) (Nat.le_refl _) dX2_standingIn_32 ?_
      refine h_if_eqB (tgt := 41) hx hb dX2_standingIn_35 (by decide) (fun c_35 => ?_) (fun c_35 => ?_)
      · refine lv_iinc (v := nI (i + 1)) (lv' := [(4, .int (nI (i + 1))), (3, .int (nI (cntB (fun x => !hasR (sF S 0) x && frA (sN S 0) (gC S 0) lv r x) i))), (0, .ref (aX ad)), (1, .int (nI lv)), (2, .int (nI r))]) hx hb dX2_standingIn_41 hl (k := 0) rfl (nI_add (i) 1) (by decide) rfl (fun ls hl => ?_)
        refine lv_goto (tgt := 5) hx hb dX2_standingIn_44 (by decide) ?_
        exact ih5 (by omega) trivial ls (by show lv_has ls 5 [(4, .int (nI (i + 1))), (3, .int (nI (cntB (fun x => !hasR (sF S 0) x && frA (sN S 0) (gC S 0) lv r x) (i + 1)))), (0, .ref (aX ad)), (1, .int (nI lv)), (2, .int (nI r))]; rw [cntB_n (p := fun x => !hasR (sF S 0) x && frA (sN S 0) (gC S 0) lv r x) (by show (!hasR (sF S 0) i && frA (sN S 0) (gC S 0) lv r i) = false; rw [c_21, c_35]; rfl)]; exact lv_sub hl [0, 1, 2, 3, 4] rfl)
      · refine lv_iinc (v := nI (cntB (fun x => !hasR (sF S 0) x && frA (sN S 0) (gC S 0) lv r x) i + 1)) (lv' := [(3, .int (nI (cntB (fun x => !hasR (sF S 0) x && frA (sN S 0) (gC S 0) lv r x) i + 1))), (4, .int (nI i)), (0, .ref (aX ad)), (1, .int (nI lv)), (2, .int (nI r))]) hx hb dX2_standingIn_38 hl (k := 1) rfl (nI_add (cntB (fun x => !hasR (sF S 0) x && frA (sN S 0) (gC S 0) lv r x) i) 1) (by decide) rfl (fun ls hl => ?_)
        refine lv_iinc (v := nI (i + 1)) (lv' := [(4, .int (nI (i + 1))), (3, .int (nI (cntB (fun x => !hasR (sF S 0) x && frA (sN S 0) (gC S 0) lv r x) i + 1))), (0, .ref (aX ad)), (1, .int (nI lv)), (2, .int (nI r))]) hx hb dX2_standingIn_41 hl (k := 1) rfl (nI_add (i) 1) (by decide) rfl (fun ls hl => ?_)
        refine lv_goto (tgt := 5) hx hb dX2_standingIn_44 (by decide) ?_
        exact ih5 (by omega) trivial ls (by show lv_has ls 5 [(4, .int (nI (i + 1))), (3, .int (nI (cntB (fun x => !hasR (sF S 0) x && frA (sN S 0) (gC S 0) lv r x) (i + 1)))), (0, .ref (aX ad)), (1, .int (nI lv)), (2, .int (nI r))]; rw [cntB_y (p := fun x => !hasR (sF S 0) x && frA (sN S 0) (gC S 0) lv r x) (by show (!hasR (sF S 0) i && frA (sN S 0) (gC S 0) lv r i) = true; rw [c_21, c_35]; rfl)]; exact lv_sub hl [0, 1, 2, 3, 4] rfl)

set_option maxHeartbeats 1000000 in
set_option maxRecDepth 100000 in
theorem c_X2_wordsStanding (l : Launch) (G : hG) (hp : HP) (ad : Nat → Nat) (S : CS) (hC : cW ad S hp) : hRd l yX2_wordsStanding wsX2_wordsStanding 4 92 G hp [.ref (aX ad)] (some (.int (nI (wnS (sF S 0) (sN S 0) (gC S 0))))) := by
  refine Met.ofW (cc := cX2_wordsStanding) (maxL := 3) (ret := (some .int)) (by decide) rfl ?_
  intro p e s m args below meth c s₁ B hml hv
  obtain ⟨rfl, hV0, hK0⟩ := hv
  have hx := B.exec
  have hb := B.bytes
  have hr := B.returns
  have hts := atoms_spec (ws := wsX2_wordsStanding) B.pre
  have hown : s.vm.findClass RX2 = some m.cls := findClass_of_methodNamed B.named
  have hlocks := B.notSynchronized
  have hF : CallFix p m c cX2_wordsStanding 3 s [.ref (aX ad)].toArray wsX2_wordsStanding RX2 := ⟨hx, hb, hml, hown, hts⟩
  have hl := lv_entry ([.ref (aX ad)]) (n := 3) (Nat.le_of_ble_eq_true rfl)
  rw [lg_entry_eq]
  generalize (lg_sl ([.ref (aX ad)]) ++ List.replicate (3 - (lg_sl ([.ref (aX ad)])).length) Slot.unset).toArray = ls at hl ⊢
  replace hl : lv_has ls 3 [(0, .ref (aX ad))] := hl
  refine lv_iconst (v := nI 0) hx hb dX2_wordsStanding_0 (by decide) ?_
  refine lv_istore_n (lv' := [(1, .int (nI 0)), (0, .ref (aX ad))]) hx hb dX2_wordsStanding_1 rfl hl (by decide) rfl (fun ls hl => ?_)
  refine lv_iconst (v := nI 0) hx hb dX2_wordsStanding_2 (by decide) ?_
  refine lv_istore_n (lv' := [(2, .int (nI 0)), (1, .int (nI 0)), (0, .ref (aX ad))]) hx hb dX2_wordsStanding_3 rfl hl (by decide) rfl (fun ls hl => ?_)
  replace hl : lv_has ls 3 [(2, .int (nI 0)), (1, .int (nI (cntB (fun x => decide (0 ≤ wdS (sF S 0) (sN S 0) (gC S 0) x)) 0))), (0, .ref (aX ad))] := lv_sub hl [0, 1, 2] rfl
  revert ls
  refine h_loop 64 (fun i => [(2, .int (nI i)), (1, .int (nI (cntB (fun x => decide (0 ≤ wdS (sF S 0) (sN S 0) (gC S 0) x)) i))), (0, .ref (aX ad))]) (fun i => True) (fun i hi4 hI4 ih4 ls hl => ?_) 0 (Nat.zero_le _) trivial
  refine lv_iload_n hx hb dX2_wordsStanding_4 rfl (lv_at hl 0 rfl) ?_
  refine lv_bipush (v := nI 64) hx hb dX2_wordsStanding_5 (by decide) ?_
  refine h_icmp_ge (a := i) (b := 64) (tgt := 27) hx hb dX2_wordsStanding_7 (by decide) (by omega) (by omega) (fun c_7 => ?_) (fun c_7 => ?_)
  · refine lv_iload_n hx hb dX2_wordsStanding_27 rfl (lv_at hl 1 rfl) ?_
    exact h_iretR hx hb hr hlocks (by rw [show i = 64 by omega]; rfl) dX2_wordsStanding_28
  · refine lv_aload_n hx hb dX2_wordsStanding_10 rfl (lv_at hl 2 rfl) ?_
    refine lv_iload_n hx hb dX2_wordsStanding_11 rfl (lv_at hl 0 rfl) ?_
    refine h_rdV (As := [.int (nI i)]) (rest := []) hF (c_X2_wordOf l G hp ad S hC i (by omega)) 1 gX2_wordsStanding_X2_wordOf rfl (by decide +kernel) ⟨Nat.le_of_ble_eq_true rfl, Nat.le_of_ble_eq_true rfl⟩ hK0 hV0 hC.xo rfl rfl rfl hl.1 rfl (Nat.le_of_ble_eq_true rfl) (Nat.le_refl _) (Nat.le_refl _) dX2_wordsStanding_12 ?_
    refine lv_if_lt (tgt := 21) hx hb dX2_wordsStanding_15 (by decide) (fun c_15 => ?_) (fun c_15 => ?_)
    · refine lv_iinc (v := nI (i + 1)) (lv' := [(2, .int (nI (i + 1))), (1, .int (nI (cntB (fun x => decide (0 ≤ wdS (sF S 0) (sN S 0) (gC S 0) x)) i))), (0, .ref (aX ad))]) hx hb dX2_wordsStanding_21 hl (k := 0) rfl (nI_add (i) 1) (by decide) rfl (fun ls hl => ?_)
      refine lv_goto (tgt := 4) hx hb dX2_wordsStanding_24 (by decide) ?_
      exact ih4 (by omega) trivial ls (by show lv_has ls 3 [(2, .int (nI (i + 1))), (1, .int (nI (cntB (fun x => decide (0 ≤ wdS (sF S 0) (sN S 0) (gC S 0) x)) (i + 1)))), (0, .ref (aX ad))]; rw [cntB_n (p := (fun x => decide (0 ≤ wdS (sF S 0) (sN S 0) (gC S 0) x))) (decide_eq_false (Int32.not_le.mpr c_15))]; exact lv_sub hl [0, 1, 2] rfl)
    · refine lv_iinc (v := nI (cntB (fun x => decide (0 ≤ wdS (sF S 0) (sN S 0) (gC S 0) x)) i + 1)) (lv' := [(1, .int (nI (cntB (fun x => decide (0 ≤ wdS (sF S 0) (sN S 0) (gC S 0) x)) i + 1))), (2, .int (nI i)), (0, .ref (aX ad))]) hx hb dX2_wordsStanding_18 hl (k := 1) rfl (nI_add (cntB (fun x => decide (0 ≤ wdS (sF S 0) (sN S 0) (gC S 0) x)) i) 1) (by decide) rfl (fun ls hl => ?_)
      refine lv_iinc (v := nI (i + 1)) (lv' := [(2, .int (nI (i + 1))), (1, .int (nI (cntB (fun x => decide (0 ≤ wdS (sF S 0) (sN S 0) (gC S 0) x)) i + 1))), (0, .ref (aX ad))]) hx hb dX2_wordsStanding_21 hl (k := 1) rfl (nI_add (i) 1) (by decide) rfl (fun ls hl => ?_)
      refine lv_goto (tgt := 4) hx hb dX2_wordsStanding_24 (by decide) ?_
      exact ih4 (by omega) trivial ls (by show lv_has ls 3 [(2, .int (nI (i + 1))), (1, .int (nI (cntB (fun x => decide (0 ≤ wdS (sF S 0) (sN S 0) (gC S 0) x)) (i + 1)))), (0, .ref (aX ad))]; rw [cntB_y (p := (fun x => decide (0 ≤ wdS (sF S 0) (sN S 0) (gC S 0) x))) (decide_eq_true (Int32.not_lt.mp c_15))]; exact lv_sub hl [0, 1, 2] rfl)

set_option maxHeartbeats 1000000 in
set_option maxRecDepth 100000 in
theorem c_X2_tally (l : Launch) (G : hG) (hp : HP) (ad : Nat → Nat) (S : CS) (hC : cW ad S hp) (wh : Nat) (hw7 : wh < 7) : hRd l yX2_tally wsX2_tally 5 114 G hp [.ref (aX ad), .int (nI wh)] (some (.int (tlS (sF S 0) (sN S 0) (gC S 0) (sR S) (sV S 0) (sD S) (sG S 0) wh))) := by
  refine Met.ofW (cc := cX2_tally) (maxL := 2) (ret := (some .int)) (by decide) rfl ?_
  intro p e s m args below meth c s₁ B hml hv
  obtain ⟨rfl, hV0, hK0⟩ := hv
  have hx := B.exec
  have hb := B.bytes
  have hr := B.returns
  have hts := atoms_spec (ws := wsX2_tally) B.pre
  have hown : s.vm.findClass RX2 = some m.cls := findClass_of_methodNamed B.named
  have hlocks := B.notSynchronized
  have hF : CallFix p m c cX2_tally 2 s [.ref (aX ad), .int (nI wh)].toArray wsX2_tally RX2 := ⟨hx, hb, hml, hown, hts⟩
  have hw0 := hts (.fieldLink RX2 10 "SlipLevels" "deskSlips" "LSlipLevels$Slips;") (by decide +kernel)
  have hw1 := hts (.fieldLink RX2 26 "SlipLevels" "deskRoom" "I") (by decide +kernel)
  have hw2 := hts (.fieldLink RX2 19 "SlipLevels" "binder" "LSlipLevels$Binder;") (by decide +kernel)
  have hw3 := hts (.fieldLink RX2 30 "SlipLevels" "detoursRead" "I") (by decide +kernel)
  have hi2 : ∀ w ∈ u_ws RX2 TX2 5, w ∈ wsX2_tally := by
    intro w h
    unfold wsX2_tally
    simp only [List.mem_cons, List.mem_append, h, true_or, or_true]
  have hl := lv_entry ([.ref (aX ad), .int (nI wh)]) (n := 2) (Nat.le_of_ble_eq_true rfl)
  rw [lg_entry_eq]
  generalize (lg_sl ([.ref (aX ad), .int (nI wh)]) ++ List.replicate (2 - (lg_sl ([.ref (aX ad), .int (nI wh)])).length) Slot.unset).toArray = ls at hl ⊢
  replace hl : lv_has ls 2 [(0, .ref (aX ad)), (1, .int (nI wh))] := hl
  refine lv_iload_n hx hb dX2_tally_0 rfl (lv_at hl 1 rfl) ?_
  rcases (show wh = 0 ∨ wh = 1 ∨ wh = 2 ∨ wh = 3 ∨ wh = 4 ∨ wh = 5 ∨ wh = 6 by omega) with hq | hq | hq | hq | hq | hq | hq
  · subst hq
    refine lv_tableIn (off := 39) (tgt := 40) hx hb dX2_tally_1 (by decide) (by decide) (by decide) (by decide) ?_
    refine lv_aload_n hx hb dX2_tally_40 rfl (lv_at hl 0 rfl) ?_
    refine h_get (v := .ref (aS ad 0)) hx hb hts hi2 hown hK0 hV0 hC.xo rfl 0 (by decide) hw0 rfl dX2_tally_41 ?_
    refine h_rdV (As := []) (rest := []) hF (c_X1_size l G hp (aS ad 0) (aW ad 0) (sF S 0) (hC.sl (by omega))) 0 gX2_tally_X1_size rfl (by decide +kernel) ⟨Nat.le_of_ble_eq_true rfl, Nat.le_of_ble_eq_true rfl⟩ hK0 hV0 (hC.sl (by omega)).1 rfl rfl rfl hl.1 rfl (Nat.le_of_ble_eq_true rfl) (Nat.le_refl _) (Nat.le_refl _) dX2_tally_44 ?_
    exact h_iretR hx hb hr hlocks rfl dX2_tally_47
  · subst hq
    refine lv_tableIn (off := 47) (tgt := 48) hx hb dX2_tally_1 (by decide) (by decide) (by decide) (by decide) ?_
    refine lv_aload_n hx hb dX2_tally_48 rfl (lv_at hl 0 rfl) ?_
    refine h_get (v := .int (sR S)) hx hb hts hi2 hown hK0 hV0 hC.xo rfl 3 (by decide) hw1 rfl dX2_tally_49 ?_
    exact h_iretR hx hb hr hlocks rfl dX2_tally_52
  · subst hq
    refine lv_tableIn (off := 52) (tgt := 53) hx hb dX2_tally_1 (by decide) (by decide) (by decide) (by decide) ?_
    refine lv_aload_n hx hb dX2_tally_53 rfl (lv_at hl 0 rfl) ?_
    refine h_get (v := .ref (aB ad 0)) hx hb hts hi2 hown hK0 hV0 hC.xo rfl 1 (by decide) hw2 rfl dX2_tally_54 ?_
    refine h_rdV (As := []) (rest := []) hF (c_X0_slips l G hp ad S hC 0 (by decide)) 0 gX2_tally_X0_slips rfl (by decide +kernel) ⟨Nat.le_of_ble_eq_true rfl, Nat.le_of_ble_eq_true rfl⟩ hK0 hV0 (hC.bo (by decide)) rfl rfl rfl hl.1 rfl (Nat.le_of_ble_eq_true rfl) (Nat.le_refl _) (Nat.le_refl _) dX2_tally_57 ?_
    exact h_iretR hx hb hr hlocks rfl dX2_tally_60
  · subst hq
    refine lv_tableIn (off := 60) (tgt := 61) hx hb dX2_tally_1 (by decide) (by decide) (by decide) (by decide) ?_
    refine lv_aload_n hx hb dX2_tally_61 rfl (lv_at hl 0 rfl) ?_
    refine h_rdV (As := []) (rest := []) hF (c_X2_wordsStanding l G hp ad S hC) 0 gX2_tally_X2_wordsStanding rfl (by decide +kernel) ⟨Nat.le_of_ble_eq_true rfl, Nat.le_of_ble_eq_true rfl⟩ hK0 hV0 hC.xo rfl rfl rfl hl.1 rfl (Nat.le_of_ble_eq_true rfl) (Nat.le_refl _) (Nat.le_refl _) dX2_tally_62 ?_
    exact h_iretR hx hb hr hlocks rfl dX2_tally_65
  · subst hq
    refine lv_tableIn (off := 65) (tgt := 66) hx hb dX2_tally_1 (by decide) (by decide) (by decide) (by decide) ?_
    refine lv_aload_n hx hb dX2_tally_66 rfl (lv_at hl 0 rfl) ?_
    refine h_get (v := .ref (aB ad 0)) hx hb hts hi2 hown hK0 hV0 hC.xo rfl 1 (by decide) hw2 rfl dX2_tally_67 ?_
    refine h_rdV (As := []) (rest := []) hF (c_X0_moves l G hp ad S hC 0 (by decide)) 0 gX2_tally_X0_moves rfl (by decide +kernel) ⟨Nat.le_of_ble_eq_true rfl, Nat.le_of_ble_eq_true rfl⟩ hK0 hV0 (hC.bo (by decide)) rfl rfl rfl hl.1 rfl (Nat.le_of_ble_eq_true rfl) (Nat.le_refl _) (Nat.le_refl _) dX2_tally_70 ?_
    exact h_iretR hx hb hr hlocks rfl dX2_tally_73
  · subst hq
    refine lv_tableIn (off := 73) (tgt := 74) hx hb dX2_tally_1 (by decide) (by decide) (by decide) (by decide) ?_
    refine lv_aload_n hx hb dX2_tally_74 rfl (lv_at hl 0 rfl) ?_
    refine h_get (v := .int (sD S)) hx hb hts hi2 hown hK0 hV0 hC.xo rfl 4 (by decide) hw3 rfl dX2_tally_75 ?_
    exact h_iretR hx hb hr hlocks rfl dX2_tally_78
  · subst hq
    refine lv_tableOut (tgt := 79) hx hb dX2_tally_1 (Or.inr (by decide)) (by decide) ?_
    refine lv_aload_n hx hb dX2_tally_79 rfl (lv_at hl 0 rfl) ?_
    refine h_get (v := .ref (aB ad 0)) hx hb hts hi2 hown hK0 hV0 hC.xo rfl 1 (by decide) hw2 rfl dX2_tally_80 ?_
    refine h_rdV (As := []) (rest := []) hF (c_X0_mergings l G hp ad S hC 0 (by decide)) 0 gX2_tally_X0_mergings rfl (by decide +kernel) ⟨Nat.le_of_ble_eq_true rfl, Nat.le_of_ble_eq_true rfl⟩ hK0 hV0 (hC.bo (by decide)) rfl rfl rfl hl.1 rfl (Nat.le_of_ble_eq_true rfl) (Nat.le_refl _) (Nat.le_refl _) dX2_tally_83 ?_
    exact h_iretR hx hb hr hlocks rfl dX2_tally_86

set_option maxHeartbeats 1000000 in
set_option maxRecDepth 100000 in
theorem c_X2_digestSlips (l : Launch) (G : hG) (hp : HP) (a w : Nat) (f : Row) (he : slAt hp a w f) (d : Int64) : hRd l yX2_digestSlips wsX2_digestSlips 2 43 G hp [.long (d), .ref a] (some (.long (dgF f d 64))) := by
  refine Met.ofW (cc := cX2_digestSlips) (maxL := 6) (ret := (some .long)) (by decide) rfl ?_
  intro p e s m args below meth c s₁ B hml hv
  obtain ⟨rfl, hV0, hK0⟩ := hv
  have hx := B.exec
  have hb := B.bytes
  have hr := B.returns
  have hts := atoms_spec (ws := wsX2_digestSlips) B.pre
  have hown : s.vm.findClass RX2 = some m.cls := findClass_of_methodNamed B.named
  have hlocks := B.notSynchronized
  have hF : CallFix p m c cX2_digestSlips 6 s [.long (d), .ref a].toArray wsX2_digestSlips RX2 := ⟨hx, hb, hml, hown, hts⟩
  have hw0 := hts (.constantLong RX2 138 (31)) (by decide +kernel)
  have hl := lv_entry ([.long (d), .ref a]) (n := 6) (Nat.le_of_ble_eq_true rfl)
  rw [lg_entry_eq]
  generalize (lg_sl ([.long (d), .ref a]) ++ List.replicate (6 - (lg_sl ([.long (d), .ref a])).length) Slot.unset).toArray = ls at hl ⊢
  replace hl : lv_has ls 6 [(0, .long (d)), (2, .ref a)] := hl
  refine lv_lload_n hx hb dX2_digestSlips_0 rfl (lv_at hl 0 rfl) ?_
  refine lv_lstore_n (lv' := [(3, .long (d)), (0, .long (d)), (2, .ref a)]) hx hb dX2_digestSlips_1 rfl hl (by decide) rfl (fun ls hl => ?_)
  refine lv_iconst (v := nI 0) hx hb dX2_digestSlips_2 (by decide) ?_
  refine lv_istore (lv' := [(5, .int (nI 0)), (3, .long (d)), (0, .long (d)), (2, .ref a)]) hx hb dX2_digestSlips_3 hl (by decide) rfl (fun ls hl => ?_)
  replace hl : lv_has ls 6 [(5, .int (nI 0)), (3, .long (dgF f d 0)), (0, .long (d)), (2, .ref a)] := lv_sub hl [0, 1, 2, 3] rfl
  revert ls
  refine h_loop 64 (fun i => [(5, .int (nI i)), (3, .long (dgF f d i)), (0, .long (d)), (2, .ref a)]) (fun i => True) (fun i hi5 hI5 ih5 ls hl => ?_) 0 (Nat.zero_le _) trivial
  refine lv_iload hx hb dX2_digestSlips_5 (lv_at hl 0 rfl) ?_
  refine lv_bipush (v := nI 64) hx hb dX2_digestSlips_7 (by decide) ?_
  refine h_icmp_ge (a := i) (b := 64) (tgt := 41) hx hb dX2_digestSlips_9 (by decide) (by omega) (by omega) (fun c_9 => ?_) (fun c_9 => ?_)
  · refine lv_lload_n hx hb dX2_digestSlips_41 rfl (lv_at hl 1 rfl) ?_
    exact h_lretR hx hb hr hlocks (by rw [show i = 64 by omega]) dX2_digestSlips_42
  · refine lv_aload_n hx hb dX2_digestSlips_12 rfl (lv_at hl 3 rfl) ?_
    refine lv_iload hx hb dX2_digestSlips_13 (lv_at hl 0 rfl) ?_
    refine h_rdV (As := [.int (nI i)]) (rest := []) hF (c_X1_has l G hp (a) w f he i (by omega)) 1 gX2_digestSlips_X1_has rfl (by decide +kernel) ⟨Nat.le_of_ble_eq_true rfl, Nat.le_of_ble_eq_true rfl⟩ hK0 hV0 he.1 rfl rfl rfl hl.1 rfl (Nat.le_of_ble_eq_true rfl) (Nat.le_refl _) (Nat.le_refl _) dX2_digestSlips_15 ?_
    refine h_if_eqB (tgt := 35) hx hb dX2_digestSlips_18 (by decide) (fun c_18 => ?_) (fun c_18 => ?_)
    · refine lv_iinc (v := nI (i + 1)) (lv' := [(5, .int (nI (i + 1))), (3, .long (dgF f d i)), (0, .long (d)), (2, .ref a)]) hx hb dX2_digestSlips_35 hl (k := 0) rfl (nI_add (i) 1) (by decide) rfl (fun ls hl => ?_)
      refine lv_goto (tgt := 5) hx hb dX2_digestSlips_38 (by decide) ?_
      exact ih5 (by omega) trivial ls (by show lv_has ls 6 [(5, .int (nI (i + 1))), (3, .long (dgF f d (i + 1))), (0, .long (d)), (2, .ref a)]; rw [dgF_n c_18]; exact lv_sub hl [0, 1, 2, 3] rfl)
    · refine lv_lload_n hx hb dX2_digestSlips_21 rfl (lv_at hl 1 rfl) ?_
      refine lv_ldc2 hx hb hown hw0 dX2_digestSlips_22 ?_
      refine lv_lmul hx hb dX2_digestSlips_25 ?_
      refine lv_aload_n hx hb dX2_digestSlips_26 rfl (lv_at hl 3 rfl) ?_
      refine lv_iload hx hb dX2_digestSlips_27 (lv_at hl 0 rfl) ?_
      refine h_rdV (As := [.int (nI i)]) (rest := [.long ((dgF f d i) * (31))]) hF (c_X1_told l G hp (a) w f he i (by omega)) 1 gX2_digestSlips_X1_told rfl (by decide +kernel) ⟨Nat.le_of_ble_eq_true rfl, Nat.le_of_ble_eq_true rfl⟩ hK0 hV0 he.1 rfl rfl rfl hl.1 rfl (Nat.le_of_ble_eq_true rfl) (Nat.le_refl _) (Nat.le_refl _) dX2_digestSlips_29 ?_
      refine lv_i2l (v := ((toldR f i)).toInt64) hx hb dX2_digestSlips_32 rfl ?_
      refine lv_ladd hx hb dX2_digestSlips_33 ?_
      refine lv_lstore_n (lv' := [(3, .long (((dgF f d i) * (31)) + (((toldR f i)).toInt64))), (5, .int (nI i)), (0, .long (d)), (2, .ref a)]) hx hb dX2_digestSlips_34 rfl hl (by decide) rfl (fun ls hl => ?_)
      refine lv_iinc (v := nI (i + 1)) (lv' := [(5, .int (nI (i + 1))), (3, .long (((dgF f d i) * (31)) + (((toldR f i)).toInt64))), (0, .long (d)), (2, .ref a)]) hx hb dX2_digestSlips_35 hl (k := 1) rfl (nI_add (i) 1) (by decide) rfl (fun ls hl => ?_)
      refine lv_goto (tgt := 5) hx hb dX2_digestSlips_38 (by decide) ?_
      exact ih5 (by omega) trivial ls (by show lv_has ls 6 [(5, .int (nI (i + 1))), (3, .long (dgF f d (i + 1))), (0, .long (d)), (2, .ref a)]; rw [dgF_y c_18]; exact lv_sub hl [0, 1, 2, 3] rfl)

set_option maxHeartbeats 1000000 in
set_option maxRecDepth 100000 in
theorem c_X2_digestLevel (l : Launch) (G : hG) (hp : HP) (ad : Nat → Nat) (S : CS) (hC : cW ad S hp) (d : Int64) (lv : Nat) (hl4 : lv < 4) : hRd l yX2_digestLevel wsX2_digestLevel 4 96 G hp [.ref (aX ad), .long (d), .int (nI lv)] (some (.long (dgR (gC S 0 lv) (sdS (sF S 0) (sN S 0) (gC S 0) lv) ((d) * (31) + (nI (sN S 0 lv)).toInt64) (sN S 0 lv)))) := by
  refine Met.ofW (cc := cX2_digestLevel) (maxL := 11) (ret := (some .long)) (by decide) rfl ?_
  intro p e s m args below meth c s₁ B hml hv
  obtain ⟨rfl, hV0, hK0⟩ := hv
  have hx := B.exec
  have hb := B.bytes
  have hr := B.returns
  have hts := atoms_spec (ws := wsX2_digestLevel) B.pre
  have hown : s.vm.findClass RX2 = some m.cls := findClass_of_methodNamed B.named
  have hlocks := B.notSynchronized
  have hF : CallFix p m c cX2_digestLevel 11 s [.ref (aX ad), .long (d), .int (nI lv)].toArray wsX2_digestLevel RX2 := ⟨hx, hb, hml, hown, hts⟩
  have hw0 := hts (.fieldLink RX2 19 "SlipLevels" "binder" "LSlipLevels$Binder;") (by decide +kernel)
  have hw1 := hts (.constantLong RX2 138 (31)) (by decide +kernel)
  have hi2 : ∀ w ∈ u_ws RX2 TX2 5, w ∈ wsX2_digestLevel := by
    intro w h
    unfold wsX2_digestLevel
    simp only [List.mem_cons, List.mem_append, h, true_or, or_true]
  have hl := lv_entry ([.ref (aX ad), .long (d), .int (nI lv)]) (n := 11) (Nat.le_of_ble_eq_true rfl)
  rw [lg_entry_eq]
  generalize (lg_sl ([.ref (aX ad), .long (d), .int (nI lv)]) ++ List.replicate (11 - (lg_sl ([.ref (aX ad), .long (d), .int (nI lv)])).length) Slot.unset).toArray = ls at hl ⊢
  replace hl : lv_has ls 11 [(0, .ref (aX ad)), (1, .long (d)), (3, .int (nI lv))] := hl
  have hn := hC.ok.2.1 0 lv
  refine lv_aload_n hx hb dX2_digestLevel_0 rfl (lv_at hl 0 rfl) ?_
  refine h_get (v := .ref (aB ad 0)) hx hb hts hi2 hown hK0 hV0 hC.xo rfl 1 (by decide) hw0 rfl dX2_digestLevel_1 ?_
  refine lv_iload_n hx hb dX2_digestLevel_4 rfl (lv_at hl 2 rfl) ?_
  refine h_rdV (As := [.int (nI lv)]) (rest := []) hF (c_X0_runsOf l G hp ad S hC 0 (by decide) lv (by omega)) 1 gX2_digestLevel_X0_runsOf rfl (by decide +kernel) ⟨Nat.le_of_ble_eq_true rfl, Nat.le_of_ble_eq_true rfl⟩ hK0 hV0 (hC.bo (by decide)) rfl rfl rfl hl.1 rfl (Nat.le_of_ble_eq_true rfl) (Nat.le_refl _) (Nat.le_refl _) dX2_digestLevel_5 ?_
  refine lv_istore (lv' := [(4, .int (nI (sN S 0 lv))), (0, .ref (aX ad)), (1, .long (d)), (3, .int (nI lv))]) hx hb dX2_digestLevel_8 hl (by decide) rfl (fun ls hl => ?_)
  refine lv_lload_n hx hb dX2_digestLevel_10 rfl (lv_at hl 2 rfl) ?_
  refine lv_ldc2 hx hb hown hw1 dX2_digestLevel_11 ?_
  refine lv_lmul hx hb dX2_digestLevel_14 ?_
  refine lv_iload hx hb dX2_digestLevel_15 (lv_at hl 0 rfl) ?_
  refine lv_i2l (v := (nI (sN S 0 lv)).toInt64) hx hb dX2_digestLevel_17 rfl ?_
  refine lv_ladd hx hb dX2_digestLevel_18 ?_
  refine lv_lstore (lv' := [(5, .long (((d) * (31)) + ((nI (sN S 0 lv)).toInt64))), (4, .int (nI (sN S 0 lv))), (0, .ref (aX ad)), (1, .long (d)), (3, .int (nI lv))]) hx hb dX2_digestLevel_19 hl (by decide) rfl (fun ls hl => ?_)
  refine lv_iconst (v := nI 0) hx hb dX2_digestLevel_21 (by decide) ?_
  refine lv_istore (lv' := [(7, .int (nI 0)), (5, .long (((d) * (31)) + ((nI (sN S 0 lv)).toInt64))), (4, .int (nI (sN S 0 lv))), (0, .ref (aX ad)), (1, .long (d)), (3, .int (nI lv))]) hx hb dX2_digestLevel_22 hl (by decide) rfl (fun ls hl => ?_)
  replace hl : lv_has ls 11 [(7, .int (nI 0)), (5, .long (dgR (gC S 0 lv) (sdS (sF S 0) (sN S 0) (gC S 0) lv) ((d) * (31) + (nI (sN S 0 lv)).toInt64) 0)), (4, .int (nI (sN S 0 lv))), (0, .ref (aX ad)), (1, .long (d)), (3, .int (nI lv))] := lv_sub hl [0, 1, 2, 3, 4, 5] rfl
  revert ls
  refine h_loop (sN S 0 lv) (fun i => [(7, .int (nI i)), (5, .long (dgR (gC S 0 lv) (sdS (sF S 0) (sN S 0) (gC S 0) lv) ((d) * (31) + (nI (sN S 0 lv)).toInt64) i)), (4, .int (nI (sN S 0 lv))), (0, .ref (aX ad)), (1, .long (d)), (3, .int (nI lv))]) (fun i => True) (fun i hi24 hI24 ih24 ls hl => ?_) 0 (Nat.zero_le _) trivial
  refine lv_iload hx hb dX2_digestLevel_24 (lv_at hl 0 rfl) ?_
  refine lv_iload hx hb dX2_digestLevel_26 (lv_at hl 2 rfl) ?_
  refine h_icmp_ge (a := i) (b := sN S 0 lv) (tgt := 119) hx hb dX2_digestLevel_28 (by decide) (by omega) (by omega) (fun c_28 => ?_) (fun c_28 => ?_)
  · refine lv_lload hx hb dX2_digestLevel_119 (lv_at hl 1 rfl) ?_
    exact h_lretR hx hb hr hlocks (by rw [show i = sN S 0 lv by omega]) dX2_digestLevel_121
  · refine lv_aload_n hx hb dX2_digestLevel_31 rfl (lv_at hl 3 rfl) ?_
    refine h_get (v := .ref (aB ad 0)) hx hb hts hi2 hown hK0 hV0 hC.xo rfl 1 (by decide) hw0 rfl dX2_digestLevel_32 ?_
    refine lv_iload_n hx hb dX2_digestLevel_35 rfl (lv_at hl 5 rfl) ?_
    refine lv_iload hx hb dX2_digestLevel_36 (lv_at hl 0 rfl) ?_
    refine h_rdV (As := [.int (nI lv), .int (nI i)]) (rest := []) hF (c_X0_runAt l G hp ad S hC 0 (by decide) lv i (by omega) (by omega)) 2 gX2_digestLevel_X0_runAt rfl (by decide +kernel) ⟨Nat.le_of_ble_eq_true rfl, Nat.le_of_ble_eq_true rfl⟩ hK0 hV0 (hC.bo (by decide)) rfl rfl rfl hl.1 rfl (Nat.le_of_ble_eq_true rfl) (Nat.le_refl _) (Nat.le_refl _) dX2_digestLevel_38 ?_
    refine lv_astore (lv' := [(8, .ref (aS ad (iR S 0 lv i))), (7, .int (nI i)), (5, .long (dgR (gC S 0 lv) (sdS (sF S 0) (sN S 0) (gC S 0) lv) ((d) * (31) + (nI (sN S 0 lv)).toInt64) i)), (4, .int (nI (sN S 0 lv))), (0, .ref (aX ad)), (1, .long (d)), (3, .int (nI lv))]) hx hb dX2_digestLevel_41 hl (by decide) rfl (fun ls hl => ?_)
    refine lv_aload hx hb dX2_digestLevel_43 (lv_at hl 0 rfl) ?_
    refine lv_ifnonnull (tgt := 51) hx hb dX2_digestLevel_45 (by decide) ?_
    refine lv_iconst (v := nI 0) hx hb dX2_digestLevel_51 (by decide) ?_
    refine lv_istore (lv' := [(9, .int (nI 0)), (8, .ref (aS ad (iR S 0 lv i))), (7, .int (nI i)), (5, .long (dgR (gC S 0 lv) (sdS (sF S 0) (sN S 0) (gC S 0) lv) ((d) * (31) + (nI (sN S 0 lv)).toInt64) i)), (4, .int (nI (sN S 0 lv))), (0, .ref (aX ad)), (1, .long (d)), (3, .int (nI lv))]) hx hb dX2_digestLevel_52 hl (by decide) rfl (fun ls hl => ?_)
    replace hl : lv_has ls 11 [(9, .int (nI 0)), (5, .long (dgW (fcS (gC S 0 lv i) (sdS (sF S 0) (sN S 0) (gC S 0) lv i)) (dgR (gC S 0 lv) (sdS (sF S 0) (sN S 0) (gC S 0) lv) ((d) * (31) + (nI (sN S 0 lv)).toInt64) i) 0)), (8, .ref (aS ad (iR S 0 lv i))), (7, .int (nI i)), (4, .int (nI (sN S 0 lv))), (0, .ref (aX ad)), (1, .long (d)), (3, .int (nI lv))] := lv_sub hl [0, 3, 1, 2, 4, 5, 6, 7] rfl
    revert ls
    refine h_loop 6 (fun j => [(9, .int (nI j)), (5, .long (dgW (fcS (gC S 0 lv i) (sdS (sF S 0) (sN S 0) (gC S 0) lv i)) (dgR (gC S 0 lv) (sdS (sF S 0) (sN S 0) (gC S 0) lv) ((d) * (31) + (nI (sN S 0 lv)).toInt64) i) j)), (8, .ref (aS ad (iR S 0 lv i))), (7, .int (nI i)), (4, .int (nI (sN S 0 lv))), (0, .ref (aX ad)), (1, .long (d)), (3, .int (nI lv))]) (fun j => True) (fun j hi54 hI54 ih54 ls hl => ?_) 0 (Nat.zero_le _) trivial
    refine lv_iload hx hb dX2_digestLevel_54 (lv_at hl 0 rfl) ?_
    refine lv_bipush (v := nI 6) hx hb dX2_digestLevel_56 (by decide) ?_
    refine h_icmp_ge (a := j) (b := 6) (tgt := 104) hx hb dX2_digestLevel_58 (by decide) (by omega) (by omega) (fun c_58 => ?_) (fun c_58 => ?_)
    · have hj6 : j = 6 := by omega
      refine lv_lload hx hb dX2_digestLevel_104 (lv_at hl 1 rfl) ?_
      refine lv_aload hx hb dX2_digestLevel_106 (lv_at hl 2 rfl) ?_
      refine h_rdS (As := [.long (dgW (fcS (gC S 0 lv i) (sdS (sF S 0) (sN S 0) (gC S 0) lv i)) (dgR (gC S 0 lv) (sdS (sF S 0) (sN S 0) (gC S 0) lv) ((d) * (31) + (nI (sN S 0 lv)).toInt64) i) j), .ref (aS ad (iR S 0 lv i))]) (rest := []) hF (c_X2_digestSlips l G hp (aS ad (iR S 0 lv i)) (aW ad (iR S 0 lv i)) (gC S 0 lv i) (hC.run (by decide) (by omega) (by omega)) (dgW (fcS (gC S 0 lv i) (sdS (sF S 0) (sN S 0) (gC S 0) lv i)) (dgR (gC S 0 lv) (sdS (sF S 0) (sN S 0) (gC S 0) lv) ((d) * (31) + (nI (sN S 0 lv)).toInt64) i) j)) 2 gX2_digestLevel_X2_digestSlips rfl (by decide +kernel) ⟨Nat.le_of_ble_eq_true rfl, Nat.le_of_ble_eq_true rfl⟩ hK0 hV0 rfl hl.1 rfl (Nat.le_of_ble_eq_true rfl) (Nat.le_refl _) (Nat.le_refl _) dX2_digestLevel_108 ?_
      refine lv_lstore (lv' := [(5, .long (dgF (gC S 0 lv i) (dgW (fcS (gC S 0 lv i) (sdS (sF S 0) (sN S 0) (gC S 0) lv i)) (dgR (gC S 0 lv) (sdS (sF S 0) (sN S 0) (gC S 0) lv) ((d) * (31) + (nI (sN S 0 lv)).toInt64) i) j) 64)), (9, .int (nI j)), (8, .ref (aS ad (iR S 0 lv i))), (7, .int (nI i)), (4, .int (nI (sN S 0 lv))), (0, .ref (aX ad)), (1, .long (d)), (3, .int (nI lv))]) hx hb dX2_digestLevel_111 hl (by decide) rfl (fun ls hl => ?_)
      refine lv_iinc (v := nI (i + 1)) (lv' := [(7, .int (nI (i + 1))), (5, .long (dgF (gC S 0 lv i) (dgW (fcS (gC S 0 lv i) (sdS (sF S 0) (sN S 0) (gC S 0) lv i)) (dgR (gC S 0 lv) (sdS (sF S 0) (sN S 0) (gC S 0) lv) ((d) * (31) + (nI (sN S 0 lv)).toInt64) i) j) 64)), (9, .int (nI j)), (8, .ref (aS ad (iR S 0 lv i))), (4, .int (nI (sN S 0 lv))), (0, .ref (aX ad)), (1, .long (d)), (3, .int (nI lv))]) hx hb dX2_digestLevel_113 hl (k := 3) rfl (nI_add (i) 1) (by decide) rfl (fun ls hl => ?_)
      refine lv_goto (tgt := 24) hx hb dX2_digestLevel_116 (by decide) ?_
      have hDR : dgR (gC S 0 lv) (sdS (sF S 0) (sN S 0) (gC S 0) lv) ((d) * (31) + (nI (sN S 0 lv)).toInt64) (i + 1) = dgF (gC S 0 lv i) (dgW (fcS (gC S 0 lv i) (sdS (sF S 0) (sN S 0) (gC S 0) lv i)) (dgR (gC S 0 lv) (sdS (sF S 0) (sN S 0) (gC S 0) lv) ((d) * (31) + (nI (sN S 0 lv)).toInt64) i) j) 64 := by rw [hj6]; rfl
      exact ih24 (by omega) trivial ls (by show lv_has ls 11 [(7, .int (nI (i + 1))), (5, .long (dgR (gC S 0 lv) (sdS (sF S 0) (sN S 0) (gC S 0) lv) ((d) * (31) + (nI (sN S 0 lv)).toInt64) (i + 1))), (4, .int (nI (sN S 0 lv))), (0, .ref (aX ad)), (1, .long (d)), (3, .int (nI lv))]; rw [hDR]; exact lv_sub hl [0, 1, 4, 5, 6, 7] rfl)
    · refine lv_iload hx hb dX2_digestLevel_61 (lv_at hl 0 rfl) ?_
      refine lv_iconst (v := nI 5) hx hb dX2_digestLevel_63 (by decide) ?_
      refine h_icmp_ne (a := j) (b := 5) (tgt := 77) hx hb dX2_digestLevel_64 (by decide) (by omega) (by omega) (fun c_64 => ?_) (fun c_64 => ?_)
      · refine lv_aload hx hb dX2_digestLevel_77 (lv_at hl 2 rfl) ?_
        refine lv_iload hx hb dX2_digestLevel_79 (lv_at hl 0 rfl) ?_
        refine h_rdV (As := [.int (nI j)]) (rest := []) hF (c_X1_fact l G hp (aS ad (iR S 0 lv i)) (aW ad (iR S 0 lv i)) (gC S 0 lv i) (hC.run (by decide) (by omega) (by omega)) j (by omega)) 1 gX2_digestLevel_X1_fact rfl (by decide +kernel) ⟨Nat.le_of_ble_eq_true rfl, Nat.le_of_ble_eq_true rfl⟩ hK0 hV0 (hC.run (by decide) (by omega) (by omega)).1 rfl rfl rfl hl.1 rfl (Nat.le_of_ble_eq_true rfl) (Nat.le_refl _) (Nat.le_refl _) dX2_digestLevel_81 ?_
        refine lv_istore (lv' := [(10, .int (factR (gC S 0 lv i) j)), (9, .int (nI j)), (5, .long (dgW (fcS (gC S 0 lv i) (sdS (sF S 0) (sN S 0) (gC S 0) lv i)) (dgR (gC S 0 lv) (sdS (sF S 0) (sN S 0) (gC S 0) lv) ((d) * (31) + (nI (sN S 0 lv)).toInt64) i) j)), (8, .ref (aS ad (iR S 0 lv i))), (7, .int (nI i)), (4, .int (nI (sN S 0 lv))), (0, .ref (aX ad)), (1, .long (d)), (3, .int (nI lv))]) hx hb dX2_digestLevel_84 hl (by decide) rfl (fun ls hl => ?_)
        refine lv_lload hx hb dX2_digestLevel_86 (lv_at hl 2 rfl) ?_
        refine lv_ldc2 hx hb hown hw1 dX2_digestLevel_88 ?_
        refine lv_lmul hx hb dX2_digestLevel_91 ?_
        refine lv_iload hx hb dX2_digestLevel_92 (lv_at hl 0 rfl) ?_
        refine lv_i2l (v := ((factR (gC S 0 lv i) j)).toInt64) hx hb dX2_digestLevel_94 rfl ?_
        refine lv_ladd hx hb dX2_digestLevel_95 ?_
        refine lv_lstore (lv' := [(5, .long (((dgW (fcS (gC S 0 lv i) (sdS (sF S 0) (sN S 0) (gC S 0) lv i)) (dgR (gC S 0 lv) (sdS (sF S 0) (sN S 0) (gC S 0) lv) ((d) * (31) + (nI (sN S 0 lv)).toInt64) i) j) * (31)) + (((factR (gC S 0 lv i) j)).toInt64))), (10, .int (factR (gC S 0 lv i) j)), (9, .int (nI j)), (8, .ref (aS ad (iR S 0 lv i))), (7, .int (nI i)), (4, .int (nI (sN S 0 lv))), (0, .ref (aX ad)), (1, .long (d)), (3, .int (nI lv))]) hx hb dX2_digestLevel_96 hl (by decide) rfl (fun ls hl => ?_)
        refine lv_iinc (v := nI (j + 1)) (lv' := [(9, .int (nI (j + 1))), (5, .long (((dgW (fcS (gC S 0 lv i) (sdS (sF S 0) (sN S 0) (gC S 0) lv i)) (dgR (gC S 0 lv) (sdS (sF S 0) (sN S 0) (gC S 0) lv) ((d) * (31) + (nI (sN S 0 lv)).toInt64) i) j) * (31)) + (((factR (gC S 0 lv i) j)).toInt64))), (10, .int (factR (gC S 0 lv i) j)), (8, .ref (aS ad (iR S 0 lv i))), (7, .int (nI i)), (4, .int (nI (sN S 0 lv))), (0, .ref (aX ad)), (1, .long (d)), (3, .int (nI lv))]) hx hb dX2_digestLevel_98 hl (k := 2) rfl (nI_add (j) 1) (by decide) rfl (fun ls hl => ?_)
        refine lv_goto (tgt := 54) hx hb dX2_digestLevel_101 (by decide) ?_
        exact ih54 (by omega) trivial ls (by show lv_has ls 11 [(9, .int (nI (j + 1))), (5, .long (dgW (fcS (gC S 0 lv i) (sdS (sF S 0) (sN S 0) (gC S 0) lv i)) (dgR (gC S 0 lv) (sdS (sF S 0) (sN S 0) (gC S 0) lv) ((d) * (31) + (nI (sN S 0 lv)).toInt64) i) (j + 1))), (8, .ref (aS ad (iR S 0 lv i))), (7, .int (nI i)), (4, .int (nI (sN S 0 lv))), (0, .ref (aX ad)), (1, .long (d)), (3, .int (nI lv))]; rw [show dgW (fcS (gC S 0 lv i) (sdS (sF S 0) (sN S 0) (gC S 0) lv i)) (dgR (gC S 0 lv) (sdS (sF S 0) (sN S 0) (gC S 0) lv) ((d) * (31) + (nI (sN S 0 lv)).toInt64) i) (j + 1) = dgW (fcS (gC S 0 lv i) (sdS (sF S 0) (sN S 0) (gC S 0) lv i)) (dgR (gC S 0 lv) (sdS (sF S 0) (sN S 0) (gC S 0) lv) ((d) * (31) + (nI (sN S 0 lv)).toInt64) i) j * 31 + (fcS (gC S 0 lv i) (sdS (sF S 0) (sN S 0) (gC S 0) lv i) j).toInt64 from rfl, ← fcS_n c_64]; exact lv_sub hl [0, 1, 3, 4, 5, 6, 7, 8] rfl)
      · refine lv_aload_n hx hb dX2_digestLevel_67 rfl (lv_at hl 5 rfl) ?_
        refine lv_iload_n hx hb dX2_digestLevel_68 rfl (lv_at hl 7 rfl) ?_
        refine lv_iload hx hb dX2_digestLevel_69 (lv_at hl 3 rfl) ?_
        refine h_rdV (As := [.int (nI lv), .int (nI i)]) (rest := []) hF (c_X2_standingIn l G hp ad S hC lv i (by omega) (by omega)) 2 gX2_digestLevel_X2_standingIn rfl (by decide +kernel) ⟨Nat.le_of_ble_eq_true rfl, Nat.le_of_ble_eq_true rfl⟩ hK0 hV0 hC.xo rfl rfl rfl hl.1 rfl (Nat.le_of_ble_eq_true rfl) (Nat.le_refl _) (Nat.le_refl _) dX2_digestLevel_71 ?_
        refine lv_goto (tgt := 84) hx hb dX2_digestLevel_74 (by decide) ?_
        refine lv_istore (lv' := [(10, .int (nI (sdS (sF S 0) (sN S 0) (gC S 0) lv i))), (9, .int (nI j)), (5, .long (dgW (fcS (gC S 0 lv i) (sdS (sF S 0) (sN S 0) (gC S 0) lv i)) (dgR (gC S 0 lv) (sdS (sF S 0) (sN S 0) (gC S 0) lv) ((d) * (31) + (nI (sN S 0 lv)).toInt64) i) j)), (8, .ref (aS ad (iR S 0 lv i))), (7, .int (nI i)), (4, .int (nI (sN S 0 lv))), (0, .ref (aX ad)), (1, .long (d)), (3, .int (nI lv))]) hx hb dX2_digestLevel_84 hl (by decide) rfl (fun ls hl => ?_)
        refine lv_lload hx hb dX2_digestLevel_86 (lv_at hl 2 rfl) ?_
        refine lv_ldc2 hx hb hown hw1 dX2_digestLevel_88 ?_
        refine lv_lmul hx hb dX2_digestLevel_91 ?_
        refine lv_iload hx hb dX2_digestLevel_92 (lv_at hl 0 rfl) ?_
        refine lv_i2l (v := (nI (sdS (sF S 0) (sN S 0) (gC S 0) lv i)).toInt64) hx hb dX2_digestLevel_94 rfl ?_
        refine lv_ladd hx hb dX2_digestLevel_95 ?_
        refine lv_lstore (lv' := [(5, .long (((dgW (fcS (gC S 0 lv i) (sdS (sF S 0) (sN S 0) (gC S 0) lv i)) (dgR (gC S 0 lv) (sdS (sF S 0) (sN S 0) (gC S 0) lv) ((d) * (31) + (nI (sN S 0 lv)).toInt64) i) j) * (31)) + ((nI (sdS (sF S 0) (sN S 0) (gC S 0) lv i)).toInt64))), (10, .int (nI (sdS (sF S 0) (sN S 0) (gC S 0) lv i))), (9, .int (nI j)), (8, .ref (aS ad (iR S 0 lv i))), (7, .int (nI i)), (4, .int (nI (sN S 0 lv))), (0, .ref (aX ad)), (1, .long (d)), (3, .int (nI lv))]) hx hb dX2_digestLevel_96 hl (by decide) rfl (fun ls hl => ?_)
        refine lv_iinc (v := nI (j + 1)) (lv' := [(9, .int (nI (j + 1))), (5, .long (((dgW (fcS (gC S 0 lv i) (sdS (sF S 0) (sN S 0) (gC S 0) lv i)) (dgR (gC S 0 lv) (sdS (sF S 0) (sN S 0) (gC S 0) lv) ((d) * (31) + (nI (sN S 0 lv)).toInt64) i) j) * (31)) + ((nI (sdS (sF S 0) (sN S 0) (gC S 0) lv i)).toInt64))), (10, .int (nI (sdS (sF S 0) (sN S 0) (gC S 0) lv i))), (8, .ref (aS ad (iR S 0 lv i))), (7, .int (nI i)), (4, .int (nI (sN S 0 lv))), (0, .ref (aX ad)), (1, .long (d)), (3, .int (nI lv))]) hx hb dX2_digestLevel_98 hl (k := 2) rfl (nI_add (j) 1) (by decide) rfl (fun ls hl => ?_)
        refine lv_goto (tgt := 54) hx hb dX2_digestLevel_101 (by decide) ?_
        exact ih54 (by omega) trivial ls (by show lv_has ls 11 [(9, .int (nI (j + 1))), (5, .long (dgW (fcS (gC S 0 lv i) (sdS (sF S 0) (sN S 0) (gC S 0) lv i)) (dgR (gC S 0 lv) (sdS (sF S 0) (sN S 0) (gC S 0) lv) ((d) * (31) + (nI (sN S 0 lv)).toInt64) i) (j + 1))), (8, .ref (aS ad (iR S 0 lv i))), (7, .int (nI i)), (4, .int (nI (sN S 0 lv))), (0, .ref (aX ad)), (1, .long (d)), (3, .int (nI lv))]; rw [show dgW (fcS (gC S 0 lv i) (sdS (sF S 0) (sN S 0) (gC S 0) lv i)) (dgR (gC S 0 lv) (sdS (sF S 0) (sN S 0) (gC S 0) lv) ((d) * (31) + (nI (sN S 0 lv)).toInt64) i) (j + 1) = dgW (fcS (gC S 0 lv i) (sdS (sF S 0) (sN S 0) (gC S 0) lv i)) (dgR (gC S 0 lv) (sdS (sF S 0) (sN S 0) (gC S 0) lv) ((d) * (31) + (nI (sN S 0 lv)).toInt64) i) j * 31 + (fcS (gC S 0 lv i) (sdS (sF S 0) (sN S 0) (gC S 0) lv i) j).toInt64 from rfl, ← fcS_5 c_64]; exact lv_sub hl [0, 1, 3, 4, 5, 6, 7, 8] rfl)
end
section
/-! METHODS THAT CERTAINLY THROW: the class' name, the world as it was -/
abbrev IOE : String := "java/lang/IndexOutOfBoundsException"
abbrev IAE : String := "java/lang/IllegalArgumentException"
abbrev ISE : String := "java/lang/IllegalStateException"
abbrev nm2 : List String := ["java/lang/RuntimeException", "java/lang/Exception"]
def strs : List (Nat × String) := [(39, "the word is not 0 to 99"), (60, "the level has no runs"), (73, "the room is not 1 to 8"), (82, "from is greater than to"), (96, "there is no such run"), (99, "what is not 0 to 5"), (111, "what is not 0 to 2"), (119, "what is not 0 to 6"), (148, "the number is not 0 to 63"), (150, "the level is not 0 to 3"), (155, "there is no such place")]
abbrev zB : List Cond := [.castable IOE IOE, .castable IAE IAE, .castable ISE ISE, .declares (Bundle.initS "java/lang/RuntimeException"), .declares (Bundle.initS "java/lang/Exception"), .declares (Bundle.initS Bundle.tN)]
def zA (U : State) : Prop := va_Nw (.castable IOE IOE) U ∧ va_Nw (.castable IAE IAE) U ∧ va_Nw (.castable ISE ISE) U ∧ va_Nw (.declares (Bundle.initS "java/lang/RuntimeException")) U ∧ va_Nw (.declares (Bundle.initS "java/lang/Exception")) U ∧ va_Nw (.declares (Bundle.initS Bundle.tN)) U ∧ va_Nc IAE IOE U ∧ va_Nc ISE IOE U
theorem zA.warm {s U : State} (hW : s.WarmedH U.vm) (h : zA s) : zA U := ⟨h.1.warmC hW, h.2.1.warmC hW, h.2.2.1.warmC hW, h.2.2.2.1.warmD hW, h.2.2.2.2.1.warmD hW, h.2.2.2.2.2.1.warmD hW, h.2.2.2.2.2.2.1.moved hW.alike, h.2.2.2.2.2.2.2.moved hW.alike⟩
theorem zA.same {u U : State} (hv : U.vm = u.vm) (h : zA u) : zA U := by
  have hal : u.vm.Alike U.vm := by rw [hv]; exact Vm.Alike.refl _
  exact ⟨h.1.same rfl hv.symm, h.2.1.same rfl hv.symm, h.2.2.1.same rfl hv.symm, h.2.2.2.1.same rfl hv.symm, h.2.2.2.2.1.same rfl hv.symm, h.2.2.2.2.2.1.same rfl hv.symm, h.2.2.2.2.2.2.1.moved hal, h.2.2.2.2.2.2.2.moved hal⟩
theorem zA.b {args : Array Value} {s : State} (h : zA s) : ∀ w ∈ zB, w.before args s = true := vx_c (va_Nw.use rfl h.1) (vx_c (va_Nw.use rfl h.2.1) (vx_c (va_Nw.use rfl h.2.2.1) (vx_c (va_Nw.use rfl h.2.2.2.1) (vx_c (va_Nw.use rfl h.2.2.2.2.1) (vx_c (va_Nw.use rfl h.2.2.2.2.2.1) vx_n)))))
theorem at98 {args : Array Value} {s : State} (hz : zA s) (h1 : ∀ w ∈ (vx_atS RX2 98 IOE nm2).filter goodWord, w.before args s = true) : ∀ w ∈ vx_atS RX2 98 IOE nm2, w.before args s = true := vx_hat h1 (B := zB) (by decide +kernel) hz.b
theorem at41 {args : Array Value} {s : State} (hz : zA s) (h1 : ∀ w ∈ (vx_atS RX2 41 IAE nm2).filter goodWord, w.before args s = true) : ∀ w ∈ vx_atS RX2 41 IAE nm2, w.before args s = true := vx_hat h1 (B := zB) (by decide +kernel) hz.b
theorem at62 {args : Array Value} {s : State} (hz : zA s) (h1 : ∀ w ∈ (vx_atS RX2 62 ISE nm2).filter goodWord, w.before args s = true) : ∀ w ∈ vx_atS RX2 62 ISE nm2, w.before args s = true := vx_hat h1 (B := zB) (by decide +kernel) hz.b
theorem ot98 : ∀ w ∈ Cond.classLink RX2 94 IOE :: Cond.initialized IOE :: vx_atS RX2 98 IOE nm2, vx_ot w = true := by decide +kernel
theorem ot41 : ∀ w ∈ Cond.classLink RX2 37 IAE :: Cond.initialized IAE :: vx_atS RX2 41 IAE nm2, vx_ot w = true := by decide +kernel
theorem ot62 : ∀ w ∈ Cond.classLink RX2 58 ISE :: Cond.initialized ISE :: vx_atS RX2 62 ISE nm2, vx_ot w = true := by decide +kernel
theorem fitE : Bundle.fit IOE = true ∧ Bundle.fit IAE = true ∧ Bundle.fit ISE = true ∧ ∀ n ∈ nm2, Bundle.fit n = true := by decide +kernel
/-- what a throw needs of the JDK's statics and of the constants -/
def hZ (A : Nat → Prop) (U : State) : Prop := vx_Zq Bundle.tN "UNASSIGNED_STACK" Bundle.steD A U U.heap ∧ vx_Zq Bundle.tN "SUPPRESSED_SENTINEL" Bundle.listD A U U.heap ∧ (∀ q ∈ strs, ∃ sa : Nat, vk_R RX2 q.1 q.2 sa U) ∧ zA U
theorem hZ.calling {A : Nat → Prop} {U V : State} (h : hZ A U) (hv : V.vm = U.vm) (hh : V.heap = U.heap) : hZ A V := by
  have hal : U.vm.Alike V.vm := by rw [hv]; exact Vm.Alike.refl _
  refine ⟨?_, ?_, fun q hq => ?_, h.2.2.2.same hv⟩
  · rw [hh]; exact h.1.moved hal
  · rw [hh]; exact h.2.1.moved hal
  · obtain ⟨sa, h1⟩ := h.2.2.1 q hq
    exact ⟨sa, vk_R.same hv h1⟩
theorem hZ.at {A : Nat → Prop} {s U : State} {H : Heap} {locs : List Loc} (h : hZ A s) (hU : U.heap = H) (hW : s.WarmedH U.vm) (hS : va_S A s.heap H locs) : hZ A U := by
  refine ⟨?_, ?_, fun q hq => ?_, h.2.2.2.warm hW⟩
  · rw [hU]; exact (h.1.moved hW.alike).kept (fun a h1 h2 => hS.2.1 a h1 h2)
  · rw [hU]; exact (h.2.1.moved hW.alike).kept (fun a h1 h2 => hS.2.1 a h1 h2)
  · obtain ⟨sa, h1⟩ := h.2.2.1 q hq
    exact ⟨sa, vk_R.warm hW h1⟩
def hPt (G : hG) (A : Nat → Prop) (hp : HP) (av : List Value) : Array Value → State → Prop := va_Pc av (fun U => hV G hp U.heap ∧ hK G U ∧ (∀ q : Nat, U.heap.size ≤ q → A q) ∧ hZ A U)
def XCt (G : hG) (A : Nat → Prop) (hp : HP) (E : String) : String → State → State → Prop := fun E2 st t => E2 = E ∧ hV G hp t.heap ∧ va_F A st t
def hTh (l : Launch) (y : MethodName) (ws : List Cond) (fr lo mc ms : Nat) (G : hG) (A : Nat → Prop) (hp : HP) (av : List Value) (E : String) : Prop := vx_Met l y ws { frames := fr, cells := mc, slots := ms, locals := lo } (hPt G A hp av) (fun _ _ _ _ => False) (XCt G A hp E) mc ms A
theorem hPt_blind {G : hG} {A : Nat → Prop} {hp : HP} {av : List Value} : FrameBlind (hPt G A hp av) := fun a U g mk q => ⟨q.1, q.2.1, hK.moved (u := U) (U := U.calling g mk a) (Vm.Alike.refl U.vm) q.2.2.1, q.2.2.2.1, q.2.2.2.2.calling rfl rfl⟩
theorem h_preVt {G : hG} {A : Nat → Prop} {hp : HP} {s : State} {H : Heap} {locs : List Loc} {b ci : Nat} {fs : List Value} {q : vw_C} {As : List Value} (hK0 : hK G s) (hV0 : hV G hp H) (hA : ∀ q : Nat, s.heap.size ≤ q → A q) (hZ0 : hZ A s) (hS : va_S A s.heap H locs) (he : hp b = some (.inr (ci, fs))) (hc : vwCl[ci]? = some q) : PreV s H q.1 b (hPt G A hp (.ref b :: As)) As :=
  ⟨hPt_blind, h_recv hK0 hV0 he hc, fun U hU hW => ⟨rfl, by rw [hU]; exact hV0, hK.moved hW.alike hK0, fun q hq => hA q (Nat.le_trans hS.1 (by rw [← hU]; exact hq)), hZ0.at hU hW hS⟩⟩
theorem h_preSt {G : hG} {A : Nat → Prop} {hp : HP} {s : State} {H : Heap} {locs : List Loc} {As : List Value} (hK0 : hK G s) (hV0 : hV G hp H) (hA : ∀ q : Nat, s.heap.size ≤ q → A q) (hZ0 : hZ A s) (hS : va_S A s.heap H locs) : PreS s H (hPt G A hp As) As :=
  ⟨hPt_blind, fun U hU hW => ⟨rfl, by rw [hU]; exact hV0, hK.moved hW.alike hK0, fun q hq => hA q (Nat.le_trans hS.1 (by rw [← hU]; exact hq)), hZ0.at hU hW hS⟩⟩
section HD
variable {p : Program} {l : Launch} {e : Env} {R : Room} {s : State} {m : MethodId} {args : Array Value} {below : List Frame} {meth : Method} {c : Code} {H : Heap} {locs : List Loc} {cells slots : Nat} {Q : State → Prop}
variable {cc : ByteArray} {pc : Nat} {ls : Array Slot} {rest st0 : List Value} {G : hG} {hp : HP} {A : Nat → Prop} {a : Nat} {mc ms : Nat}
theorem h_callT {E : String} {av : Array Value} (hr : vx_Run p l e R s m args below meth c H locs cells slots mc ms (F0 m pc ls st0) rest (fun _ _ _ => False) (XCt G A hp E) A) (hS : va_S A s.heap H locs)
    (kx : ∀ (q9 : Addr) (ce : Cell) (H1 : Heap) (locs1 : List Loc), hV G hp H1 → va_S A s.heap H1 locs1 → H1[q9]? = some ce → ce.vm = .none → s.vm.findClass E = some ce.cls → vx_W p l e R s m args below meth c H1 locs1 (cells + mc) (slots + ms) Q (F0 m pc ls rest) q9) : W p l e R s m args below meth c H locs cells slots Q (F0 m pc ls st0) := by
  intro T hT X
  rcases hr T hT X with ⟨v, st₀, t, T', L, h0, X', hL, e1, e2, hF, st⟩ | ⟨q, st₀, t, T', L, E2, ce, h0, X', hL, e1, e2, ⟨hE, hv, hF⟩, hce, hcv, hcl, st⟩
  · exact hF.elim
  · subst hE
    obtain ⟨k1, k2, k3⟩ := vx_keep h0 e1 hS (fun q _ h => h) (fun q h => h) hL hF
    obtain ⟨t2, a1, b1⟩ := kx q ce T'.heap (locs ++ L) (by rw [e1]; exact hv) k3 (by rw [e1]; exact hce) hcv hcl T' rfl X'
    exact ⟨t2, st.trans a1, b1⟩
theorem h_thV {E : String} {own C : String} {index maxL nL fr lo ci : Nat} {y : MethodName} {bytes : ByteArray} {ret : Option FieldType} {Ts ws ws' : List Cond} {fs As : List Value} {q : vw_C} (S : CallFix p m c cc nL s args Ts own) (hM : hTh l y ws fr lo mc ms G A hp (.ref a :: As) E) (n : Nat) (hT : GoodIn Ts (wsV own index C y ws)) (hw : ws = Cond.code y bytes maxL ret :: ws')
    (hd : y.cls = C ∧ y.cls ≠ "java/lang/invoke/MethodHandle" ∧ y.cls ≠ "java/lang/invoke/VarHandle" ∧ (parseMethodDescriptor y.desc).map (fun d => d.parameters.length) = some n) (hRm : fr + 1 ≤ R.frames ∧ 8 + (maxL + 11) + lo ≤ R.locals) (hK0 : hK G s) (hV0 : hV G hp H) (hA : ∀ q : Nat, s.heap.size ≤ q → A q) (hZ0 : hZ A s) (hS : va_S A s.heap H locs) (he : hp a = some (.inr (ci, fs))) (hc : vwCl[ci]? = some q) (hq : q.1 = C)
    (hn : As.length = n) (hsize : ls.size = nL) (hstack : st0 = As.reverse ++ .ref a :: rest) (hWs : (rest.map fun v => v.category).sum ≤ 8) (hcl : cells + mc ≤ R.cells ∧ slots + ms ≤ R.slots) (hdg : decode cc pc = .ok (.invokevirtual index, 3))
    (kx : ∀ (q9 : Addr) (ce : Cell) (H1 : Heap) (locs1 : List Loc), hV G hp H1 → va_S A s.heap H1 locs1 → H1[q9]? = some ce → ce.vm = .none → s.vm.findClass E = some ce.cls → vx_W p l e R s m args below meth c H1 locs1 (cells + mc) (slots + ms) Q (F0 m pc ls rest) q9) : W p l e R s m args below meth c H locs cells slots Q (F0 m pc ls st0) := by
  subst hq
  exact h_callT (av := (Value.ref a :: As).toArray) (vx_runV (As := As) (rest := rest) S hM (cwV n S.2.2.2.2 hT hw rfl rfl hd hRm) (h_preVt hK0 hV0 hA hZ0 hS he hc) rfl hn hsize hstack (lv_room hWs) hdg hcl) hS kx
theorem h_thS {E : String} {own : String} {index maxL nL fr lo : Nat} {y : MethodName} {bytes : ByteArray} {ret : Option FieldType} {Ts ws ws' : List Cond} {As : List Value} (S : CallFix p m c cc nL s args Ts own) (hM : hTh l y ws fr lo mc ms G A hp As E) (n : Nat) (hT : GoodIn Ts (va_wsS own index y ws)) (hw : ws = Cond.code y bytes maxL ret :: ws')
    (hd : y.cls ≠ "java/lang/invoke/MethodHandle" ∧ y.cls ≠ "java/lang/invoke/VarHandle" ∧ (parseMethodDescriptor y.desc).map (fun d => d.parameters.length) = some n) (hRm : fr + 1 ≤ R.frames ∧ 8 + (maxL + 11) + lo ≤ R.locals) (hK0 : hK G s) (hV0 : hV G hp H) (hA : ∀ q : Nat, s.heap.size ≤ q → A q) (hZ0 : hZ A s) (hS : va_S A s.heap H locs)
    (hn : As.length = n) (hsize : ls.size = nL) (hstack : st0 = As.reverse ++ rest) (hWs : (rest.map fun v => v.category).sum ≤ 8) (hcl : cells + mc ≤ R.cells ∧ slots + ms ≤ R.slots) (hdg : decode cc pc = .ok (.invokestatic index, 3))
    (kx : ∀ (q9 : Addr) (ce : Cell) (H1 : Heap) (locs1 : List Loc), hV G hp H1 → va_S A s.heap H1 locs1 → H1[q9]? = some ce → ce.vm = .none → s.vm.findClass E = some ce.cls → vx_W p l e R s m args below meth c H1 locs1 (cells + mc) (slots + ms) Q (F0 m pc ls rest) q9) : W p l e R s m args below meth c H locs cells slots Q (F0 m pc ls st0) :=
  h_callT (av := As.toArray) (vx_runS (As := As) (rest := rest) S hM (va_cwS n S.2.2.2.2 hT hw rfl rfl hd hRm) (h_preSt hK0 hV0 hA hZ0 hS) rfl hn hsize hstack (lv_room hWs) hdg hcl) hS kx
/-- a callee's throw goes on to the caller -/
theorem h_out {E : String} {q9 : Addr} {ce : Cell} (hout : ∀ x ∈ c.exceptionTable.toList, False) (hlocks : meth.locks = false) (hV0 : hV G hp H) (hS : va_S A s.heap H locs) (hcell : H[q9]? = some ce) (hv : ce.vm = .none) (hcl : s.vm.findClass E = some ce.cls) (hc : cells ≤ mc) (hs : slots ≤ ms) :
    vx_W p l e R s m args below meth c H locs cells slots (vx_MQ below (fun _ _ _ _ => False) (XCt G A hp E) args s mc ms A) (F0 m pc ls rest) q9 :=
  vx_out (fun x hx => (hout x hx).elim) hlocks hcell hv hcl (fun t ht _ => ⟨rfl, by rw [ht]; exact hV0, hS.F ht⟩) hS.2.2 hc hs
theorem h_throw (hexec : p.tables.exec = Jvm.exec) (hb : c.code = cc) (hlt : l.stackTraces = false) {cls text : String} {ik is ic : Nat} (hown : s.vm.findClass RX2 = some m.cls) (hcls : Bundle.fit cls = true)
    (hk : (Cond.classLink RX2 ik cls).before args s = true) (hini : (Cond.initialized cls).before args s = true) (hmem : (is, text) ∈ strs) (hat : ∀ w ∈ vx_atS RX2 ic cls nm2, w.before args s = true)
    (hgood : ∀ w ∈ Cond.classLink RX2 ik cls :: Cond.initialized cls :: vx_atS RX2 ic cls nm2, vx_ot w = true) (hZ0 : hZ A s) (hV0 : hV G hp H) (hS : va_S A s.heap H locs) (hsize : ls.size = c.maxLocals)
    (d0 : decode cc pc = .ok (.new ik, 3)) (d3 : decode cc (pc + 3) = .ok (.dup, 1)) (d4 : decode cc (pc + 4) = .ok (.ldc is, 2)) (d6 : decode cc (pc + 6) = .ok (.invokespecial ic, 3)) (d9 : decode cc (pc + 9) = .ok (.athrow, 1))
    (hout : ∀ x ∈ c.exceptionTable.toList, False) (hRframes : 6 ≤ R.frames) (hRlocals : (rest.map fun v => v.category).sum + 82 ≤ R.locals) (hRcells : cells + 1 ≤ R.cells) (hRslots : slots + 6 ≤ R.slots) (hlocks : meth.locks = false) (hc : cells + 1 ≤ mc) (hs : slots + 6 ≤ ms) :
    W p l e R s m args below meth c H locs cells slots (vx_MQ below (fun _ _ _ _ => False) (XCt G A hp cls) args s mc ms A) (F0 m pc ls rest) := by
  obtain ⟨sa, hstr⟩ := hZ0.2.2.1 _ hmem
  exact vx_throwS (names := nm2) hexec hb hlt hown hcls fitE.2.2.2 hk hini hstr hat hgood hZ0.1 hZ0.2.1 hS hsize d0 d3 d4 d6 d9 (fun x hx => (hout x hx).elim) hRframes hRlocals hRcells hRslots hlocks
    (fun t hal hz hk => ⟨rfl, fun a e he => (hV0 a e he).kept (hk a (hV0 a e he).lt), ⟨Nat.le_trans hS.1 hz, fun q h1 h2 => (hk q (Nat.lt_of_lt_of_le h1 hS.1)).trans (hS.2.1 q h1 h2)⟩⟩) hS.2.2 hc hs
end HD
end
