/-! making a Binder, a SlipLevels -/
theorem dfX1 : ∀ j, j < 6 → defaultValue (tyX1 j) = vp_V [.null, .int 0, .int 0, .int 0, .int 0, .int 0] j := fun j hj => match j, hj with
  | 0, _ => rfl
  | 1, _ => rfl
  | 2, _ => rfl
  | 3, _ => rfl
  | 4, _ => rfl
  | 5, _ => rfl
theorem dfX0 : ∀ j, j < 5 → defaultValue (tyX0 j) = vp_V [.null, .null, .null, .int 0, .int 0] j := fun j hj => match j, hj with
  | 0, _ => rfl
  | 1, _ => rfl
  | 2, _ => rfl
  | 3, _ => rfl
  | 4, _ => rfl
theorem hput_none {hp : HP} {a q : Nat} {e : hE} (h : hput hp a e q = none) : q ≠ a ∧ hp q = none := by
  by_cases h1 : q = a
  · subst h1
    rw [hput_s] at h
    cases h
  · rw [hput_n _ _ h1] at h
    exact ⟨h1, h⟩
theorem hp_ne {hp : HP} {a q : Nat} {e : hE} (h : hp a = some e) (h2 : hp q = none) : a ≠ q := fun z => by
  rw [z, h2] at h
  cases h
/-- a Binder under way: rows below i stand; keys 2 j, 2 j + 1 row j and its words, 24, 25 'merged', 26 the rows, 27 the counts -/
def lvK (i k : Nat) : Prop := k < 2 * i ∨ (24 ≤ k ∧ k < 28)
def bnQ (f : Nat → Nat) (i : Nat) : Nat → Option Nat := fun j => if j < i then some (f (2 * j)) else none
abbrev bnO (f : Nat → Nat) : List Value := [.ref (f 26), .ref (f 27), .ref (f 24), .int 0, .int 0]
def bnF (hp hp' : HP) (a i : Nat) (f : Nat → Nat) : Prop := (∀ k k2, lvK i k → lvK i k2 → f k = f k2 → k = k2) ∧ (∀ k, lvK i k → hp (f k) = none ∧ f k ≠ a) ∧ (∀ j, j < i ∨ j = 12 → slAt hp' (f (2 * j)) (f (2 * j + 1)) emR) ∧ hp' (f 26) = some (eQ 2 12 (bnQ f i)) ∧ hp' (f 27) = some (eI 4 (fun _ => 0)) ∧ hp' a = some (eO 0 (bnO f)) ∧ ∀ q, q ≠ a → (∀ k, lvK i k → q ≠ f k) → hp' q = hp q
theorem bnF.some {hp hp' : HP} {a i : Nat} {f : Nat → Nat} (h : bnF hp hp' a i f) {k : Nat} (hk : lvK i k) : ∃ e, hp' (f k) = some e := by
  obtain ⟨-, -, h1, h2, h3, -⟩ := h
  rcases hk with h4 | ⟨h4, h5⟩
  · have hm : k = 2 * (k / 2) ∨ k = 2 * (k / 2) + 1 := by omega
    have h6 := h1 (k / 2) (Or.inl (by omega))
    rcases hm with q | q
    · rw [q]; exact ⟨_, h6.1⟩
    · rw [q]; exact ⟨_, h6.2⟩
  · have h6 := h1 12 (Or.inr rfl)
    rcases (show k = 24 ∨ k = 25 ∨ k = 26 ∨ k = 27 by omega) with q | q | q | q
    · rw [q]; exact ⟨_, h6.1⟩
    · rw [q]; exact ⟨_, h6.2⟩
    · rw [q]; exact ⟨_, h2⟩
    · rw [q]; exact ⟨_, h3⟩
def bnU (f : Nat → Nat) (i q w : Nat) : Nat → Nat := fun k => if k = 2 * i then q else if k = 2 * i + 1 then w else f k
theorem bnU_n {f : Nat → Nat} {i q w k : Nat} (h : k ≠ 2 * i) (h2 : k ≠ 2 * i + 1) : bnU f i q w k = f k := by
  unfold bnU
  rw [if_neg h, if_neg h2]
theorem bn_step {hp hp' : HP} {a i q w : Nat} {f : Nat → Nat} {e0 : hE} (hi : i < 12) (h : bnF hp hp' a i f) (hq : hp' q = none) (hw : hput hp' q e0 w = none) :
    bnF hp (hput (hput (hput (hput hp' q e0) w (eI 64 emR)) q (eO 1 (slO w emR))) (f 26) (eQ 2 12 (va_up (bnQ f i) i (some q)))) a (i + 1) (bnU f i q w) := by
  have hso := fun k hk => h.some (k := k) hk
  obtain ⟨h1, h2, h3, h4, h5, h6, h7⟩ := h
  obtain ⟨hwq, hw0⟩ := hput_none hw
  have eq_ : bnU f i q w (2 * i) = q := if_pos rfl
  have ew_ : bnU f i q w (2 * i + 1) = w := by unfold bnU; rw [if_neg (by omega), if_pos rfl]
  have en_ : ∀ k, lvK i k → bnU f i q w k = f k := fun k hk => bnU_n (by rcases hk with z | z <;> omega) (by rcases hk with z | z <;> omega)
  have qn : ∀ k, lvK i k → f k ≠ q := fun k hk => by
    obtain ⟨e, he⟩ := hso k hk
    exact hp_ne he hq
  have wn : ∀ k, lvK i k → f k ≠ w := fun k hk => by
    obtain ⟨e, he⟩ := hso k hk
    exact hp_ne he hw0
  have qa : q ≠ a := (hp_ne h6 hq).symm
  have wa : w ≠ a := (hp_ne h6 hw0).symm
  have hk26 : lvK i 26 := Or.inr ⟨by omega, by omega⟩
  have hk27 : lvK i 27 := Or.inr ⟨by omega, by omega⟩
  have hsp : ∀ k, lvK (i + 1) k → lvK i k ∨ k = 2 * i ∨ k = 2 * i + 1 := fun k hk => by
    rcases hk with z | z
    · by_cases z2 : k < 2 * i
      · exact Or.inl (Or.inl z2)
      · omega
    · exact Or.inl (Or.inr z)
  have hp0 : ∀ x, hp x ≠ none → x ≠ a → (∀ k, lvK i k → x ≠ f k) → hp' x ≠ none := fun x z1 z2 z3 => by rw [h7 x z2 z3]; exact z1
  have rd : ∀ k, lvK i k → f k ≠ f 26 → hput (hput (hput (hput hp' q e0) w (eI 64 emR)) q (eO 1 (slO w emR))) (f 26) (eQ 2 12 (va_up (bnQ f i) i (some q))) (f k) = hp' (f k) := fun k hk hne => by
    rw [hput_n _ _ hne, hput_n _ _ (qn k hk), hput_n _ _ (wn k hk), hput_n _ _ (qn k hk)]
  refine ⟨fun k k2 g1 g2 g3 => ?_, fun k g1 => ?_, fun j g1 => ?_, ?_, ?_, ?_, fun x g1 g2 => ?_⟩
  · rcases hsp k g1 with z | z | z <;> rcases hsp k2 g2 with y | y | y
    · rw [en_ k z, en_ k2 y] at g3; exact h1 k k2 z y g3
    · rw [en_ k z, y, eq_] at g3; exact (qn k z g3).elim
    · rw [en_ k z, y, ew_] at g3; exact (wn k z g3).elim
    · rw [z, eq_, en_ k2 y] at g3; exact (qn k2 y g3.symm).elim
    · rw [z, y]
    · rw [z, y, eq_, ew_] at g3; exact (hwq g3.symm).elim
    · rw [z, ew_, en_ k2 y] at g3; exact (wn k2 y g3.symm).elim
    · rw [z, y, ew_, eq_] at g3; exact (hwq g3).elim
    · rw [z, y]
  · rcases hsp k g1 with z | z | z
    · rw [en_ k z]; exact h2 k z
    · rw [z, eq_]
      refine ⟨?_, qa⟩
      rw [← h7 q qa (fun k hk e => qn k hk e.symm)]; exact hq
    · rw [z, ew_]
      refine ⟨?_, wa⟩
      rw [← h7 w wa (fun k hk e => wn k hk e.symm)]; exact hw0
  · by_cases z : j = i
    · subst z
      rw [eq_, ew_]
      refine ⟨?_, ?_⟩
      · rw [hput_n _ _ (qn 26 hk26).symm, hput_s]
      · rw [hput_n _ _ (wn 26 hk26).symm, hput_n _ _ hwq, hput_s]
    · have z1 : j < i ∨ j = 12 := by omega
      have k1 : lvK i (2 * j) := by rcases z1 with y | y; exact Or.inl (by omega); exact Or.inr (by omega)
      have k2 : lvK i (2 * j + 1) := by rcases z1 with y | y; exact Or.inl (by omega); exact Or.inr (by omega)
      have n1 : f (2 * j) ≠ f 26 := fun y => by have := h1 _ _ k1 hk26 y; omega
      have n2 : f (2 * j + 1) ≠ f 26 := fun y => by have := h1 _ _ k2 hk26 y; omega
      rw [en_ _ k1, en_ _ k2]
      have h8 := h3 j z1
      exact ⟨(rd _ k1 n1).trans h8.1, (rd _ k2 n2).trans h8.2⟩
  · rw [en_ 26 hk26, hput_s]
    congr 3
    show va_up (bnQ f i) i (some q) = _
    funext j
    unfold va_up bnQ
    by_cases z : j = i
    · subst z
      rw [if_pos rfl, if_pos (by omega), eq_]
    · rw [if_neg z]
      by_cases y : j < i
      · rw [if_pos y, if_pos (by omega), en_ (2 * j) (Or.inl (by omega))]
      · rw [if_neg y, if_neg (by omega)]
  · rw [en_ 27 hk27, rd 27 hk27 (fun y => by have := h1 _ _ hk27 hk26 y; omega)]; exact h5
  · rw [hput_n _ _ (h2 26 hk26).2.symm, hput_n _ _ qa.symm, hput_n _ _ wa.symm, hput_n _ _ qa.symm]
    unfold bnO
    rw [en_ 26 hk26, en_ 27 hk27, en_ 24 (Or.inr ⟨by omega, by omega⟩)]
    exact h6
  · have b1 : x ≠ q := fun y => g2 (2 * i) (Or.inl (by omega)) (by rw [eq_]; exact y)
    have b2 : x ≠ w := fun y => g2 (2 * i + 1) (Or.inl (by omega)) (by rw [ew_]; exact y)
    have b3 : ∀ k, lvK i k → x ≠ f k := fun k hk y => g2 k (by rcases hk with z | z; exact Or.inl (by omega); exact Or.inr z) (by rw [en_ k hk]; exact y)
    rw [hput_n _ _ (b3 26 hk26), hput_n _ _ b1, hput_n _ _ b2, hput_n _ _ b1]
    exact h7 x g1 b3
def bn0 (q1 q2 q3 w : Nat) : Nat → Nat := fun k => if k = 24 then q3 else if k = 25 then w else if k = 26 then q1 else q2
theorem bn_0 {hp hp' : HP} {a q1 q2 q3 w : Nat} (n12 : q1 ≠ q2) (n13 : q1 ≠ q3) (n1w : q1 ≠ w) (n23 : q2 ≠ q3) (n2w : q2 ≠ w) (n3w : q3 ≠ w) (f1 : hp q1 = none ∧ q1 ≠ a) (f2 : hp q2 = none ∧ q2 ≠ a) (f3 : hp q3 = none ∧ q3 ≠ a) (f4 : hp w = none ∧ w ≠ a)
    (v1 : hp' q1 = some (eQ 2 12 (fun _ => none))) (v2 : hp' q2 = some (eI 4 (fun _ => 0))) (v3 : slAt hp' q3 w emR) (v4 : hp' a = some (eO 0 [.ref q1, .ref q2, .ref q3, .int 0, .int 0])) (hfr : ∀ x, x ≠ a → x ≠ q1 → x ≠ q2 → x ≠ q3 → x ≠ w → hp' x = hp x) : bnF hp hp' a 0 (bn0 q1 q2 q3 w) := by
  have hk : ∀ k, lvK 0 k → k = 24 ∨ k = 25 ∨ k = 26 ∨ k = 27 := fun k h => by unfold lvK at h; omega
  refine ⟨fun k k2 g1 g2 g3 => ?_, fun k g1 => ?_, fun j g1 => ?_, ?_, v2, v4, fun x g1 g2 => ?_⟩
  · rcases hk k g1 with rfl | rfl | rfl | rfl <;> rcases hk k2 g2 with rfl | rfl | rfl | rfl <;> first | rfl | exact absurd g3 n12 | exact absurd g3 n13 | exact absurd g3 n1w | exact absurd g3 n23 | exact absurd g3 n2w | exact absurd g3 n3w | exact absurd g3 n12.symm | exact absurd g3 n13.symm | exact absurd g3 n1w.symm | exact absurd g3 n23.symm | exact absurd g3 n2w.symm | exact absurd g3 n3w.symm
  · rcases hk k g1 with rfl | rfl | rfl | rfl
    · exact f3
    · exact f4
    · exact f1
    · exact f2
  · obtain rfl : j = 12 := by omega
    exact v3
  · show hp' q1 = _
    rw [v1]
    congr 3
  · exact hfr x g1 (g2 26 (Or.inr ⟨by omega, by omega⟩)) (g2 27 (Or.inr ⟨by omega, by omega⟩)) (g2 24 (Or.inr ⟨by omega, by omega⟩)) (g2 25 (Or.inr ⟨by omega, by omega⟩))

set_option maxHeartbeats 1000000 in
set_option maxRecDepth 100000 in
theorem c_X0_init (l : Launch) (G : hG) (A : Nat → Prop) (hp : HP) (a : Nat) (he : hp a = some (eO 0 [.null, .null, .null, .int 0, .int 0])) (hA0 : hIn A hp) : hWr l yX0_init wsX0_init 3 63 28 926 G A hp [.ref a] (fun ro hp' => ro = none ∧ ∃ f, bnF hp hp' a 12 f) := by
  refine Met.ofW (cc := cX0_init) (maxL := 2) (ret := none) (by decide) rfl ?_
  intro p e s m args below meth c s₁ B hml hv
  obtain ⟨rfl, hV0, hK0, hA⟩ := hv
  have hx := B.exec
  have hb := B.bytes
  have hr := B.returns
  have hts := atoms_spec (ws := wsX0_init) B.pre
  have hown : s.vm.findClass RX0 = some m.cls := findClass_of_methodNamed B.named
  have hlocks := B.notSynchronized
  have hin0 : meth.name = "<init>" := (name_of_methodNamed B.named B.method).1
  have hF : CallFix p m c cX0_init 2 s [.ref a].toArray wsX0_init RX0 := ⟨hx, hb, hml, hown, hts⟩
  have hw0 := hts (.methodLink RX0 3 objectInit) (by decide +kernel)
  have hw1 := hts (.instanceMethod objectInit) (by decide +kernel)
  have hw2 := hts (.code objectInit ⟨#[0xb1]⟩ 1 none) (by decide +kernel)
  have hw3 := hts (.classLink RX0 9 RX1) (by decide +kernel)
  have hw4 := hts (.fieldLink RX0 11 "SlipLevels$Binder" "rows" "[LSlipLevels$Slips;") (by decide +kernel)
  have hw5 := hts (.arrayClass .int) (by decide +kernel)
  have hw6 := hts (.fieldLink RX0 17 "SlipLevels$Binder" "runs" "[I") (by decide +kernel)
  have hw7 := hts (.instantiable RX1 6) (by decide +kernel)
  have hw8 := hts (.initialized RX1) (by decide +kernel)
  have hw9 := hts (.methodLink RX0 21 yX1_init) (by decide +kernel)
  have hw10 := hts (.instanceMethod yX1_init) (by decide +kernel)
  have hw11 := hts (.fieldLink RX0 22 "SlipLevels$Binder" "merged" "LSlipLevels$Slips;") (by decide +kernel)
  have hw12 := hts (.fieldLink RX0 26 "SlipLevels$Binder" "moves" "I") (by decide +kernel)
  have hw13 := hts (.fieldLink RX0 30 "SlipLevels$Binder" "mergings" "I") (by decide +kernel)
  have hi0 : ∀ w ∈ u_ws RX0 TX0 5, w ∈ wsX0_init := by
    intro w h
    unfold wsX0_init
    simp only [List.mem_cons, List.mem_append, h, true_or, or_true]
  have hi1 : ∀ w ∈ u_ws RX1 TX1 6, w ∈ wsX0_init := by
    intro w h
    unfold wsX0_init
    simp only [List.mem_cons, List.mem_append, h, true_or, or_true]
  have hS : va_S A s.heap s.heap [] := va_S.rf
  have hl := lv_entry ([.ref a]) (n := 2) (Nat.le_of_ble_eq_true rfl)
  rw [lg_entry_eq]
  generalize (lg_sl ([.ref a]) ++ List.replicate (2 - (lg_sl ([.ref a])).length) Slot.unset).toArray = ls at hl ⊢
  replace hl : lv_has ls 2 [(0, .ref a)] := hl
  refine lv_aload_n hx hb dX0_init_0 rfl (lv_at hl 0 rfl) ?_
  refine W.objInit hx hb hown hw0 hw1 hw2 rfl (by rw [hml]; exact hl.1) rfl dX0_init_1 (Nat.le_of_ble_eq_true rfl) (Nat.le_of_ble_eq_true rfl) ?_
  refine W.eq (g2 := F0 m 4 ls []) rfl ?_
  refine lv_aload_n hx hb dX0_init_4 rfl (lv_at hl 0 rfl) ?_
  refine lv_bipush (v := nI 12) hx hb dX0_init_5 (by decide) ?_
  refine h_newqO hx hb hown hw3 hK0 hV0 hA0 hS hA (n := 12) (by omega) (Nat.le_of_ble_eq_true rfl) (Nat.le_of_ble_eq_true rfl) dX0_init_7 (fun q1 H hqq1 hV0 hA0 hS => ?_)
  have hn_q1_a : a ≠ q1 := fun h => absurd ((he).symm.trans ((congrArg hp h).trans hqq1)) (fun h => by cases h)
  have he2 : (hput hp q1 (eQ 2 12 (fun _ => none))) q1 = some (eQ 2 12 (fun _ => none)) := hput_s _ _ _
  have he3 : (hput hp q1 (eQ 2 12 (fun _ => none))) a = some (eO 0 [.null, .null, .null, .int 0, .int 0]) := (hput_n _ _ hn_q1_a).trans he
  refine h_putF (v := .ref q1) hx hb hts hi0 tyX0 tyX0_ok nmX0 hown hK0 hV0 hA0 hS he3 rfl 0 (by decide) hw4 rfl hin0 rfl (by rfl) (by rfl) (Nat.le_of_ble_eq_true rfl) dX0_init_10 (fun H locs hV0 hA0 hS => ?_)
  have he4 : (hput (hput hp q1 (eQ 2 12 (fun _ => none))) a (eO 0 [.ref q1, .null, .null, .int 0, .int 0])) a = some (eO 0 [.ref q1, .null, .null, .int 0, .int 0]) := hput_s _ _ _
  have he5 : (hput (hput hp q1 (eQ 2 12 (fun _ => none))) a (eO 0 [.ref q1, .null, .null, .int 0, .int 0])) q1 = some (eQ 2 12 (fun _ => none)) := (hput_n _ _ (Ne.symm hn_q1_a)).trans ((by first | exact he2 | exact (hput_n _ _ (Ne.symm hn_q1_a)).symm.trans he2))
  refine lv_aload_n hx hb dX0_init_13 rfl (lv_at hl 0 rfl) ?_
  refine lv_iconst (v := nI 4) hx hb dX0_init_14 (by decide) ?_
  refine h_newI hx hb hw5 hK0 hV0 hA0 hS hA (n := 4) (by omega) (Nat.le_of_ble_eq_true rfl) (Nat.le_of_ble_eq_true rfl) dX0_init_15 (fun q6 H hqq6 hV0 hA0 hS => ?_)
  have hn_q6_a : a ≠ q6 := fun h => absurd ((he4).symm.trans ((congrArg (hput (hput hp q1 (eQ 2 12 (fun _ => none))) a (eO 0 [.ref q1, .null, .null, .int 0, .int 0])) h).trans hqq6)) (fun h => by cases h)
  have hn_q6_q1 : q1 ≠ q6 := fun h => absurd ((he5).symm.trans ((congrArg (hput (hput hp q1 (eQ 2 12 (fun _ => none))) a (eO 0 [.ref q1, .null, .null, .int 0, .int 0])) h).trans hqq6)) (fun h => by cases h)
  have he7 : (hput (hput (hput hp q1 (eQ 2 12 (fun _ => none))) a (eO 0 [.ref q1, .null, .null, .int 0, .int 0])) q6 (eI 4 (fun _ => 0))) q6 = some (eI 4 (fun _ => 0)) := hput_s _ _ _
  have he8 : (hput (hput (hput hp q1 (eQ 2 12 (fun _ => none))) a (eO 0 [.ref q1, .null, .null, .int 0, .int 0])) q6 (eI 4 (fun _ => 0))) a = some (eO 0 [.ref q1, .null, .null, .int 0, .int 0]) := (hput_n _ _ hn_q6_a).trans he4
  have he9 : (hput (hput (hput hp q1 (eQ 2 12 (fun _ => none))) a (eO 0 [.ref q1, .null, .null, .int 0, .int 0])) q6 (eI 4 (fun _ => 0))) q1 = some (eQ 2 12 (fun _ => none)) := (hput_n _ _ hn_q6_q1).trans he5
  refine h_putF (v := .ref q6) hx hb hts hi0 tyX0 tyX0_ok nmX0 hown hK0 hV0 hA0 hS he8 rfl 1 (by decide) hw6 rfl hin0 rfl (by rfl) (by rfl) (Nat.le_of_ble_eq_true rfl) dX0_init_17 (fun H locs hV0 hA0 hS => ?_)
  have he10 : (hput (hput (hput (hput hp q1 (eQ 2 12 (fun _ => none))) a (eO 0 [.ref q1, .null, .null, .int 0, .int 0])) q6 (eI 4 (fun _ => 0))) a (eO 0 [.ref q1, .ref q6, .null, .int 0, .int 0])) a = some (eO 0 [.ref q1, .ref q6, .null, .int 0, .int 0]) := hput_s _ _ _
  have he11 : (hput (hput (hput (hput hp q1 (eQ 2 12 (fun _ => none))) a (eO 0 [.ref q1, .null, .null, .int 0, .int 0])) q6 (eI 4 (fun _ => 0))) a (eO 0 [.ref q1, .ref q6, .null, .int 0, .int 0])) q1 = some (eQ 2 12 (fun _ => none)) := (hput_n _ _ (Ne.symm hn_q1_a)).trans ((by first | exact he9 | exact (hput_n _ _ (Ne.symm hn_q1_a)).symm.trans he9))
  have he12 : (hput (hput (hput (hput hp q1 (eQ 2 12 (fun _ => none))) a (eO 0 [.ref q1, .null, .null, .int 0, .int 0])) q6 (eI 4 (fun _ => 0))) a (eO 0 [.ref q1, .ref q6, .null, .int 0, .int 0])) q6 = some (eI 4 (fun _ => 0)) := (hput_n _ _ (Ne.symm hn_q6_a)).trans ((by first | exact he7 | exact (hput_n _ _ (Ne.symm hn_q6_a)).symm.trans he7))
  refine lv_aload_n hx hb dX0_init_20 rfl (lv_at hl 0 rfl) ?_
  refine h_new hx hb hts hi1 tyX1 tyX1_ok hown hw3 hw7 hw8 hK0 hV0 hA0 hS hA (ci := 1) rfl dfX1 (Nat.le_of_ble_eq_true rfl) (Nat.le_of_ble_eq_true rfl) dX0_init_21 (fun q13 H hqq13 hV0 hA0 hS => ?_)
  have hn_q13_a : a ≠ q13 := fun h => absurd ((he10).symm.trans ((congrArg (hput (hput (hput (hput hp q1 (eQ 2 12 (fun _ => none))) a (eO 0 [.ref q1, .null, .null, .int 0, .int 0])) q6 (eI 4 (fun _ => 0))) a (eO 0 [.ref q1, .ref q6, .null, .int 0, .int 0])) h).trans hqq13)) (fun h => by cases h)
  have hn_q13_q1 : q1 ≠ q13 := fun h => absurd ((he11).symm.trans ((congrArg (hput (hput (hput (hput hp q1 (eQ 2 12 (fun _ => none))) a (eO 0 [.ref q1, .null, .null, .int 0, .int 0])) q6 (eI 4 (fun _ => 0))) a (eO 0 [.ref q1, .ref q6, .null, .int 0, .int 0])) h).trans hqq13)) (fun h => by cases h)
  have hn_q13_q6 : q6 ≠ q13 := fun h => absurd ((he12).symm.trans ((congrArg (hput (hput (hput (hput hp q1 (eQ 2 12 (fun _ => none))) a (eO 0 [.ref q1, .null, .null, .int 0, .int 0])) q6 (eI 4 (fun _ => 0))) a (eO 0 [.ref q1, .ref q6, .null, .int 0, .int 0])) h).trans hqq13)) (fun h => by cases h)
  have he14 : (hput (hput (hput (hput (hput hp q1 (eQ 2 12 (fun _ => none))) a (eO 0 [.ref q1, .null, .null, .int 0, .int 0])) q6 (eI 4 (fun _ => 0))) a (eO 0 [.ref q1, .ref q6, .null, .int 0, .int 0])) q13 (eO 1 [.null, .int 0, .int 0, .int 0, .int 0, .int 0])) q13 = some (eO 1 [.null, .int 0, .int 0, .int 0, .int 0, .int 0]) := hput_s _ _ _
  have he15 : (hput (hput (hput (hput (hput hp q1 (eQ 2 12 (fun _ => none))) a (eO 0 [.ref q1, .null, .null, .int 0, .int 0])) q6 (eI 4 (fun _ => 0))) a (eO 0 [.ref q1, .ref q6, .null, .int 0, .int 0])) q13 (eO 1 [.null, .int 0, .int 0, .int 0, .int 0, .int 0])) a = some (eO 0 [.ref q1, .ref q6, .null, .int 0, .int 0]) := (hput_n _ _ hn_q13_a).trans he10
  have he16 : (hput (hput (hput (hput (hput hp q1 (eQ 2 12 (fun _ => none))) a (eO 0 [.ref q1, .null, .null, .int 0, .int 0])) q6 (eI 4 (fun _ => 0))) a (eO 0 [.ref q1, .ref q6, .null, .int 0, .int 0])) q13 (eO 1 [.null, .int 0, .int 0, .int 0, .int 0, .int 0])) q1 = some (eQ 2 12 (fun _ => none)) := (hput_n _ _ hn_q13_q1).trans he11
  have he17 : (hput (hput (hput (hput (hput hp q1 (eQ 2 12 (fun _ => none))) a (eO 0 [.ref q1, .null, .null, .int 0, .int 0])) q6 (eI 4 (fun _ => 0))) a (eO 0 [.ref q1, .ref q6, .null, .int 0, .int 0])) q13 (eO 1 [.null, .int 0, .int 0, .int 0, .int 0, .int 0])) q6 = some (eI 4 (fun _ => 0)) := (hput_n _ _ hn_q13_q6).trans he12
  refine lv_dup hx hb dX0_init_24 rfl ?_
  refine h_wrI (As := []) (rest := [.ref q13, .ref a]) hF (c_X1_init l G A (hput (hput (hput (hput (hput hp q1 (eQ 2 12 (fun _ => none))) a (eO 0 [.ref q1, .null, .null, .int 0, .int 0])) q6 (eI 4 (fun _ => 0))) a (eO 0 [.ref q1, .ref q6, .null, .int 0, .int 0])) q13 (eO 1 [.null, .int 0, .int 0, .int 0, .int 0, .int 0])) q13 he14 hA0) 0 gX0_init_X1_init rfl hw8 hw9 hw10 rfl (by decide +kernel) ⟨Nat.le_of_ble_eq_true rfl, Nat.le_of_ble_eq_true rfl⟩ hK0 hV0 hA hS rfl hl.1 rfl (Nat.le_of_ble_eq_true rfl) ⟨Nat.le_of_ble_eq_true rfl, Nat.le_of_ble_eq_true rfl⟩ dX0_init_25 (fun ro hp1 H locs hP1 hV0 hA0 hS => ?_)
  obtain ⟨rfl, w1, hqw1, rfl⟩ := hP1
  have hn_w1_a : a ≠ w1 := fun h => absurd ((he15).symm.trans ((congrArg (hput (hput (hput (hput (hput hp q1 (eQ 2 12 (fun _ => none))) a (eO 0 [.ref q1, .null, .null, .int 0, .int 0])) q6 (eI 4 (fun _ => 0))) a (eO 0 [.ref q1, .ref q6, .null, .int 0, .int 0])) q13 (eO 1 [.null, .int 0, .int 0, .int 0, .int 0, .int 0])) h).trans hqw1)) (fun h => by cases h)
  have hn_w1_q1 : q1 ≠ w1 := fun h => absurd ((he16).symm.trans ((congrArg (hput (hput (hput (hput (hput hp q1 (eQ 2 12 (fun _ => none))) a (eO 0 [.ref q1, .null, .null, .int 0, .int 0])) q6 (eI 4 (fun _ => 0))) a (eO 0 [.ref q1, .ref q6, .null, .int 0, .int 0])) q13 (eO 1 [.null, .int 0, .int 0, .int 0, .int 0, .int 0])) h).trans hqw1)) (fun h => by cases h)
  have hn_w1_q6 : q6 ≠ w1 := fun h => absurd ((he17).symm.trans ((congrArg (hput (hput (hput (hput (hput hp q1 (eQ 2 12 (fun _ => none))) a (eO 0 [.ref q1, .null, .null, .int 0, .int 0])) q6 (eI 4 (fun _ => 0))) a (eO 0 [.ref q1, .ref q6, .null, .int 0, .int 0])) q13 (eO 1 [.null, .int 0, .int 0, .int 0, .int 0, .int 0])) h).trans hqw1)) (fun h => by cases h)
  have hn_w1_q13 : q13 ≠ w1 := fun h => absurd ((he14).symm.trans ((congrArg (hput (hput (hput (hput (hput hp q1 (eQ 2 12 (fun _ => none))) a (eO 0 [.ref q1, .null, .null, .int 0, .int 0])) q6 (eI 4 (fun _ => 0))) a (eO 0 [.ref q1, .ref q6, .null, .int 0, .int 0])) q13 (eO 1 [.null, .int 0, .int 0, .int 0, .int 0, .int 0])) h).trans hqw1)) (fun h => by cases h)
  have he18 : (hput (hput (hput (hput (hput (hput hp q1 (eQ 2 12 (fun _ => none))) a (eO 0 [.ref q1, .null, .null, .int 0, .int 0])) q6 (eI 4 (fun _ => 0))) a (eO 0 [.ref q1, .ref q6, .null, .int 0, .int 0])) q13 (eO 1 [.null, .int 0, .int 0, .int 0, .int 0, .int 0])) w1 (eI 64 emR)) w1 = some (eI 64 emR) := hput_s _ _ _
  have he19 : (hput (hput (hput (hput (hput (hput hp q1 (eQ 2 12 (fun _ => none))) a (eO 0 [.ref q1, .null, .null, .int 0, .int 0])) q6 (eI 4 (fun _ => 0))) a (eO 0 [.ref q1, .ref q6, .null, .int 0, .int 0])) q13 (eO 1 [.null, .int 0, .int 0, .int 0, .int 0, .int 0])) w1 (eI 64 emR)) a = some (eO 0 [.ref q1, .ref q6, .null, .int 0, .int 0]) := (hput_n _ _ hn_w1_a).trans he15
  have he20 : (hput (hput (hput (hput (hput (hput hp q1 (eQ 2 12 (fun _ => none))) a (eO 0 [.ref q1, .null, .null, .int 0, .int 0])) q6 (eI 4 (fun _ => 0))) a (eO 0 [.ref q1, .ref q6, .null, .int 0, .int 0])) q13 (eO 1 [.null, .int 0, .int 0, .int 0, .int 0, .int 0])) w1 (eI 64 emR)) q1 = some (eQ 2 12 (fun _ => none)) := (hput_n _ _ hn_w1_q1).trans he16
  have he21 : (hput (hput (hput (hput (hput (hput hp q1 (eQ 2 12 (fun _ => none))) a (eO 0 [.ref q1, .null, .null, .int 0, .int 0])) q6 (eI 4 (fun _ => 0))) a (eO 0 [.ref q1, .ref q6, .null, .int 0, .int 0])) q13 (eO 1 [.null, .int 0, .int 0, .int 0, .int 0, .int 0])) w1 (eI 64 emR)) q6 = some (eI 4 (fun _ => 0)) := (hput_n _ _ hn_w1_q6).trans he17
  have he22 : (hput (hput (hput (hput (hput (hput hp q1 (eQ 2 12 (fun _ => none))) a (eO 0 [.ref q1, .null, .null, .int 0, .int 0])) q6 (eI 4 (fun _ => 0))) a (eO 0 [.ref q1, .ref q6, .null, .int 0, .int 0])) q13 (eO 1 [.null, .int 0, .int 0, .int 0, .int 0, .int 0])) w1 (eI 64 emR)) q13 = some (eO 1 [.null, .int 0, .int 0, .int 0, .int 0, .int 0]) := (hput_n _ _ hn_w1_q13).trans he14
  have he23 : (hput (hput (hput (hput (hput (hput (hput hp q1 (eQ 2 12 (fun _ => none))) a (eO 0 [.ref q1, .null, .null, .int 0, .int 0])) q6 (eI 4 (fun _ => 0))) a (eO 0 [.ref q1, .ref q6, .null, .int 0, .int 0])) q13 (eO 1 [.null, .int 0, .int 0, .int 0, .int 0, .int 0])) w1 (eI 64 emR)) q13 (eO 1 [.ref w1, .int (nI (szR emR)), .int (nI (tbR emR)), .int (nI (lsR emR)), .int (grR emR), .int (svR emR)])) q13 = some (eO 1 [.ref w1, .int (nI (szR emR)), .int (nI (tbR emR)), .int (nI (lsR emR)), .int (grR emR), .int (svR emR)]) := hput_s _ _ _
  have he24 : (hput (hput (hput (hput (hput (hput (hput hp q1 (eQ 2 12 (fun _ => none))) a (eO 0 [.ref q1, .null, .null, .int 0, .int 0])) q6 (eI 4 (fun _ => 0))) a (eO 0 [.ref q1, .ref q6, .null, .int 0, .int 0])) q13 (eO 1 [.null, .int 0, .int 0, .int 0, .int 0, .int 0])) w1 (eI 64 emR)) q13 (eO 1 [.ref w1, .int (nI (szR emR)), .int (nI (tbR emR)), .int (nI (lsR emR)), .int (grR emR), .int (svR emR)])) a = some (eO 0 [.ref q1, .ref q6, .null, .int 0, .int 0]) := (hput_n _ _ hn_q13_a).trans he19
  have he25 : (hput (hput (hput (hput (hput (hput (hput hp q1 (eQ 2 12 (fun _ => none))) a (eO 0 [.ref q1, .null, .null, .int 0, .int 0])) q6 (eI 4 (fun _ => 0))) a (eO 0 [.ref q1, .ref q6, .null, .int 0, .int 0])) q13 (eO 1 [.null, .int 0, .int 0, .int 0, .int 0, .int 0])) w1 (eI 64 emR)) q13 (eO 1 [.ref w1, .int (nI (szR emR)), .int (nI (tbR emR)), .int (nI (lsR emR)), .int (grR emR), .int (svR emR)])) q1 = some (eQ 2 12 (fun _ => none)) := (hput_n _ _ hn_q13_q1).trans he20
  have he26 : (hput (hput (hput (hput (hput (hput (hput hp q1 (eQ 2 12 (fun _ => none))) a (eO 0 [.ref q1, .null, .null, .int 0, .int 0])) q6 (eI 4 (fun _ => 0))) a (eO 0 [.ref q1, .ref q6, .null, .int 0, .int 0])) q13 (eO 1 [.null, .int 0, .int 0, .int 0, .int 0, .int 0])) w1 (eI 64 emR)) q13 (eO 1 [.ref w1, .int (nI (szR emR)), .int (nI (tbR emR)), .int (nI (lsR emR)), .int (grR emR), .int (svR emR)])) q6 = some (eI 4 (fun _ => 0)) := (hput_n _ _ hn_q13_q6).trans he21
  have he27 : (hput (hput (hput (hput (hput (hput (hput hp q1 (eQ 2 12 (fun _ => none))) a (eO 0 [.ref q1, .null, .null, .int 0, .int 0])) q6 (eI 4 (fun _ => 0))) a (eO 0 [.ref q1, .ref q6, .null, .int 0, .int 0])) q13 (eO 1 [.null, .int 0, .int 0, .int 0, .int 0, .int 0])) w1 (eI 64 emR)) q13 (eO 1 [.ref w1, .int (nI (szR emR)), .int (nI (tbR emR)), .int (nI (lsR emR)), .int (grR emR), .int (svR emR)])) w1 = some (eI 64 emR) := (hput_n _ _ (Ne.symm hn_w1_q13)).trans he18
  refine h_putF (v := .ref q13) hx hb hts hi0 tyX0 tyX0_ok nmX0 hown hK0 hV0 hA0 hS he24 rfl 2 (by decide) hw11 rfl hin0 rfl (by rfl) (by rfl) (Nat.le_of_ble_eq_true rfl) dX0_init_28 (fun H locs hV0 hA0 hS => ?_)
  have he28 : (hput (hput (hput (hput (hput (hput (hput (hput hp q1 (eQ 2 12 (fun _ => none))) a (eO 0 [.ref q1, .null, .null, .int 0, .int 0])) q6 (eI 4 (fun _ => 0))) a (eO 0 [.ref q1, .ref q6, .null, .int 0, .int 0])) q13 (eO 1 [.null, .int 0, .int 0, .int 0, .int 0, .int 0])) w1 (eI 64 emR)) q13 (eO 1 [.ref w1, .int (nI (szR emR)), .int (nI (tbR emR)), .int (nI (lsR emR)), .int (grR emR), .int (svR emR)])) a (eO 0 [.ref q1, .ref q6, .ref q13, .int 0, .int 0])) a = some (eO 0 [.ref q1, .ref q6, .ref q13, .int 0, .int 0]) := hput_s _ _ _
  have he29 : (hput (hput (hput (hput (hput (hput (hput (hput hp q1 (eQ 2 12 (fun _ => none))) a (eO 0 [.ref q1, .null, .null, .int 0, .int 0])) q6 (eI 4 (fun _ => 0))) a (eO 0 [.ref q1, .ref q6, .null, .int 0, .int 0])) q13 (eO 1 [.null, .int 0, .int 0, .int 0, .int 0, .int 0])) w1 (eI 64 emR)) q13 (eO 1 [.ref w1, .int (nI (szR emR)), .int (nI (tbR emR)), .int (nI (lsR emR)), .int (grR emR), .int (svR emR)])) a (eO 0 [.ref q1, .ref q6, .ref q13, .int 0, .int 0])) q1 = some (eQ 2 12 (fun _ => none)) := (hput_n _ _ (Ne.symm hn_q1_a)).trans ((by first | exact he25 | exact (hput_n _ _ (Ne.symm hn_q1_a)).symm.trans he25))
  have he30 : (hput (hput (hput (hput (hput (hput (hput (hput hp q1 (eQ 2 12 (fun _ => none))) a (eO 0 [.ref q1, .null, .null, .int 0, .int 0])) q6 (eI 4 (fun _ => 0))) a (eO 0 [.ref q1, .ref q6, .null, .int 0, .int 0])) q13 (eO 1 [.null, .int 0, .int 0, .int 0, .int 0, .int 0])) w1 (eI 64 emR)) q13 (eO 1 [.ref w1, .int (nI (szR emR)), .int (nI (tbR emR)), .int (nI (lsR emR)), .int (grR emR), .int (svR emR)])) a (eO 0 [.ref q1, .ref q6, .ref q13, .int 0, .int 0])) q6 = some (eI 4 (fun _ => 0)) := (hput_n _ _ (Ne.symm hn_q6_a)).trans ((by first | exact he26 | exact (hput_n _ _ (Ne.symm hn_q6_a)).symm.trans he26))
  have he31 : (hput (hput (hput (hput (hput (hput (hput (hput hp q1 (eQ 2 12 (fun _ => none))) a (eO 0 [.ref q1, .null, .null, .int 0, .int 0])) q6 (eI 4 (fun _ => 0))) a (eO 0 [.ref q1, .ref q6, .null, .int 0, .int 0])) q13 (eO 1 [.null, .int 0, .int 0, .int 0, .int 0, .int 0])) w1 (eI 64 emR)) q13 (eO 1 [.ref w1, .int (nI (szR emR)), .int (nI (tbR emR)), .int (nI (lsR emR)), .int (grR emR), .int (svR emR)])) a (eO 0 [.ref q1, .ref q6, .ref q13, .int 0, .int 0])) q13 = some (eO 1 [.ref w1, .int (nI (szR emR)), .int (nI (tbR emR)), .int (nI (lsR emR)), .int (grR emR), .int (svR emR)]) := (hput_n _ _ (Ne.symm hn_q13_a)).trans ((by first | exact he23 | exact (hput_n _ _ (Ne.symm hn_q13_a)).symm.trans he23))
  have he32 : (hput (hput (hput (hput (hput (hput (hput (hput hp q1 (eQ 2 12 (fun _ => none))) a (eO 0 [.ref q1, .null, .null, .int 0, .int 0])) q6 (eI 4 (fun _ => 0))) a (eO 0 [.ref q1, .ref q6, .null, .int 0, .int 0])) q13 (eO 1 [.null, .int 0, .int 0, .int 0, .int 0, .int 0])) w1 (eI 64 emR)) q13 (eO 1 [.ref w1, .int (nI (szR emR)), .int (nI (tbR emR)), .int (nI (lsR emR)), .int (grR emR), .int (svR emR)])) a (eO 0 [.ref q1, .ref q6, .ref q13, .int 0, .int 0])) w1 = some (eI 64 emR) := (hput_n _ _ (Ne.symm hn_w1_a)).trans ((by first | exact he27 | exact (hput_n _ _ (Ne.symm hn_w1_a)).symm.trans he27))
  refine lv_iconst (v := nI 0) hx hb dX0_init_31 (by decide) ?_
  refine lv_istore_n (lv' := [(1, .int (nI 0)), (0, .ref a)]) hx hb dX0_init_32 rfl hl (by decide) rfl (fun ls hl => ?_)
  have hI0 : bnF hp (hput (hput (hput (hput (hput (hput (hput (hput hp q1 (eQ 2 12 (fun _ => none))) a (eO 0 [.ref q1, .null, .null, .int 0, .int 0])) q6 (eI 4 (fun _ => 0))) a (eO 0 [.ref q1, .ref q6, .null, .int 0, .int 0])) q13 (eO 1 [.null, .int 0, .int 0, .int 0, .int 0, .int 0])) w1 (eI 64 emR)) q13 (eO 1 [.ref w1, .int (nI (szR emR)), .int (nI (tbR emR)), .int (nI (lsR emR)), .int (grR emR), .int (svR emR)])) a (eO 0 [.ref q1, .ref q6, .ref q13, .int 0, .int 0])) a 0 (bn0 q1 q6 q13 w1) := bn_0 hn_q6_q1 hn_q13_q1 hn_w1_q1 hn_q13_q6 hn_w1_q6 hn_w1_q13 ⟨hqq1, hn_q1_a.symm⟩ ⟨(hput_none (hput_none hqq6).2).2, hn_q6_a.symm⟩ ⟨(hput_none (hput_none (hput_none (hput_none hqq13).2).2).2).2, hn_q13_a.symm⟩ ⟨(hput_none (hput_none (hput_none (hput_none (hput_none hqw1).2).2).2).2).2, hn_w1_a.symm⟩ he29 he30 ⟨he31, he32⟩ he28 (fun x g0 g1 g2 g3 g4 => by rw [hput_n _ _ g0, hput_n _ _ g3, hput_n _ _ g4, hput_n _ _ g3, hput_n _ _ g0, hput_n _ _ g2, hput_n _ _ g0, hput_n _ _ g1])
  replace hl : lv_has ls 2 [(1, .int (nI 0)), (0, .ref a)] := lv_sub hl [0, 1] rfl
  refine h_loopW (G := G) (A := A) (H0 := s.heap) (Wf := fun i H locs ls => W p l e (headSpec wsX0_init { frames := 3, cells := 28, slots := 926, locals := 63 }).room s m ([.ref a].toArray) below meth c H locs (4 + 2 * i) (86 + 70 * i) (MQ below (hW G A (fun ro hp' => ro = none ∧ ∃ f, bnF hp hp' a 12 f)) ([.ref a].toArray) s 28 926 A) (F0 m 33 ls [])) 12 (fun i => [(1, .int (nI i)), (0, .ref a)]) (fun i hp' => ∃ f, bnF hp hp' a i f) (fun i hi33 hpL H locs hI1 hV0 hA0 hS ih33 ls hl => ?_) 0 (Nat.zero_le _) _ H locs ⟨_, hI0⟩ hV0 hA0 hS ls hl
  obtain ⟨f, hI⟩ := hI1
  have hI' := hI
  obtain ⟨-, -, -, hQ, -, hX, -⟩ := hI'
  refine lv_iload_n hx hb dX0_init_33 rfl (lv_at hl 0 rfl) ?_
  refine lv_aload_n hx hb dX0_init_34 rfl (lv_at hl 1 rfl) ?_
  refine h_get (v := .ref (f 26)) hx hb hts hi0 hown hK0 hV0 hX rfl 0 (by decide) hw4 rfl dX0_init_35 ?_
  refine h_alen hx hb hK0 hV0 hQ rfl dX0_init_38 ?_
  refine h_icmp_ge (a := i) (b := 12) (tgt := 61) hx hb dX0_init_39 (by decide) (by omega) (by omega) (fun c_39 => ?_) (fun c_39 => ?_)
  · obtain rfl : i = 12 := by omega
    refine lv_aload_n hx hb dX0_init_61 rfl (lv_at hl 1 rfl) ?_
    refine lv_iconst (v := nI 0) hx hb dX0_init_62 (by decide) ?_
    refine h_put (v := .int (nI 0)) hx hb hts hi0 tyX0 tyX0_ok nmX0 hown hK0 hV0 hA0 hS hX rfl 3 (by decide) hw12 rfl (by rfl) (by rfl) (Nat.le_of_ble_eq_true rfl) dX0_init_63 (fun H locs hV0 hA0 hS => ?_)
    have he33 : (hput hpL a (eO 0 [.ref (f 26), .ref (f 27), .ref (f 24), .int (nI 0), .int 0])) a = some (eO 0 [.ref (f 26), .ref (f 27), .ref (f 24), .int (nI 0), .int 0]) := hput_s _ _ _
    refine lv_aload_n hx hb dX0_init_66 rfl (lv_at hl 1 rfl) ?_
    refine lv_iconst (v := nI 0) hx hb dX0_init_67 (by decide) ?_
    refine h_put (v := .int (nI 0)) hx hb hts hi0 tyX0 tyX0_ok nmX0 hown hK0 hV0 hA0 hS he33 rfl 4 (by decide) hw13 rfl (by rfl) (by rfl) (Nat.le_of_ble_eq_true rfl) dX0_init_68 (fun H locs hV0 hA0 hS => ?_)
    rw [hput_hput] at hV0 hA0
    have he34 : (hput hpL a (eO 0 [.ref (f 26), .ref (f 27), .ref (f 24), .int (nI 0), .int (nI 0)])) a = some (eO 0 [.ref (f 26), .ref (f 27), .ref (f 24), .int (nI 0), .int (nI 0)]) := hput_s _ _ _
    have hsame : (hput hpL a (eO 0 [.ref (f 26), .ref (f 27), .ref (f 24), .int (nI 0), .int (nI 0)])) = hpL := hput_same hX
    replace hV0 : hV G (hput hpL a (eO 0 [.ref (f 26), .ref (f 27), .ref (f 24), .int (nI 0), .int (nI 0)])) H := hV0
    replace hA0 : hIn A (hput hpL a (eO 0 [.ref (f 26), .ref (f 27), .ref (f 24), .int (nI 0), .int (nI 0)])) := hA0
    rw [hsame] at hV0 hA0
    refine W.widen (k := 28) (n := 926) (by omega) (by omega) ?_
    exact W.vret hx hb hr (h_qW ⟨rfl, f, hI⟩ hV0 hA0 hS) hS.2.2 dX0_init_71 hlocks
  · refine lv_aload_n hx hb dX0_init_42 rfl (lv_at hl 1 rfl) ?_
    refine h_get (v := .ref (f 26)) hx hb hts hi0 hown hK0 hV0 hX rfl 0 (by decide) hw4 rfl dX0_init_43 ?_
    refine lv_iload_n hx hb dX0_init_46 rfl (lv_at hl 0 rfl) ?_
    refine h_new hx hb hts hi1 tyX1 tyX1_ok hown hw3 hw7 hw8 hK0 hV0 hA0 hS hA (ci := 1) rfl dfX1 (by show _ ≤ 28; omega) (by show _ ≤ 926; omega) dX0_init_47 (fun q35 H hqq35 hV0 hA0 hS => ?_)
    have hn_q35_a : a ≠ q35 := fun h => absurd ((hX).symm.trans ((congrArg hpL h).trans hqq35)) (fun h => by cases h)
    have hn_q35_f_26 : (f 26) ≠ q35 := fun h => absurd ((hQ).symm.trans ((congrArg hpL h).trans hqq35)) (fun h => by cases h)
    have he36 : (hput hpL q35 (eO 1 [.null, .int 0, .int 0, .int 0, .int 0, .int 0])) q35 = some (eO 1 [.null, .int 0, .int 0, .int 0, .int 0, .int 0]) := hput_s _ _ _
    have he37 : (hput hpL q35 (eO 1 [.null, .int 0, .int 0, .int 0, .int 0, .int 0])) a = some (eO 0 [.ref (f 26), .ref (f 27), .ref (f 24), .int 0, .int 0]) := (hput_n _ _ hn_q35_a).trans hX
    have he38 : (hput hpL q35 (eO 1 [.null, .int 0, .int 0, .int 0, .int 0, .int 0])) (f 26) = some (eQ 2 12 (bnQ f i)) := (hput_n _ _ hn_q35_f_26).trans hQ
    refine lv_dup hx hb dX0_init_50 rfl ?_
    refine h_wrI (As := []) (rest := [.ref q35, .int (nI i), .ref (f 26)]) hF (c_X1_init l G A (hput hpL q35 (eO 1 [.null, .int 0, .int 0, .int 0, .int 0, .int 0])) q35 he36 hA0) 0 gX0_init_X1_init rfl hw8 hw9 hw10 rfl (by decide +kernel) ⟨Nat.le_of_ble_eq_true rfl, Nat.le_of_ble_eq_true rfl⟩ hK0 hV0 hA hS rfl hl.1 rfl (Nat.le_of_ble_eq_true rfl) ⟨by show _ ≤ 28; omega, by show _ ≤ 926; omega⟩ dX0_init_51 (fun ro hp1 H locs hP1 hV0 hA0 hS => ?_)
    obtain ⟨rfl, w2, hqw2, rfl⟩ := hP1
    have hn_w2_a : a ≠ w2 := fun h => absurd ((he37).symm.trans ((congrArg (hput hpL q35 (eO 1 [.null, .int 0, .int 0, .int 0, .int 0, .int 0])) h).trans hqw2)) (fun h => by cases h)
    have hn_w2_f_26 : (f 26) ≠ w2 := fun h => absurd ((he38).symm.trans ((congrArg (hput hpL q35 (eO 1 [.null, .int 0, .int 0, .int 0, .int 0, .int 0])) h).trans hqw2)) (fun h => by cases h)
    have hn_w2_q35 : q35 ≠ w2 := fun h => absurd ((he36).symm.trans ((congrArg (hput hpL q35 (eO 1 [.null, .int 0, .int 0, .int 0, .int 0, .int 0])) h).trans hqw2)) (fun h => by cases h)
    have he39 : (hput (hput hpL q35 (eO 1 [.null, .int 0, .int 0, .int 0, .int 0, .int 0])) w2 (eI 64 emR)) w2 = some (eI 64 emR) := hput_s _ _ _
    have he40 : (hput (hput hpL q35 (eO 1 [.null, .int 0, .int 0, .int 0, .int 0, .int 0])) w2 (eI 64 emR)) a = some (eO 0 [.ref (f 26), .ref (f 27), .ref (f 24), .int 0, .int 0]) := (hput_n _ _ hn_w2_a).trans he37
    have he41 : (hput (hput hpL q35 (eO 1 [.null, .int 0, .int 0, .int 0, .int 0, .int 0])) w2 (eI 64 emR)) (f 26) = some (eQ 2 12 (bnQ f i)) := (hput_n _ _ hn_w2_f_26).trans he38
    have he42 : (hput (hput hpL q35 (eO 1 [.null, .int 0, .int 0, .int 0, .int 0, .int 0])) w2 (eI 64 emR)) q35 = some (eO 1 [.null, .int 0, .int 0, .int 0, .int 0, .int 0]) := (hput_n _ _ hn_w2_q35).trans he36
    have he43 : (hput (hput (hput hpL q35 (eO 1 [.null, .int 0, .int 0, .int 0, .int 0, .int 0])) w2 (eI 64 emR)) q35 (eO 1 [.ref w2, .int (nI (szR emR)), .int (nI (tbR emR)), .int (nI (lsR emR)), .int (grR emR), .int (svR emR)])) q35 = some (eO 1 [.ref w2, .int (nI (szR emR)), .int (nI (tbR emR)), .int (nI (lsR emR)), .int (grR emR), .int (svR emR)]) := hput_s _ _ _
    have he44 : (hput (hput (hput hpL q35 (eO 1 [.null, .int 0, .int 0, .int 0, .int 0, .int 0])) w2 (eI 64 emR)) q35 (eO 1 [.ref w2, .int (nI (szR emR)), .int (nI (tbR emR)), .int (nI (lsR emR)), .int (grR emR), .int (svR emR)])) a = some (eO 0 [.ref (f 26), .ref (f 27), .ref (f 24), .int 0, .int 0]) := (hput_n _ _ hn_q35_a).trans he40
    have he45 : (hput (hput (hput hpL q35 (eO 1 [.null, .int 0, .int 0, .int 0, .int 0, .int 0])) w2 (eI 64 emR)) q35 (eO 1 [.ref w2, .int (nI (szR emR)), .int (nI (tbR emR)), .int (nI (lsR emR)), .int (grR emR), .int (svR emR)])) (f 26) = some (eQ 2 12 (bnQ f i)) := (hput_n _ _ hn_q35_f_26).trans he41
    have he46 : (hput (hput (hput hpL q35 (eO 1 [.null, .int 0, .int 0, .int 0, .int 0, .int 0])) w2 (eI 64 emR)) q35 (eO 1 [.ref w2, .int (nI (szR emR)), .int (nI (tbR emR)), .int (nI (lsR emR)), .int (grR emR), .int (svR emR)])) w2 = some (eI 64 emR) := (hput_n _ _ (Ne.symm hn_w2_q35)).trans he39
    refine h_aastO (i := i) hx hb hK0 hV0 hA0 hS he45 he43 (by omega) (by omega) dX0_init_54 (fun H locs hV0 hA0 hS => ?_)
    have he47 : (hput (hput (hput (hput hpL q35 (eO 1 [.null, .int 0, .int 0, .int 0, .int 0, .int 0])) w2 (eI 64 emR)) q35 (eO 1 [.ref w2, .int (nI (szR emR)), .int (nI (tbR emR)), .int (nI (lsR emR)), .int (grR emR), .int (svR emR)])) (f 26) (eQ 2 12 (va_up (bnQ f i) i (some q35)))) (f 26) = some (eQ 2 12 (va_up (bnQ f i) i (some q35))) := hput_s _ _ _
    have he48 : (hput (hput (hput (hput hpL q35 (eO 1 [.null, .int 0, .int 0, .int 0, .int 0, .int 0])) w2 (eI 64 emR)) q35 (eO 1 [.ref w2, .int (nI (szR emR)), .int (nI (tbR emR)), .int (nI (lsR emR)), .int (grR emR), .int (svR emR)])) (f 26) (eQ 2 12 (va_up (bnQ f i) i (some q35)))) a = some (eO 0 [.ref (f 26), .ref (f 27), .ref (f 24), .int 0, .int 0]) := (hput_n _ _ (hI.2.1 26 (Or.inr ⟨by omega, by omega⟩)).2.symm).trans ((by first | exact he44 | exact (hput_n _ _ (hI.2.1 26 (Or.inr ⟨by omega, by omega⟩)).2.symm).symm.trans he44))
    have he49 : (hput (hput (hput (hput hpL q35 (eO 1 [.null, .int 0, .int 0, .int 0, .int 0, .int 0])) w2 (eI 64 emR)) q35 (eO 1 [.ref w2, .int (nI (szR emR)), .int (nI (tbR emR)), .int (nI (lsR emR)), .int (grR emR), .int (svR emR)])) (f 26) (eQ 2 12 (va_up (bnQ f i) i (some q35)))) q35 = some (eO 1 [.ref w2, .int (nI (szR emR)), .int (nI (tbR emR)), .int (nI (lsR emR)), .int (grR emR), .int (svR emR)]) := (hput_n _ _ (Ne.symm hn_q35_f_26)).trans ((by first | exact he43 | exact (hput_n _ _ (Ne.symm hn_q35_f_26)).symm.trans he43))
    have he50 : (hput (hput (hput (hput hpL q35 (eO 1 [.null, .int 0, .int 0, .int 0, .int 0, .int 0])) w2 (eI 64 emR)) q35 (eO 1 [.ref w2, .int (nI (szR emR)), .int (nI (tbR emR)), .int (nI (lsR emR)), .int (grR emR), .int (svR emR)])) (f 26) (eQ 2 12 (va_up (bnQ f i) i (some q35)))) w2 = some (eI 64 emR) := (hput_n _ _ (Ne.symm hn_w2_f_26)).trans ((by first | exact he46 | exact (hput_n _ _ (Ne.symm hn_w2_f_26)).symm.trans he46))
    refine lv_iinc (v := nI (i + 1)) (lv' := [(1, .int (nI (i + 1))), (0, .ref a)]) hx hb dX0_init_55 hl (k := 0) rfl (nI_add (i) 1) (by decide) rfl (fun ls hl => ?_)
    refine lv_goto (tgt := 33) hx hb dX0_init_58 (by decide) ?_
    refine W.widen (k := 4 + 2 * (i + 1)) (n := 86 + 70 * (i + 1)) (by omega) (by omega) ?_
    exact ih33 _ H locs (by omega) ⟨_, bn_step (by omega) hI hqq35 hqw2⟩ hV0 hA0 hS ls (lv_sub hl [0, 1] rfl)
