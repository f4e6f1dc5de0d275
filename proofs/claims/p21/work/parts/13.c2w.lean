/-! what SlipLevels' calls do to the state -/
def cI (S : CS) : Prop := ∀ l, l < 4 → sN S 0 l ≤ 2
def bfS (S : CS) : CS := stS (uF (adS S 0 0 0) 0 emR) 0 4
def tmS (S : CS) (l : Nat) : CS := stS (mgS (cpS S 4 4 0) 1 l) 1 4
def wrS (S : CS) (x : Nat) (v : Int32) : CS := uF S 0 (upd (sF S 0) x v)
theorem ddA_ex : ∃ f : CS → Nat → Int32, ∀ T i, f T i = nI (allD (sF (tmS T i) 0) (sN (tmS T i) 1) (gC (tmS T i) 1)) := ⟨fun T i => nI (allD (sF (tmS T i) 0) (sN (tmS T i) 1) (gC (tmS T i) 1)), fun _ _ => rfl⟩
noncomputable def ddA : CS → Nat → Int32 := Classical.choose ddA_ex
theorem ddA_e (T : CS) (i : Nat) : ddA T i = nI (allD (sF (tmS T i) 0) (sN (tmS T i) 1) (gC (tmS T i) 1)) := Classical.choose_spec ddA_ex T i
theorem c_X2_allDtm (l : Launch) (G : hG) (hp : HP) (ad : Nat → Nat) (T : CS) (i : Nat) (hC : cW ad (tmS T i) hp) : hRd l yX2_allDetoursIn wsX2_allDetoursIn 4 89 G hp [.ref (aX ad), .ref (aB ad 1)] (some (.int (ddA T i))) := by
  rw [ddA_e]
  exact c_X2_allDetoursIn l G hp ad (tmS T i) hC 1 (by decide)
noncomputable def avT (T : CS) (b f : Int32) (i : Nat) : CS × Int32 × Int32 := if sN T 0 i = 0 then (T, b, f) else if b < 0 ∨ ddA T i < f then (tmS T i, nI i, ddA T i) else (tmS T i, b, f)
noncomputable def avS (S : CS) : Nat → CS × Int32 × Int32
  | 0 => (S, -1, 0)
  | i + 1 => avT (avS S i).1 (avS S i).2.1 (avS S i).2.2 i
theorem oneB_all {n : Nat → Nat} (h : ∀ l, l < 4 → n l ≤ 2) (L : Nat) : oneB n L := fun l hl _ => h l hl
theorem sN_adS_n (S : CS) (k l j k2 l2 : Nat) (h : ¬ (k2 = k ∧ l2 = l)) : sN (adS S k l j) k2 l2 = sN S k2 l2 := by
  rw [sN_adS, if_neg h]
  split <;> rfl
theorem oneB_bf {S : CS} (h : cI S) : oneB (sN (uF (adS S 0 0 0) 0 emR) 0) 0 := fun l hl hne => by
  show sN (adS S 0 0 0) 0 l ≤ 2
  rw [sN_adS_n _ _ _ _ _ _ (by omega)]
  exact h l hl
theorem sN_mg3_k (S : CS) (k l k2 l2 : Nat) (h : k2 ≠ k) : sN (mg3 S k l) k2 l2 = sN S k2 l2 := by
  unfold mg3
  rw [sN_adS_n _ _ _ _ _ _ (fun z => h z.1), sN_mg2, if_neg (fun z => h z.1)]
theorem sN_mgS_k (S : CS) (k l k2 l2 : Nat) (h : k2 ≠ k) : sN (mgS S k l) k2 l2 = sN S k2 l2 := sN_mg3_k S k l k2 l2 h
theorem sN_stS_k (S : CS) (k k2 l2 : Nat) (h : k2 ≠ k) : ∀ m, sN (stS S k m) k2 l2 = sN S k2 l2
  | 0 => rfl
  | m + 1 => by
    unfold stS
    split
    · rw [sN_mgS_k _ _ _ _ _ h]
      exact sN_stS_k S k k2 l2 h m
    · exact sN_stS_k S k k2 l2 h m
theorem sN_tmS (S : CS) (l l2 : Nat) : sN (tmS S l) 0 l2 = sN S 0 l2 := by
  unfold tmS
  rw [sN_stS_k _ _ _ _ (by decide), sN_mgS_k _ _ _ _ _ (by decide), cpS_N0]
theorem oneB_tm {S : CS} (hok : cOk S) (h : cI S) (L : Nat) : oneB (sN (cpS S 4 4 0) 1) L := by
  rw [cpE_N hok]
  exact oneB_all h L
theorem avT_n {T : CS} {b f : Int32} {i : Nat} (h : sN T 0 i = 0) : avT T b f i = (T, b, f) := if_pos h
theorem avT_y {T : CS} {b f : Int32} {i : Nat} (h : ¬ sN T 0 i = 0) (h2 : b < 0 ∨ ddA T i < f) : avT T b f i = (tmS T i, nI i, ddA T i) := (if_neg h).trans (if_pos h2)
theorem avT_k {T : CS} {b f : Int32} {i : Nat} (h : ¬ sN T 0 i = 0) (h2 : ¬ (b < 0 ∨ ddA T i < f)) : avT T b f i = (tmS T i, b, f) := (if_neg h).trans (if_neg h2)
theorem avE {a : CS × Int32 × Int32} {x : CS} {y z : Int32} (h : a = (x, y, z)) : a.1 = x ∧ a.2.1 = y ∧ a.2.2 = z := by
  subst h
  exact ⟨rfl, rfl, rfl⟩
theorem avT_N (T : CS) (b f : Int32) (i l2 : Nat) : sN (avT T b f i).1 0 l2 = sN T 0 l2 := by
  by_cases h : sN T 0 i = 0
  · rw [avT_n h]
  · by_cases h2 : b < 0 ∨ ddA T i < f
    · have e := (avE (avT_y h h2)).1
      rw [e]
      exact sN_tmS T i l2
    · have e := (avE (avT_k h h2)).1
      rw [e]
      exact sN_tmS T i l2
theorem sN_avS (S : CS) (l2 : Nat) : ∀ i, sN (avS S i).1 0 l2 = sN S 0 l2
  | 0 => rfl
  | i + 1 => (avT_N (avS S i).1 (avS S i).2.1 (avS S i).2.2 i l2).trans (sN_avS S l2 i)
theorem cI_avS {S : CS} (h : cI S) (i : Nat) : cI (avS S i).1 := fun l hl => by rw [sN_avS]; exact h l hl
theorem avS_n {S : CS} {i : Nat} (h : sN (avS S i).1 0 i = 0) : (avS S (i + 1)).1 = (avS S i).1 ∧ (avS S (i + 1)).2.1 = (avS S i).2.1 ∧ (avS S (i + 1)).2.2 = (avS S i).2.2 := avE (avT_n (b := (avS S i).2.1) (f := (avS S i).2.2) h)
theorem avS_y {S : CS} {i : Nat} (h : ¬ sN (avS S i).1 0 i = 0) (h2 : (avS S i).2.1 < 0 ∨ ddA (avS S i).1 i < (avS S i).2.2) : (avS S (i + 1)).1 = tmS (avS S i).1 i ∧ (avS S (i + 1)).2.1 = nI i ∧ (avS S (i + 1)).2.2 = ddA (avS S i).1 i := avE (avT_y h h2)
theorem avS_k {S : CS} {i : Nat} (h : ¬ sN (avS S i).1 0 i = 0) (h1 : ¬ (avS S i).2.1 < 0) (h2 : (avS S i).2.2 ≤ ddA (avS S i).1 i) : (avS S (i + 1)).1 = tmS (avS S i).1 i ∧ (avS S (i + 1)).2.1 = (avS S i).2.1 ∧ (avS S (i + 1)).2.2 = (avS S i).2.2 := avE (avT_k h (fun z => z.elim h1 (fun z => absurd h2 (Int32.not_le.mpr z))))
/-! how many moves -/
def stM (S : CS) (k : Nat) : Nat → Nat
  | 0 => 0
  | m + 1 => if 3 ≤ sN (stS S k m) k m then stM S k m + szR (sF (mg2 (stS S k m) k m) (13 + 13 * k)) else stM S k m
theorem sV_adS (S : CS) (k l j : Nat) : sV (adS S k l j) k = sV S k + nI (szR (sF S j)) := by
  unfold adS
  split
  · rename_i h
    rw [h, nI_0]
    simp
  · exact if_pos rfl
theorem sV_mgS (S : CS) (k l : Nat) : sV (mgS S k l) k = sV S k + nI (szR (sF (mg2 S k l) (13 + 13 * k))) := sV_adS (mg2 S k l) k _ _
theorem sV_stS (S : CS) (k : Nat) : ∀ m, sV (stS S k m) k = sV S k + nI (stM S k m)
  | 0 => by
    show sV S k = sV S k + nI 0
    rw [nI_0]
    simp
  | m + 1 => by
    unfold stS stM
    split
    · rw [sV_mgS, sV_stS S k m, Int32.add_assoc, nI_add]
    · exact sV_stS S k m
theorem stM_le (S : CS) (k : Nat) : ∀ m, stM S k m ≤ 64 * m
  | 0 => Nat.le_refl _
  | m + 1 => by
    have := stM_le S k m
    unfold stM
    split
    · have := szR_le (sF (mg2 (stS S k m) k m) (13 + 13 * k))
      omega
    · omega
def bfM (S : CS) : Nat := szR (sF S 0) + stM (uF (adS S 0 0 0) 0 emR) 0 4
theorem bfV (S : CS) : sV (bfS S) 0 = sV S 0 + nI (bfM S) := by
  unfold bfS bfM
  rw [sV_stS]
  show sV (adS S 0 0 0) 0 + _ = _
  rw [sV_adS, Int32.add_assoc, nI_add]
theorem bfM_le (S : CS) : bfM S ≤ 64 * 5 := by
  have h1 := szR_le (sF S 0)
  have h2 := stM_le (uF (adS S 0 0 0) 0 emR) 0 4
  unfold bfM
  omega
theorem bfD (S : CS) : sV (bfS S) 0 - sV S 0 = nI (bfM S) := by
  rw [bfV, Int32.add_comm]
  exact Int32.add_sub_cancel _ _
theorem bfD_pos {S : CS} (h : 0 < szR (sF S 0)) : 0 < sV (bfS S) 0 - sV S 0 := by
  rw [bfD]
  have := bfM_le S
  have h2 : 0 < bfM S := by unfold bfM; omega
  exact nI_lt h2 (by omega)
theorem szR_put {f : Row} {x : Nat} {v : Int32} (hx : x < 64) (hv : v ≠ -2) : 0 < szR (upd f x v) := by
  have h1 := szR_upd f hx hv
  by_cases e : f x = -2
  · rw [if_pos e] at h1
    omega
  · rw [if_neg e] at h1
    have h2 := cntB_upd (p := fun k => if k = x then false else hasR f k) (q := hasR f) (i := x) (fun k hk => if_neg hk) hx
    have h3 : hasR f x = true := hasR_true e
    rw [h3] at h2
    simp at h2
    have h4 : szR f = cntB (hasR f) 64 := rfl
    omega
theorem nIne2 {v : Nat} (h : v < 100) : nI v ≠ -2 := fun z => by
  have h1 : (0 : Int32) ≤ nI v := nI_pos' (by omega)
  rw [z] at h1
  exact absurd h1 (by decide)
theorem okR_put {f : Row} {x : Nat} {v : Int32} (h : okR f) (hx : x < 64) (hv : v = -1 ∨ ∃ w : Nat, w < 100 ∧ v = nI w) : okR (upd f x v) := by
  refine ⟨fun j hj => ?_, fun j => ?_⟩
  · unfold upd
    rw [if_neg (by omega)]
    exact h.1 j hj
  · unfold upd
    split
    · exact Or.inr hv
    · exact h.2 j
theorem sz_lt1 {z : Nat} (hz : z ≤ 64) (h : nI z < nI 1) : z = 0 := by
  have := (nI_ltI (by omega) (by decide)).mp h
  omega
theorem sz_lt1b {z : Nat} (h : z = 0) : nI z < nI 1 := by
  rw [h]
  decide

set_option maxHeartbeats 1000000 in
set_option maxRecDepth 100000 in
theorem c_X2_bindFromN (l : Launch) (G : hG) (A : Nat → Prop) (hp : HP) (ad : Nat → Nat) (S : CS) (hC : cW ad S hp) (hI : cI S) (fw : Int32) (hfw : nI (szR (sF S 0)) < fw) (hA0 : hIn A hp) : hWr l yX2_bindFrom wsX2_bindFrom 1 20 0 0 G A hp [.ref (aX ad), .int fw] (fun ro hp' => ro = some (.int 0) ∧ cT ad hp S hp') := by
  refine Met.ofW (cc := cX2_bindFrom) (maxL := 3) (ret := (some .int)) (by decide) rfl ?_
  intro p e s m args below meth c s₁ B hml hv
  obtain ⟨rfl, hV0, hK0, hA⟩ := hv
  have hx := B.exec
  have hb := B.bytes
  have hr := B.returns
  have hts := atoms_spec (ws := wsX2_bindFrom) B.pre
  have hown : s.vm.findClass RX2 = some m.cls := findClass_of_methodNamed B.named
  have hlocks := B.notSynchronized
  have hF : CallFix p m c cX2_bindFrom 3 s [.ref (aX ad), .int fw].toArray wsX2_bindFrom RX2 := ⟨hx, hb, hml, hown, hts⟩
  have hw0 := hts (.fieldLink RX2 10 "SlipLevels" "deskSlips" "LSlipLevels$Slips;") (by decide +kernel)
  have hi2 : ∀ w ∈ u_ws RX2 TX2 5, w ∈ wsX2_bindFrom := by
    intro w h
    unfold wsX2_bindFrom
    simp only [List.mem_cons, List.mem_append, h, true_or, or_true]
  have hS : va_S A s.heap s.heap [] := va_S.rf
  have hl := lv_entry ([.ref (aX ad), .int fw]) (n := 3) (Nat.le_of_ble_eq_true rfl)
  rw [lg_entry_eq]
  generalize (lg_sl ([.ref (aX ad), .int fw]) ++ List.replicate (3 - (lg_sl ([.ref (aX ad), .int fw])).length) Slot.unset).toArray = ls at hl ⊢
  replace hl : lv_has ls 3 [(0, .ref (aX ad)), (1, .int fw)] := hl
  have hT := cT.rf hC
  refine lv_aload_n hx hb dX2_bindFrom_0 rfl (lv_at hl 0 rfl) ?_
  refine h_get (v := .ref (aS ad 0)) hx hb hts hi2 hown hK0 hV0 hC.xo rfl 0 (by decide) hw0 rfl dX2_bindFrom_1 ?_
  refine h_rdV (As := []) (rest := []) hF (c_X1_size l G _ (aS ad 0) (aW ad 0) (sF S 0) (hC.sl (by omega))) 0 gX2_bindFrom_X1_size rfl (by decide +kernel) ⟨Nat.le_of_ble_eq_true rfl, Nat.le_of_ble_eq_true rfl⟩ hK0 hV0 (hC.sl (by omega)).1 rfl rfl rfl hl.1 rfl (Nat.le_of_ble_eq_true rfl) (Nat.le_of_ble_eq_true rfl) (Nat.le_of_ble_eq_true rfl) dX2_bindFrom_4 ?_
  refine lv_iload_n hx hb dX2_bindFrom_7 rfl (lv_at hl 1 rfl) ?_
  refine lv_icmp_ge (tgt := 13) hx hb dX2_bindFrom_8 (by decide) (fun c_8 => absurd c_8 (Int32.not_le.mpr hfw)) (fun c_8 => ?_)
  refine lv_iconst (v := nI 0) hx hb dX2_bindFrom_11 (by decide) ?_
  exact W.iret hx hb hr (h_qW ⟨rfl, hT⟩ hV0 hA0 hS) hS.2.2 dX2_bindFrom_12 hlocks

set_option maxHeartbeats 1000000 in
set_option maxRecDepth 100000 in
theorem c_X2_bindFrom (l : Launch) (G : hG) (A : Nat → Prop) (hp : HP) (ad : Nat → Nat) (S : CS) (hC : cW ad S hp) (hI : cI S) (fw : Int32) (hfw : ¬ nI (szR (sF S 0)) < fw) (hA0 : hIn A hp) : hWr l yX2_bindFrom wsX2_bindFrom 5 113 0 0 G A hp [.ref (aX ad), .int fw] (fun ro hp' => ro = some (.int (sV (bfS S) 0 - sV S 0)) ∧ cT ad hp (bfS S) hp') := by
  refine Met.ofW (cc := cX2_bindFrom) (maxL := 3) (ret := (some .int)) (by decide) rfl ?_
  intro p e s m args below meth c s₁ B hml hv
  obtain ⟨rfl, hV0, hK0, hA⟩ := hv
  have hx := B.exec
  have hb := B.bytes
  have hr := B.returns
  have hts := atoms_spec (ws := wsX2_bindFrom) B.pre
  have hown : s.vm.findClass RX2 = some m.cls := findClass_of_methodNamed B.named
  have hlocks := B.notSynchronized
  have hF : CallFix p m c cX2_bindFrom 3 s [.ref (aX ad), .int fw].toArray wsX2_bindFrom RX2 := ⟨hx, hb, hml, hown, hts⟩
  have hw0 := hts (.fieldLink RX2 10 "SlipLevels" "deskSlips" "LSlipLevels$Slips;") (by decide +kernel)
  have hw1 := hts (.fieldLink RX2 19 "SlipLevels" "binder" "LSlipLevels$Binder;") (by decide +kernel)
  have hi2 : ∀ w ∈ u_ws RX2 TX2 5, w ∈ wsX2_bindFrom := by
    intro w h
    unfold wsX2_bindFrom
    simp only [List.mem_cons, List.mem_append, h, true_or, or_true]
  have hS : va_S A s.heap s.heap [] := va_S.rf
  have hl := lv_entry ([.ref (aX ad), .int fw]) (n := 3) (Nat.le_of_ble_eq_true rfl)
  rw [lg_entry_eq]
  generalize (lg_sl ([.ref (aX ad), .int fw]) ++ List.replicate (3 - (lg_sl ([.ref (aX ad), .int fw])).length) Slot.unset).toArray = ls at hl ⊢
  replace hl : lv_has ls 3 [(0, .ref (aX ad)), (1, .int fw)] := hl
  have hT := cT.rf hC
  refine lv_aload_n hx hb dX2_bindFrom_0 rfl (lv_at hl 0 rfl) ?_
  refine h_get (v := .ref (aS ad 0)) hx hb hts hi2 hown hK0 hV0 hC.xo rfl 0 (by decide) hw0 rfl dX2_bindFrom_1 ?_
  refine h_rdV (As := []) (rest := []) hF (c_X1_size l G _ (aS ad 0) (aW ad 0) (sF S 0) (hC.sl (by omega))) 0 gX2_bindFrom_X1_size rfl (by decide +kernel) ⟨Nat.le_of_ble_eq_true rfl, Nat.le_of_ble_eq_true rfl⟩ hK0 hV0 (hC.sl (by omega)).1 rfl rfl rfl hl.1 rfl (Nat.le_of_ble_eq_true rfl) (Nat.le_of_ble_eq_true rfl) (Nat.le_of_ble_eq_true rfl) dX2_bindFrom_4 ?_
  refine lv_iload_n hx hb dX2_bindFrom_7 rfl (lv_at hl 1 rfl) ?_
  refine lv_icmp_ge (tgt := 13) hx hb dX2_bindFrom_8 (by decide) (fun c_8 => ?_) (fun c_8 => absurd (Int32.not_lt.mp hfw) c_8)
  refine lv_aload_n hx hb dX2_bindFrom_13 rfl (lv_at hl 0 rfl) ?_
  refine h_get (v := .ref (aB ad 0)) hx hb hts hi2 hown hK0 hV0 hC.xo rfl 1 (by decide) hw1 rfl dX2_bindFrom_14 ?_
  refine h_rdV (As := []) (rest := []) hF (c_X0_moves l G _ ad S hC 0 (by decide)) 0 gX2_bindFrom_X0_moves rfl (by decide +kernel) ⟨Nat.le_of_ble_eq_true rfl, Nat.le_of_ble_eq_true rfl⟩ hK0 hV0 (hC.bo (by decide)) rfl rfl rfl hl.1 rfl (Nat.le_of_ble_eq_true rfl) (Nat.le_of_ble_eq_true rfl) (Nat.le_of_ble_eq_true rfl) dX2_bindFrom_17 ?_
  refine lv_istore_n (lv' := [(2, .int (sV S 0)), (0, .ref (aX ad)), (1, .int fw)]) hx hb dX2_bindFrom_20 rfl hl (by decide) rfl (fun ls hl => ?_)
  refine lv_aload_n hx hb dX2_bindFrom_21 rfl (lv_at hl 1 rfl) ?_
  refine h_get (v := .ref (aB ad 0)) hx hb hts hi2 hown hK0 hV0 hC.xo rfl 1 (by decide) hw1 rfl dX2_bindFrom_22 ?_
  refine lv_iconst (v := nI 0) hx hb dX2_bindFrom_25 (by decide) ?_
  refine lv_aload_n hx hb dX2_bindFrom_26 rfl (lv_at hl 1 rfl) ?_
  refine h_get (v := .ref (aS ad 0)) hx hb hts hi2 hown hK0 hV0 hC.xo rfl 0 (by decide) hw0 rfl dX2_bindFrom_27 ?_
  refine h_wrV (As := [.int (nI 0), .ref (aS ad 0)]) (rest := []) hF (c_X0_addRun l G A _ ad S hC 0 (by decide) 0 (by omega) 0 (by omega) (hI 0 (by decide)) (by omega) hA0) 2 gX2_bindFrom_X0_addRun rfl (by decide +kernel) ⟨Nat.le_of_ble_eq_true rfl, Nat.le_of_ble_eq_true rfl⟩ hK0 hV0 hA hS (hC.bo (by decide)) rfl rfl rfl hl.1 rfl (Nat.le_of_ble_eq_true rfl) ⟨Nat.le_of_ble_eq_true rfl, Nat.le_of_ble_eq_true rfl⟩ dX2_bindFrom_30 (fun ro hp1 H locs hP1 hV0 hA0 hS => ?_)
  obtain ⟨rfl, hT1⟩ := hP1
  have hT := hT.tr hT1
  have hC := hT.1
  refine lv_aload_n hx hb dX2_bindFrom_33 rfl (lv_at hl 1 rfl) ?_
  refine h_get (v := .ref (aS ad 0)) hx hb hts hi2 hown hK0 hV0 hC.xo rfl 0 (by decide) hw0 rfl dX2_bindFrom_34 ?_
  refine h_wrV (As := []) (rest := []) hF (c_X1_clear l G A _ (aS ad 0) (aW ad 0) (sF (adS S 0 0 0) 0) _ _ _ _ _ (hC.sl (by omega)).1 (hC.sl (by omega)).2 hA0) 0 gX2_bindFrom_X1_clear rfl (by decide +kernel) ⟨Nat.le_of_ble_eq_true rfl, Nat.le_of_ble_eq_true rfl⟩ hK0 hV0 hA hS (hC.sl (by omega)).1 rfl rfl rfl hl.1 rfl (Nat.le_of_ble_eq_true rfl) ⟨Nat.le_of_ble_eq_true rfl, Nat.le_of_ble_eq_true rfl⟩ dX2_bindFrom_37 (fun ro hp1 H locs hP1 hV0 hA0 hS => ?_)
  obtain ⟨rfl, rfl⟩ := hP1
  have hT := hT.setF (j := 0) (by omega) emR_ok
  have hC := hT.1
  refine lv_aload_n hx hb dX2_bindFrom_40 rfl (lv_at hl 1 rfl) ?_
  refine h_get (v := .ref (aB ad 0)) hx hb hts hi2 hown hK0 hV0 hC.xo rfl 1 (by decide) hw1 rfl dX2_bindFrom_41 ?_
  refine h_wrV (As := []) (rest := []) hF (c_X0_settle l G A _ ad (uF (adS S 0 0 0) 0 emR) hC 0 (by decide) 0 (oneB_bf hI) hA0) 0 gX2_bindFrom_X0_settle rfl (by decide +kernel) ⟨Nat.le_of_ble_eq_true rfl, Nat.le_of_ble_eq_true rfl⟩ hK0 hV0 hA hS (hC.bo (by decide)) rfl rfl rfl hl.1 rfl (Nat.le_of_ble_eq_true rfl) ⟨Nat.le_of_ble_eq_true rfl, Nat.le_of_ble_eq_true rfl⟩ dX2_bindFrom_44 (fun ro hp1 H locs hP1 hV0 hA0 hS => ?_)
  obtain ⟨rfl, hT1⟩ := hP1
  have hT := hT.tr hT1
  have hC := hT.1
  refine lv_aload_n hx hb dX2_bindFrom_47 rfl (lv_at hl 1 rfl) ?_
  refine h_get (v := .ref (aB ad 0)) hx hb hts hi2 hown hK0 hV0 hC.xo rfl 1 (by decide) hw1 rfl dX2_bindFrom_48 ?_
  refine h_rdV (As := []) (rest := []) hF (c_X0_moves l G _ ad (stS (uF (adS S 0 0 0) 0 emR) 0 4) hC 0 (by decide)) 0 gX2_bindFrom_X0_moves rfl (by decide +kernel) ⟨Nat.le_of_ble_eq_true rfl, Nat.le_of_ble_eq_true rfl⟩ hK0 hV0 (hC.bo (by decide)) rfl rfl rfl hl.1 rfl (Nat.le_of_ble_eq_true rfl) (Nat.le_of_ble_eq_true rfl) (Nat.le_of_ble_eq_true rfl) dX2_bindFrom_51 ?_
  refine lv_iload_n hx hb dX2_bindFrom_54 rfl (lv_at hl 0 rfl) ?_
  refine lv_isub hx hb dX2_bindFrom_55 ?_
  exact W.iret hx hb hr (h_qW ⟨rfl, hT⟩ hV0 hA0 hS) hS.2.2 dX2_bindFrom_56 hlocks

set_option maxHeartbeats 1000000 in
set_option maxRecDepth 100000 in
theorem c_X2_write (l : Launch) (G : hG) (A : Nat → Prop) (hp : HP) (ad : Nat → Nat) (S : CS) (hC : cW ad S hp) (hI : cI S) (x v : Nat) (hx6 : x < 64) (hv1 : v < 100) (hA0 : hIn A hp) : hWr l yX2_write wsX2_write 6 135 0 0 G A hp [.ref (aX ad), .int (nI x), .int (nI v)] (fun ro hp' => ro = (if nI (szR (sF (wrS S x (nI v)) 0)) < sR S then some (.int (bI false)) else some (.int (bI true))) ∧ cT ad hp (if nI (szR (sF (wrS S x (nI v)) 0)) < sR S then (wrS S x (nI v)) else bfS (wrS S x (nI v))) hp') := by
  refine Met.ofW (cc := cX2_write) (maxL := 3) (ret := (some .boolean)) (by decide) rfl ?_
  intro p e s m args below meth c s₁ B hml hv
  obtain ⟨rfl, hV0, hK0, hA⟩ := hv
  have hx := B.exec
  have hb := B.bytes
  have hr := B.returns
  have hts := atoms_spec (ws := wsX2_write) B.pre
  have hown : s.vm.findClass RX2 = some m.cls := findClass_of_methodNamed B.named
  have hlocks := B.notSynchronized
  have hF : CallFix p m c cX2_write 3 s [.ref (aX ad), .int (nI x), .int (nI v)].toArray wsX2_write RX2 := ⟨hx, hb, hml, hown, hts⟩
  have hw0 := hts (.fieldLink RX2 10 "SlipLevels" "deskSlips" "LSlipLevels$Slips;") (by decide +kernel)
  have hw1 := hts (.fieldLink RX2 26 "SlipLevels" "deskRoom" "I") (by decide +kernel)
  have hi2 : ∀ w ∈ u_ws RX2 TX2 5, w ∈ wsX2_write := by
    intro w h
    unfold wsX2_write
    simp only [List.mem_cons, List.mem_append, h, true_or, or_true]
  have hS : va_S A s.heap s.heap [] := va_S.rf
  have hl := lv_entry ([.ref (aX ad), .int (nI x), .int (nI v)]) (n := 3) (Nat.le_of_ble_eq_true rfl)
  rw [lg_entry_eq]
  generalize (lg_sl ([.ref (aX ad), .int (nI x), .int (nI v)]) ++ List.replicate (3 - (lg_sl ([.ref (aX ad), .int (nI x), .int (nI v)])).length) Slot.unset).toArray = ls at hl ⊢
  replace hl : lv_has ls 3 [(0, .ref (aX ad)), (1, .int (nI x)), (2, .int (nI v))] := hl
  have hT := cT.rf hC
  have hv2 := nIne2 (show v < 100 from hv1)
  have hpos : 0 < szR (sF (wrS S x (nI v)) 0) := by rw [wrS, sF_uF]; exact szR_put hx6 hv2
  refine lv_iload_n hx hb dX2_write_0 rfl (lv_at hl 1 rfl) ?_
  refine h_rdS (As := [.int (nI x)]) (rest := []) hF (c_X2_needNumber l G _ x (by omega)) 1 gX2_write_X2_needNumber rfl (by decide +kernel) ⟨Nat.le_of_ble_eq_true rfl, Nat.le_of_ble_eq_true rfl⟩ hK0 hV0 rfl hl.1 rfl (Nat.le_of_ble_eq_true rfl) (Nat.le_of_ble_eq_true rfl) (Nat.le_of_ble_eq_true rfl) dX2_write_1 ?_
  refine lv_iload_n hx hb dX2_write_4 rfl (lv_at hl 2 rfl) ?_
  refine h_if_lt (a := v) (tgt := 14) hx hb dX2_write_5 (by decide) (by omega) ?_
  refine lv_iload_n hx hb dX2_write_8 rfl (lv_at hl 2 rfl) ?_
  refine lv_bipush (v := nI 100) hx hb dX2_write_9 (by decide) ?_
  refine h_icmp_lt (a := v) (b := 100) (tgt := 24) hx hb dX2_write_11 (by decide) (by omega) (by omega) (fun c_11 => ?_) (fun c_11 => absurd hv1 c_11)
  refine lv_aload_n hx hb dX2_write_24 rfl (lv_at hl 0 rfl) ?_
  refine h_get (v := .ref (aS ad 0)) hx hb hts hi2 hown hK0 hV0 hC.xo rfl 0 (by decide) hw0 rfl dX2_write_25 ?_
  refine lv_iload_n hx hb dX2_write_28 rfl (lv_at hl 1 rfl) ?_
  refine lv_iload_n hx hb dX2_write_29 rfl (lv_at hl 2 rfl) ?_
  refine h_wrV (As := [.int (nI x), .int (nI v)]) (rest := []) hF (c_X1_put l G A _ (aS ad 0) (aW ad 0) (sF S 0) (hC.sl (by omega)) x (nI v) (by omega) hv2 hA0) 2 gX2_write_X1_put rfl (by decide +kernel) ⟨Nat.le_of_ble_eq_true rfl, Nat.le_of_ble_eq_true rfl⟩ hK0 hV0 hA hS (hC.sl (by omega)).1 rfl rfl rfl hl.1 rfl (Nat.le_of_ble_eq_true rfl) ⟨Nat.le_of_ble_eq_true rfl, Nat.le_of_ble_eq_true rfl⟩ dX2_write_30 (fun ro hp1 H locs hP1 hV0 hA0 hS => ?_)
  obtain ⟨rfl, rfl⟩ := hP1
  have hT := hT.setF (j := 0) (by omega) (f := upd (sF S 0) x (nI v)) (okR_put (hC.ok.1 0) hx6 (Or.inr ⟨v, hv1, rfl⟩))
  have hC := hT.1
  have hT : cT ad hp (wrS S x (nI v)) _ := hT
  have hC := hT.1
  refine lv_aload_n hx hb dX2_write_33 rfl (lv_at hl 0 rfl) ?_
  refine lv_aload_n hx hb dX2_write_34 rfl (lv_at hl 0 rfl) ?_
  refine h_get (v := .int (sR (wrS S x (nI v)))) hx hb hts hi2 hown hK0 hV0 hC.xo rfl 3 (by decide) hw1 rfl dX2_write_35 ?_
  have hI1 : cI (wrS S x (nI v)) := hI
  rcases Classical.em (nI (szR (sF (wrS S x (nI v)) 0)) < (sR (wrS S x (nI v)))) with hfw | hfw
  · refine h_wrV (As := [.int (sR (wrS S x (nI v)))]) (rest := []) hF (c_X2_bindFromN l G A _ ad (wrS S x (nI v)) hC hI1 ((sR (wrS S x (nI v)))) hfw hA0) 1 gX2_write_X2_bindFrom rfl (by decide +kernel) ⟨Nat.le_of_ble_eq_true rfl, Nat.le_of_ble_eq_true rfl⟩ hK0 hV0 hA hS hC.xo rfl rfl rfl hl.1 rfl (Nat.le_of_ble_eq_true rfl) ⟨Nat.le_of_ble_eq_true rfl, Nat.le_of_ble_eq_true rfl⟩ dX2_write_38 (fun ro hp1 H locs hP1 hV0 hA0 hS => ?_)
    obtain ⟨rfl, hT1⟩ := hP1
    have hT := hT.tr hT1
    have hC := hT.1
    refine lv_if_le (tgt := 48) hx hb dX2_write_41 (by decide) (fun c_41 => ?_) (fun c_41 => absurd (Int32.le_refl 0) c_41)
    refine lv_iconst (v := nI 0) hx hb dX2_write_48 (by decide) ?_
    have hfw2 : nI (szR (sF (wrS S x (nI v)) 0)) < sR S := hfw
    exact W.zret hx hb hr (by first | exact narrow_bI _ | rfl) (h_qW ⟨by rw [if_pos hfw2]; rfl, by rw [if_pos hfw2]; exact hT⟩ hV0 hA0 hS) hS.2.2 dX2_write_49 hlocks
  · refine h_wrV (As := [.int (sR (wrS S x (nI v)))]) (rest := []) hF (c_X2_bindFrom l G A _ ad (wrS S x (nI v)) hC hI1 ((sR (wrS S x (nI v)))) hfw hA0) 1 gX2_write_X2_bindFrom rfl (by decide +kernel) ⟨Nat.le_of_ble_eq_true rfl, Nat.le_of_ble_eq_true rfl⟩ hK0 hV0 hA hS hC.xo rfl rfl rfl hl.1 rfl (Nat.le_of_ble_eq_true rfl) ⟨Nat.le_of_ble_eq_true rfl, Nat.le_of_ble_eq_true rfl⟩ dX2_write_38 (fun ro hp1 H locs hP1 hV0 hA0 hS => ?_)
    obtain ⟨rfl, hT1⟩ := hP1
    have hT := hT.tr hT1
    have hC := hT.1
    refine lv_if_le (tgt := 48) hx hb dX2_write_41 (by decide) (fun c_41 => absurd (bfD_pos hpos) (Int32.not_lt.mpr c_41)) (fun c_41 => ?_)
    refine lv_iconst (v := nI 1) hx hb dX2_write_44 (by decide) ?_
    refine lv_goto (tgt := 49) hx hb dX2_write_45 (by decide) ?_
    have hfw2 : ¬ nI (szR (sF (wrS S x (nI v)) 0)) < sR S := hfw
    exact W.zret hx hb hr (by first | exact narrow_bI _ | rfl) (h_qW ⟨by rw [if_neg hfw2]; rfl, by rw [if_neg hfw2]; exact hT⟩ hV0 hA0 hS) hS.2.2 dX2_write_49 hlocks

set_option maxHeartbeats 1000000 in
set_option maxRecDepth 100000 in
theorem c_X2_strike (l : Launch) (G : hG) (A : Nat → Prop) (hp : HP) (ad : Nat → Nat) (S : CS) (hC : cW ad S hp) (hI : cI S) (x : Nat) (hx6 : x < 64) (hA0 : hIn A hp) : hWr l yX2_strike wsX2_strike 6 135 0 0 G A hp [.ref (aX ad), .int (nI x)] (fun ro hp' => ro = (if nI (szR (sF (wrS S x (-1)) 0)) < sR S then some (.int (bI false)) else some (.int (bI true))) ∧ cT ad hp (if nI (szR (sF (wrS S x (-1)) 0)) < sR S then (wrS S x (-1)) else bfS (wrS S x (-1))) hp') := by
  refine Met.ofW (cc := cX2_strike) (maxL := 2) (ret := (some .boolean)) (by decide) rfl ?_
  intro p e s m args below meth c s₁ B hml hv
  obtain ⟨rfl, hV0, hK0, hA⟩ := hv
  have hx := B.exec
  have hb := B.bytes
  have hr := B.returns
  have hts := atoms_spec (ws := wsX2_strike) B.pre
  have hown : s.vm.findClass RX2 = some m.cls := findClass_of_methodNamed B.named
  have hlocks := B.notSynchronized
  have hF : CallFix p m c cX2_strike 2 s [.ref (aX ad), .int (nI x)].toArray wsX2_strike RX2 := ⟨hx, hb, hml, hown, hts⟩
  have hw0 := hts (.fieldLink RX2 10 "SlipLevels" "deskSlips" "LSlipLevels$Slips;") (by decide +kernel)
  have hw1 := hts (.fieldLink RX2 26 "SlipLevels" "deskRoom" "I") (by decide +kernel)
  have hi2 : ∀ w ∈ u_ws RX2 TX2 5, w ∈ wsX2_strike := by
    intro w h
    unfold wsX2_strike
    simp only [List.mem_cons, List.mem_append, h, true_or, or_true]
  have hS : va_S A s.heap s.heap [] := va_S.rf
  have hl := lv_entry ([.ref (aX ad), .int (nI x)]) (n := 2) (Nat.le_of_ble_eq_true rfl)
  rw [lg_entry_eq]
  generalize (lg_sl ([.ref (aX ad), .int (nI x)]) ++ List.replicate (2 - (lg_sl ([.ref (aX ad), .int (nI x)])).length) Slot.unset).toArray = ls at hl ⊢
  replace hl : lv_has ls 2 [(0, .ref (aX ad)), (1, .int (nI x))] := hl
  have hT := cT.rf hC
  have hv2 : (-1 : Int32) ≠ -2 := by decide
  have hpos : 0 < szR (sF (wrS S x (-1)) 0) := by rw [wrS, sF_uF]; exact szR_put hx6 hv2
  refine lv_iload_n hx hb dX2_strike_0 rfl (lv_at hl 1 rfl) ?_
  refine h_rdS (As := [.int (nI x)]) (rest := []) hF (c_X2_needNumber l G _ x (by omega)) 1 gX2_strike_X2_needNumber rfl (by decide +kernel) ⟨Nat.le_of_ble_eq_true rfl, Nat.le_of_ble_eq_true rfl⟩ hK0 hV0 rfl hl.1 rfl (Nat.le_of_ble_eq_true rfl) (Nat.le_of_ble_eq_true rfl) (Nat.le_of_ble_eq_true rfl) dX2_strike_1 ?_
  refine lv_aload_n hx hb dX2_strike_4 rfl (lv_at hl 0 rfl) ?_
  refine h_get (v := .ref (aS ad 0)) hx hb hts hi2 hown hK0 hV0 hC.xo rfl 0 (by decide) hw0 rfl dX2_strike_5 ?_
  refine lv_iload_n hx hb dX2_strike_8 rfl (lv_at hl 1 rfl) ?_
  refine lv_iconst (v := (-1)) hx hb dX2_strike_9 (by decide) ?_
  refine h_wrV (As := [.int (nI x), .int (-1)]) (rest := []) hF (c_X1_put l G A _ (aS ad 0) (aW ad 0) (sF S 0) (hC.sl (by omega)) x ((-1)) (by omega) hv2 hA0) 2 gX2_strike_X1_put rfl (by decide +kernel) ⟨Nat.le_of_ble_eq_true rfl, Nat.le_of_ble_eq_true rfl⟩ hK0 hV0 hA hS (hC.sl (by omega)).1 rfl rfl rfl hl.1 rfl (Nat.le_of_ble_eq_true rfl) ⟨Nat.le_of_ble_eq_true rfl, Nat.le_of_ble_eq_true rfl⟩ dX2_strike_10 (fun ro hp1 H locs hP1 hV0 hA0 hS => ?_)
  obtain ⟨rfl, rfl⟩ := hP1
  have hT := hT.setF (j := 0) (by omega) (f := upd (sF S 0) x ((-1))) (okR_put (hC.ok.1 0) hx6 (Or.inl rfl))
  have hC := hT.1
  have hT : cT ad hp (wrS S x (-1)) _ := hT
  have hC := hT.1
  refine lv_aload_n hx hb dX2_strike_13 rfl (lv_at hl 0 rfl) ?_
  refine lv_aload_n hx hb dX2_strike_14 rfl (lv_at hl 0 rfl) ?_
  refine h_get (v := .int (sR (wrS S x (-1)))) hx hb hts hi2 hown hK0 hV0 hC.xo rfl 3 (by decide) hw1 rfl dX2_strike_15 ?_
  have hI1 : cI (wrS S x (-1)) := hI
  rcases Classical.em (nI (szR (sF (wrS S x (-1)) 0)) < (sR (wrS S x (-1)))) with hfw | hfw
  · refine h_wrV (As := [.int (sR (wrS S x (-1)))]) (rest := []) hF (c_X2_bindFromN l G A _ ad (wrS S x (-1)) hC hI1 ((sR (wrS S x (-1)))) hfw hA0) 1 gX2_strike_X2_bindFrom rfl (by decide +kernel) ⟨Nat.le_of_ble_eq_true rfl, Nat.le_of_ble_eq_true rfl⟩ hK0 hV0 hA hS hC.xo rfl rfl rfl hl.1 rfl (Nat.le_of_ble_eq_true rfl) ⟨Nat.le_of_ble_eq_true rfl, Nat.le_of_ble_eq_true rfl⟩ dX2_strike_18 (fun ro hp1 H locs hP1 hV0 hA0 hS => ?_)
    obtain ⟨rfl, hT1⟩ := hP1
    have hT := hT.tr hT1
    have hC := hT.1
    refine lv_if_le (tgt := 28) hx hb dX2_strike_21 (by decide) (fun c_21 => ?_) (fun c_21 => absurd (Int32.le_refl 0) c_21)
    refine lv_iconst (v := nI 0) hx hb dX2_strike_28 (by decide) ?_
    have hfw2 : nI (szR (sF (wrS S x (-1)) 0)) < sR S := hfw
    exact W.zret hx hb hr (by first | exact narrow_bI _ | rfl) (h_qW ⟨by rw [if_pos hfw2]; rfl, by rw [if_pos hfw2]; exact hT⟩ hV0 hA0 hS) hS.2.2 dX2_strike_29 hlocks
  · refine h_wrV (As := [.int (sR (wrS S x (-1)))]) (rest := []) hF (c_X2_bindFrom l G A _ ad (wrS S x (-1)) hC hI1 ((sR (wrS S x (-1)))) hfw hA0) 1 gX2_strike_X2_bindFrom rfl (by decide +kernel) ⟨Nat.le_of_ble_eq_true rfl, Nat.le_of_ble_eq_true rfl⟩ hK0 hV0 hA hS hC.xo rfl rfl rfl hl.1 rfl (Nat.le_of_ble_eq_true rfl) ⟨Nat.le_of_ble_eq_true rfl, Nat.le_of_ble_eq_true rfl⟩ dX2_strike_18 (fun ro hp1 H locs hP1 hV0 hA0 hS => ?_)
    obtain ⟨rfl, hT1⟩ := hP1
    have hT := hT.tr hT1
    have hC := hT.1
    refine lv_if_le (tgt := 28) hx hb dX2_strike_21 (by decide) (fun c_21 => absurd (bfD_pos hpos) (Int32.not_lt.mpr c_21)) (fun c_21 => ?_)
    refine lv_iconst (v := nI 1) hx hb dX2_strike_24 (by decide) ?_
    refine lv_goto (tgt := 29) hx hb dX2_strike_25 (by decide) ?_
    have hfw2 : ¬ nI (szR (sF (wrS S x (-1)) 0)) < sR S := hfw
    exact W.zret hx hb hr (by first | exact narrow_bI _ | rfl) (h_qW ⟨by rw [if_neg hfw2]; rfl, by rw [if_neg hfw2]; exact hT⟩ hV0 hA0 hS) hS.2.2 dX2_strike_29 hlocks

set_option maxHeartbeats 1000000 in
set_option maxRecDepth 100000 in
theorem c_X2_bind (l : Launch) (G : hG) (A : Nat → Prop) (hp : HP) (ad : Nat → Nat) (S : CS) (hC : cW ad S hp) (hI : cI S) (hA0 : hIn A hp) : hWr l yX2_bind wsX2_bind 6 135 0 0 G A hp [.ref (aX ad)] (fun ro hp' => ro = some (.int (if szR (sF S 0) = 0 then 0 else sV (bfS S) 0 - sV S 0)) ∧ cT ad hp (if szR (sF S 0) = 0 then S else bfS S) hp') := by
  refine Met.ofW (cc := cX2_bind) (maxL := 1) (ret := (some .int)) (by decide) rfl ?_
  intro p e s m args below meth c s₁ B hml hv
  obtain ⟨rfl, hV0, hK0, hA⟩ := hv
  have hx := B.exec
  have hb := B.bytes
  have hr := B.returns
  have hts := atoms_spec (ws := wsX2_bind) B.pre
  have hown : s.vm.findClass RX2 = some m.cls := findClass_of_methodNamed B.named
  have hlocks := B.notSynchronized
  have hF : CallFix p m c cX2_bind 1 s [.ref (aX ad)].toArray wsX2_bind RX2 := ⟨hx, hb, hml, hown, hts⟩
  have hS : va_S A s.heap s.heap [] := va_S.rf
  have hl := lv_entry ([.ref (aX ad)]) (n := 1) (Nat.le_of_ble_eq_true rfl)
  rw [lg_entry_eq]
  generalize (lg_sl ([.ref (aX ad)]) ++ List.replicate (1 - (lg_sl ([.ref (aX ad)])).length) Slot.unset).toArray = ls at hl ⊢
  replace hl : lv_has ls 1 [(0, .ref (aX ad))] := hl
  have hT := cT.rf hC
  have hz := szR_le (sF S 0)
  refine lv_aload_n hx hb dX2_bind_0 rfl (lv_at hl 0 rfl) ?_
  refine lv_iconst (v := nI 1) hx hb dX2_bind_1 (by decide) ?_
  have hI1 : cI S := hI
  rcases Classical.em (nI (szR (sF S 0)) < nI 1) with hfw | hfw
  · refine h_wrV (As := [.int (nI 1)]) (rest := []) hF (c_X2_bindFromN l G A _ ad S hC hI1 (nI 1) hfw hA0) 1 gX2_bind_X2_bindFrom rfl (by decide +kernel) ⟨Nat.le_of_ble_eq_true rfl, Nat.le_of_ble_eq_true rfl⟩ hK0 hV0 hA hS hC.xo rfl rfl rfl hl.1 rfl (Nat.le_of_ble_eq_true rfl) ⟨Nat.le_of_ble_eq_true rfl, Nat.le_of_ble_eq_true rfl⟩ dX2_bind_2 (fun ro hp1 H locs hP1 hV0 hA0 hS => ?_)
    obtain ⟨rfl, hT1⟩ := hP1
    have hT := hT.tr hT1
    have hC := hT.1
    exact W.iret hx hb hr (h_qW ⟨by rw [if_pos (sz_lt1 hz hfw)], by rw [if_pos (sz_lt1 hz hfw)]; exact hT⟩ hV0 hA0 hS) hS.2.2 dX2_bind_5 hlocks
  · refine h_wrV (As := [.int (nI 1)]) (rest := []) hF (c_X2_bindFrom l G A _ ad S hC hI1 (nI 1) hfw hA0) 1 gX2_bind_X2_bindFrom rfl (by decide +kernel) ⟨Nat.le_of_ble_eq_true rfl, Nat.le_of_ble_eq_true rfl⟩ hK0 hV0 hA hS hC.xo rfl rfl rfl hl.1 rfl (Nat.le_of_ble_eq_true rfl) ⟨Nat.le_of_ble_eq_true rfl, Nat.le_of_ble_eq_true rfl⟩ dX2_bind_2 (fun ro hp1 H locs hP1 hV0 hA0 hS => ?_)
    obtain ⟨rfl, hT1⟩ := hP1
    have hT := hT.tr hT1
    have hC := hT.1
    exact W.iret hx hb hr (h_qW ⟨by rw [if_neg (fun z => hfw (sz_lt1b z))], by rw [if_neg (fun z => hfw (sz_lt1b z))]; exact hT⟩ hV0 hA0 hS) hS.2.2 dX2_bind_5 hlocks

set_option maxHeartbeats 1000000 in
set_option maxRecDepth 100000 in
theorem c_X2_setRoom (l : Launch) (G : hG) (A : Nat → Prop) (hp : HP) (ad : Nat → Nat) (S : CS) (hC : cW ad S hp) (hI : cI S) (r : Nat) (hr1 : 1 ≤ r) (hr8 : r ≤ 8) (hA0 : hIn A hp) : hWr l yX2_setRoom wsX2_setRoom 6 135 0 0 G A hp [.ref (aX ad), .int (nI r)] (fun ro hp' => ro = some (.int (sR S)) ∧ cT ad hp (if nI (szR (sF S 0)) < nI r then uR S (nI r) else bfS (uR S (nI r))) hp') := by
  refine Met.ofW (cc := cX2_setRoom) (maxL := 3) (ret := (some .int)) (by decide) rfl ?_
  intro p e s m args below meth c s₁ B hml hv
  obtain ⟨rfl, hV0, hK0, hA⟩ := hv
  have hx := B.exec
  have hb := B.bytes
  have hr := B.returns
  have hts := atoms_spec (ws := wsX2_setRoom) B.pre
  have hown : s.vm.findClass RX2 = some m.cls := findClass_of_methodNamed B.named
  have hlocks := B.notSynchronized
  have hF : CallFix p m c cX2_setRoom 3 s [.ref (aX ad), .int (nI r)].toArray wsX2_setRoom RX2 := ⟨hx, hb, hml, hown, hts⟩
  have hw0 := hts (.fieldLink RX2 26 "SlipLevels" "deskRoom" "I") (by decide +kernel)
  have hi2 : ∀ w ∈ u_ws RX2 TX2 5, w ∈ wsX2_setRoom := by
    intro w h
    unfold wsX2_setRoom
    simp only [List.mem_cons, List.mem_append, h, true_or, or_true]
  have hS : va_S A s.heap s.heap [] := va_S.rf
  have hl := lv_entry ([.ref (aX ad), .int (nI r)]) (n := 3) (Nat.le_of_ble_eq_true rfl)
  rw [lg_entry_eq]
  generalize (lg_sl ([.ref (aX ad), .int (nI r)]) ++ List.replicate (3 - (lg_sl ([.ref (aX ad), .int (nI r)])).length) Slot.unset).toArray = ls at hl ⊢
  replace hl : lv_has ls 3 [(0, .ref (aX ad)), (1, .int (nI r))] := hl
  have hT := cT.rf hC
  refine lv_iload_n hx hb dX2_setRoom_0 rfl (lv_at hl 1 rfl) ?_
  refine lv_iconst (v := nI 1) hx hb dX2_setRoom_1 (by decide) ?_
  refine h_icmp_lt (a := r) (b := 1) (tgt := 11) hx hb dX2_setRoom_2 (by decide) (by omega) (by omega) (fun c_2 => absurd hr1 (by omega)) (fun c_2 => ?_)
  refine lv_iload_n hx hb dX2_setRoom_5 rfl (lv_at hl 1 rfl) ?_
  refine lv_bipush (v := nI 8) hx hb dX2_setRoom_6 (by decide) ?_
  refine h_icmp_le (a := r) (b := 8) (tgt := 21) hx hb dX2_setRoom_8 (by decide) (by omega) (by omega) (fun c_8 => ?_) (fun c_8 => absurd hr8 c_8)
  refine lv_aload_n hx hb dX2_setRoom_21 rfl (lv_at hl 0 rfl) ?_
  refine h_get (v := .int (sR S)) hx hb hts hi2 hown hK0 hV0 hC.xo rfl 3 (by decide) hw0 rfl dX2_setRoom_22 ?_
  refine lv_istore_n (lv' := [(2, .int (sR S)), (0, .ref (aX ad)), (1, .int (nI r))]) hx hb dX2_setRoom_25 rfl hl (by decide) rfl (fun ls hl => ?_)
  refine lv_aload_n hx hb dX2_setRoom_26 rfl (lv_at hl 1 rfl) ?_
  refine lv_iload_n hx hb dX2_setRoom_27 rfl (lv_at hl 2 rfl) ?_
  refine h_put (v := .int (nI r)) hx hb hts hi2 tyX2 tyX2_ok nmX2 hown hK0 hV0 hA0 hS hC.xo rfl 3 (by decide) hw0 rfl (by rfl) (by rfl) (Nat.le_of_ble_eq_true rfl) dX2_setRoom_28 (fun H locs hV0 hA0 hS => ?_)
  have hT := hT.setR (nI r)
  have hC := hT.1
  refine lv_aload_n hx hb dX2_setRoom_31 rfl (lv_at hl 1 rfl) ?_
  refine lv_iload_n hx hb dX2_setRoom_32 rfl (lv_at hl 2 rfl) ?_
  have hI1 : cI (uR S (nI r)) := hI
  rcases Classical.em (nI (szR (sF (uR S (nI r)) 0)) < nI r) with hfw | hfw
  · refine h_wrV (As := [.int (nI r)]) (rest := []) hF (c_X2_bindFromN l G A _ ad (uR S (nI r)) hC hI1 (nI r) hfw hA0) 1 gX2_setRoom_X2_bindFrom rfl (by decide +kernel) ⟨Nat.le_of_ble_eq_true rfl, Nat.le_of_ble_eq_true rfl⟩ hK0 hV0 hA hS hC.xo rfl rfl rfl hl.1 rfl (Nat.le_of_ble_eq_true rfl) ⟨Nat.le_of_ble_eq_true rfl, Nat.le_of_ble_eq_true rfl⟩ dX2_setRoom_33 (fun ro hp1 H locs hP1 hV0 hA0 hS => ?_)
    obtain ⟨rfl, hT1⟩ := hP1
    have hT := hT.tr hT1
    have hC := hT.1
    refine lv_pop hx hb dX2_setRoom_36 rfl ?_
    refine lv_iload_n hx hb dX2_setRoom_37 rfl (lv_at hl 0 rfl) ?_
    exact W.iret hx hb hr (h_qW ⟨rfl, by rw [if_pos (show nI (szR (sF S 0)) < nI r from hfw)]; exact hT⟩ hV0 hA0 hS) hS.2.2 dX2_setRoom_38 hlocks
  · refine h_wrV (As := [.int (nI r)]) (rest := []) hF (c_X2_bindFrom l G A _ ad (uR S (nI r)) hC hI1 (nI r) hfw hA0) 1 gX2_setRoom_X2_bindFrom rfl (by decide +kernel) ⟨Nat.le_of_ble_eq_true rfl, Nat.le_of_ble_eq_true rfl⟩ hK0 hV0 hA hS hC.xo rfl rfl rfl hl.1 rfl (Nat.le_of_ble_eq_true rfl) ⟨Nat.le_of_ble_eq_true rfl, Nat.le_of_ble_eq_true rfl⟩ dX2_setRoom_33 (fun ro hp1 H locs hP1 hV0 hA0 hS => ?_)
    obtain ⟨rfl, hT1⟩ := hP1
    have hT := hT.tr hT1
    have hC := hT.1
    refine lv_pop hx hb dX2_setRoom_36 rfl ?_
    refine lv_iload_n hx hb dX2_setRoom_37 rfl (lv_at hl 0 rfl) ?_
    exact W.iret hx hb hr (h_qW ⟨rfl, by rw [if_neg (show ¬ nI (szR (sF S 0)) < nI r from hfw)]; exact hT⟩ hV0 hA0 hS) hS.2.2 dX2_setRoom_38 hlocks

set_option maxHeartbeats 1000000 in
set_option maxRecDepth 100000 in
theorem c_X2_merge (l : Launch) (G : hG) (A : Nat → Prop) (hp : HP) (ad : Nat → Nat) (S : CS) (hC : cW ad S hp) (hI : cI S) (lv : Nat) (hl4 : lv < 4) (hr0 : sN S 0 lv ≠ 0) (hA0 : hIn A hp) : hWr l yX2_merge wsX2_merge 5 113 0 0 G A hp [.ref (aX ad), .int (nI lv)] (fun ro hp' => ro = some (.int (sV (stS (mgS S 0 lv) 0 4) 0 - sV S 0)) ∧ cT ad hp (stS (mgS S 0 lv) 0 4) hp') := by
  refine Met.ofW (cc := cX2_merge) (maxL := 3) (ret := (some .int)) (by decide) rfl ?_
  intro p e s m args below meth c s₁ B hml hv
  obtain ⟨rfl, hV0, hK0, hA⟩ := hv
  have hx := B.exec
  have hb := B.bytes
  have hr := B.returns
  have hts := atoms_spec (ws := wsX2_merge) B.pre
  have hown : s.vm.findClass RX2 = some m.cls := findClass_of_methodNamed B.named
  have hlocks := B.notSynchronized
  have hF : CallFix p m c cX2_merge 3 s [.ref (aX ad), .int (nI lv)].toArray wsX2_merge RX2 := ⟨hx, hb, hml, hown, hts⟩
  have hw0 := hts (.fieldLink RX2 19 "SlipLevels" "binder" "LSlipLevels$Binder;") (by decide +kernel)
  have hi2 : ∀ w ∈ u_ws RX2 TX2 5, w ∈ wsX2_merge := by
    intro w h
    unfold wsX2_merge
    simp only [List.mem_cons, List.mem_append, h, true_or, or_true]
  have hS : va_S A s.heap s.heap [] := va_S.rf
  have hl := lv_entry ([.ref (aX ad), .int (nI lv)]) (n := 3) (Nat.le_of_ble_eq_true rfl)
  rw [lg_entry_eq]
  generalize (lg_sl ([.ref (aX ad), .int (nI lv)]) ++ List.replicate (3 - (lg_sl ([.ref (aX ad), .int (nI lv)])).length) Slot.unset).toArray = ls at hl ⊢
  replace hl : lv_has ls 3 [(0, .ref (aX ad)), (1, .int (nI lv))] := hl
  have hT := cT.rf hC
  have hn := hC.ok.2.1 0 lv
  refine lv_iload_n hx hb dX2_merge_0 rfl (lv_at hl 1 rfl) ?_
  refine h_rdS (As := [.int (nI lv)]) (rest := []) hF (c_X2_needLevel l G _ lv (by omega)) 1 gX2_merge_X2_needLevel rfl (by decide +kernel) ⟨Nat.le_of_ble_eq_true rfl, Nat.le_of_ble_eq_true rfl⟩ hK0 hV0 rfl hl.1 rfl (Nat.le_of_ble_eq_true rfl) (Nat.le_of_ble_eq_true rfl) (Nat.le_of_ble_eq_true rfl) dX2_merge_1 ?_
  refine lv_aload_n hx hb dX2_merge_4 rfl (lv_at hl 0 rfl) ?_
  refine h_get (v := .ref (aB ad 0)) hx hb hts hi2 hown hK0 hV0 hC.xo rfl 1 (by decide) hw0 rfl dX2_merge_5 ?_
  refine lv_iload_n hx hb dX2_merge_8 rfl (lv_at hl 1 rfl) ?_
  refine h_rdV (As := [.int (nI lv)]) (rest := []) hF (c_X0_runsOf l G _ ad S hC 0 (by decide) lv (by omega)) 1 gX2_merge_X0_runsOf rfl (by decide +kernel) ⟨Nat.le_of_ble_eq_true rfl, Nat.le_of_ble_eq_true rfl⟩ hK0 hV0 (hC.bo (by decide)) rfl rfl rfl hl.1 rfl (Nat.le_of_ble_eq_true rfl) (Nat.le_of_ble_eq_true rfl) (Nat.le_of_ble_eq_true rfl) dX2_merge_9 ?_
  refine h_if_ne (a := sN S 0 lv) (tgt := 25) hx hb dX2_merge_12 (by decide) (by omega) (fun c_12 => ?_) (fun c_12 => absurd c_12 hr0)
  refine lv_aload_n hx hb dX2_merge_25 rfl (lv_at hl 0 rfl) ?_
  refine h_get (v := .ref (aB ad 0)) hx hb hts hi2 hown hK0 hV0 hC.xo rfl 1 (by decide) hw0 rfl dX2_merge_26 ?_
  refine h_rdV (As := []) (rest := []) hF (c_X0_moves l G _ ad S hC 0 (by decide)) 0 gX2_merge_X0_moves rfl (by decide +kernel) ⟨Nat.le_of_ble_eq_true rfl, Nat.le_of_ble_eq_true rfl⟩ hK0 hV0 (hC.bo (by decide)) rfl rfl rfl hl.1 rfl (Nat.le_of_ble_eq_true rfl) (Nat.le_of_ble_eq_true rfl) (Nat.le_of_ble_eq_true rfl) dX2_merge_29 ?_
  refine lv_istore_n (lv' := [(2, .int (sV S 0)), (0, .ref (aX ad)), (1, .int (nI lv))]) hx hb dX2_merge_32 rfl hl (by decide) rfl (fun ls hl => ?_)
  refine lv_aload_n hx hb dX2_merge_33 rfl (lv_at hl 1 rfl) ?_
  refine h_get (v := .ref (aB ad 0)) hx hb hts hi2 hown hK0 hV0 hC.xo rfl 1 (by decide) hw0 rfl dX2_merge_34 ?_
  refine lv_iload_n hx hb dX2_merge_37 rfl (lv_at hl 2 rfl) ?_
  refine h_wrV (As := [.int (nI lv)]) (rest := []) hF (c_X0_mergeLevel l G A _ ad S hC 0 (by decide) lv (by omega) (oneB_all hI lv) hA0) 1 gX2_merge_X0_mergeLevel rfl (by decide +kernel) ⟨Nat.le_of_ble_eq_true rfl, Nat.le_of_ble_eq_true rfl⟩ hK0 hV0 hA hS (hC.bo (by decide)) rfl rfl rfl hl.1 rfl (Nat.le_of_ble_eq_true rfl) ⟨Nat.le_of_ble_eq_true rfl, Nat.le_of_ble_eq_true rfl⟩ dX2_merge_38 (fun ro hp1 H locs hP1 hV0 hA0 hS => ?_)
  obtain ⟨rfl, hT1⟩ := hP1
  have hT := hT.tr hT1
  have hC := hT.1
  refine lv_aload_n hx hb dX2_merge_41 rfl (lv_at hl 1 rfl) ?_
  refine h_get (v := .ref (aB ad 0)) hx hb hts hi2 hown hK0 hV0 hC.xo rfl 1 (by decide) hw0 rfl dX2_merge_42 ?_
  refine h_wrV (As := []) (rest := []) hF (c_X0_settle l G A _ ad (mgS S 0 lv) hC 0 (by decide) (lv + 1) (mg_one hl4 (oneB_all hI lv)) hA0) 0 gX2_merge_X0_settle rfl (by decide +kernel) ⟨Nat.le_of_ble_eq_true rfl, Nat.le_of_ble_eq_true rfl⟩ hK0 hV0 hA hS (hC.bo (by decide)) rfl rfl rfl hl.1 rfl (Nat.le_of_ble_eq_true rfl) ⟨Nat.le_of_ble_eq_true rfl, Nat.le_of_ble_eq_true rfl⟩ dX2_merge_45 (fun ro hp1 H locs hP1 hV0 hA0 hS => ?_)
  obtain ⟨rfl, hT1⟩ := hP1
  have hT := hT.tr hT1
  have hC := hT.1
  refine lv_aload_n hx hb dX2_merge_48 rfl (lv_at hl 1 rfl) ?_
  refine h_get (v := .ref (aB ad 0)) hx hb hts hi2 hown hK0 hV0 hC.xo rfl 1 (by decide) hw0 rfl dX2_merge_49 ?_
  refine h_rdV (As := []) (rest := []) hF (c_X0_moves l G _ ad (stS (mgS S 0 lv) 0 4) hC 0 (by decide)) 0 gX2_merge_X0_moves rfl (by decide +kernel) ⟨Nat.le_of_ble_eq_true rfl, Nat.le_of_ble_eq_true rfl⟩ hK0 hV0 (hC.bo (by decide)) rfl rfl rfl hl.1 rfl (Nat.le_of_ble_eq_true rfl) (Nat.le_of_ble_eq_true rfl) (Nat.le_of_ble_eq_true rfl) dX2_merge_52 ?_
  refine lv_iload_n hx hb dX2_merge_55 rfl (lv_at hl 0 rfl) ?_
  refine lv_isub hx hb dX2_merge_56 ?_
  exact W.iret hx hb hr (h_qW ⟨rfl, hT⟩ hV0 hA0 hS) hS.2.2 dX2_merge_57 hlocks

set_option maxHeartbeats 1000000 in
set_option maxRecDepth 100000 in
theorem c_X2_read (l : Launch) (G : hG) (A : Nat → Prop) (hp : HP) (ad : Nat → Nat) (S : CS) (hC : cW ad S hp) (hI : cI S) (x : Nat) (hx6 : x < 64) (hA0 : hIn A hp) : hWr l yX2_read wsX2_read 4 92 0 0 G A hp [.ref (aX ad), .int (nI x)] (fun ro hp' => ro = some (.int (wdS (sF S 0) (sN S 0) (gC S 0) x)) ∧ cT ad hp (uD S (sD S + nI (dtS (sF S 0) (sN S 0) (gC S 0) x))) hp') := by
  refine Met.ofW (cc := cX2_read) (maxL := 2) (ret := (some .int)) (by decide) rfl ?_
  intro p e s m args below meth c s₁ B hml hv
  obtain ⟨rfl, hV0, hK0, hA⟩ := hv
  have hx := B.exec
  have hb := B.bytes
  have hr := B.returns
  have hts := atoms_spec (ws := wsX2_read) B.pre
  have hown : s.vm.findClass RX2 = some m.cls := findClass_of_methodNamed B.named
  have hlocks := B.notSynchronized
  have hF : CallFix p m c cX2_read 2 s [.ref (aX ad), .int (nI x)].toArray wsX2_read RX2 := ⟨hx, hb, hml, hown, hts⟩
  have hw0 := hts (.fieldLink RX2 30 "SlipLevels" "detoursRead" "I") (by decide +kernel)
  have hw1 := hts (.fieldLink RX2 19 "SlipLevels" "binder" "LSlipLevels$Binder;") (by decide +kernel)
  have hi2 : ∀ w ∈ u_ws RX2 TX2 5, w ∈ wsX2_read := by
    intro w h
    unfold wsX2_read
    simp only [List.mem_cons, List.mem_append, h, true_or, or_true]
  have hS : va_S A s.heap s.heap [] := va_S.rf
  have hl := lv_entry ([.ref (aX ad), .int (nI x)]) (n := 2) (Nat.le_of_ble_eq_true rfl)
  rw [lg_entry_eq]
  generalize (lg_sl ([.ref (aX ad), .int (nI x)]) ++ List.replicate (2 - (lg_sl ([.ref (aX ad), .int (nI x)])).length) Slot.unset).toArray = ls at hl ⊢
  replace hl : lv_has ls 2 [(0, .ref (aX ad)), (1, .int (nI x))] := hl
  have hT := cT.rf hC
  refine lv_iload_n hx hb dX2_read_0 rfl (lv_at hl 1 rfl) ?_
  refine h_rdS (As := [.int (nI x)]) (rest := []) hF (c_X2_needNumber l G _ x (by omega)) 1 gX2_read_X2_needNumber rfl (by decide +kernel) ⟨Nat.le_of_ble_eq_true rfl, Nat.le_of_ble_eq_true rfl⟩ hK0 hV0 rfl hl.1 rfl (Nat.le_of_ble_eq_true rfl) (Nat.le_of_ble_eq_true rfl) (Nat.le_of_ble_eq_true rfl) dX2_read_1 ?_
  refine lv_aload_n hx hb dX2_read_4 rfl (lv_at hl 0 rfl) ?_
  refine lv_dup hx hb dX2_read_5 rfl ?_
  refine h_get (v := .int (sD S)) hx hb hts hi2 hown hK0 hV0 hC.xo rfl 4 (by decide) hw0 rfl dX2_read_6 ?_
  refine lv_aload_n hx hb dX2_read_9 rfl (lv_at hl 0 rfl) ?_
  refine lv_aload_n hx hb dX2_read_10 rfl (lv_at hl 0 rfl) ?_
  refine h_get (v := .ref (aB ad 0)) hx hb hts hi2 hown hK0 hV0 hC.xo rfl 1 (by decide) hw1 rfl dX2_read_11 ?_
  refine lv_iload_n hx hb dX2_read_14 rfl (lv_at hl 1 rfl) ?_
  refine h_rdV (As := [.ref (aB ad 0), .int (nI x)]) (rest := [.int (sD S), .ref (aX ad)]) hF (c_X2_detoursIn l G _ ad S hC 0 (by decide) x (by omega)) 2 gX2_read_X2_detoursIn rfl (by decide +kernel) ⟨Nat.le_of_ble_eq_true rfl, Nat.le_of_ble_eq_true rfl⟩ hK0 hV0 hC.xo rfl rfl rfl hl.1 rfl (Nat.le_of_ble_eq_true rfl) (Nat.le_of_ble_eq_true rfl) (Nat.le_of_ble_eq_true rfl) dX2_read_15 ?_
  refine lv_iadd hx hb dX2_read_18 ?_
  refine h_put (v := .int ((sD S) + nI (dtS (sF S 0) (sN S 0) (gC S 0) x))) hx hb hts hi2 tyX2 tyX2_ok nmX2 hown hK0 hV0 hA0 hS hC.xo rfl 4 (by decide) hw0 rfl (by rfl) (by rfl) (Nat.le_of_ble_eq_true rfl) dX2_read_19 (fun H locs hV0 hA0 hS => ?_)
  have hT := hT.setD (((sD S) + nI (dtS (sF S 0) (sN S 0) (gC S 0) x)))
  have hC := hT.1
  refine lv_aload_n hx hb dX2_read_22 rfl (lv_at hl 0 rfl) ?_
  refine lv_iload_n hx hb dX2_read_23 rfl (lv_at hl 1 rfl) ?_
  refine h_rdV (As := [.int (nI x)]) (rest := []) hF (c_X2_wordOf l G _ ad (uD S (((sD S) + nI (dtS (sF S 0) (sN S 0) (gC S 0) x)))) hC x (by omega)) 1 gX2_read_X2_wordOf rfl (by decide +kernel) ⟨Nat.le_of_ble_eq_true rfl, Nat.le_of_ble_eq_true rfl⟩ hK0 hV0 hC.xo rfl rfl rfl hl.1 rfl (Nat.le_of_ble_eq_true rfl) (Nat.le_of_ble_eq_true rfl) (Nat.le_of_ble_eq_true rfl) dX2_read_24 ?_
  exact W.iret hx hb hr (h_qW ⟨rfl, hT⟩ hV0 hA0 hS) hS.2.2 dX2_read_27 hlocks

set_option maxHeartbeats 1000000 in
set_option maxRecDepth 100000 in
theorem c_X2_tryMerging (l : Launch) (G : hG) (A : Nat → Prop) (hp : HP) (ad : Nat → Nat) (S : CS) (hC : cW ad S hp) (hI : cI S) (lv : Nat) (hl4 : lv < 4) (hA0 : hIn A hp) : hWr l yX2_tryMerging wsX2_tryMerging 5 113 0 0 G A hp [.ref (aX ad), .int (nI lv)] (fun ro hp' => ro = none ∧ cT ad hp (tmS S lv) hp') := by
  refine Met.ofW (cc := cX2_tryMerging) (maxL := 2) (ret := none) (by decide) rfl ?_
  intro p e s m args below meth c s₁ B hml hv
  obtain ⟨rfl, hV0, hK0, hA⟩ := hv
  have hx := B.exec
  have hb := B.bytes
  have hr := B.returns
  have hts := atoms_spec (ws := wsX2_tryMerging) B.pre
  have hown : s.vm.findClass RX2 = some m.cls := findClass_of_methodNamed B.named
  have hlocks := B.notSynchronized
  have hF : CallFix p m c cX2_tryMerging 2 s [.ref (aX ad), .int (nI lv)].toArray wsX2_tryMerging RX2 := ⟨hx, hb, hml, hown, hts⟩
  have hw0 := hts (.fieldLink RX2 23 "SlipLevels" "trial" "LSlipLevels$Binder;") (by decide +kernel)
  have hw1 := hts (.fieldLink RX2 19 "SlipLevels" "binder" "LSlipLevels$Binder;") (by decide +kernel)
  have hi2 : ∀ w ∈ u_ws RX2 TX2 5, w ∈ wsX2_tryMerging := by
    intro w h
    unfold wsX2_tryMerging
    simp only [List.mem_cons, List.mem_append, h, true_or, or_true]
  have hS : va_S A s.heap s.heap [] := va_S.rf
  have hl := lv_entry ([.ref (aX ad), .int (nI lv)]) (n := 2) (Nat.le_of_ble_eq_true rfl)
  rw [lg_entry_eq]
  generalize (lg_sl ([.ref (aX ad), .int (nI lv)]) ++ List.replicate (2 - (lg_sl ([.ref (aX ad), .int (nI lv)])).length) Slot.unset).toArray = ls at hl ⊢
  replace hl : lv_has ls 2 [(0, .ref (aX ad)), (1, .int (nI lv))] := hl
  have hT := cT.rf hC
  have hOk := hC.ok
  refine lv_aload_n hx hb dX2_tryMerging_0 rfl (lv_at hl 0 rfl) ?_
  refine h_get (v := .ref (aB ad 1)) hx hb hts hi2 hown hK0 hV0 hC.xo rfl 2 (by decide) hw0 rfl dX2_tryMerging_1 ?_
  refine lv_aload_n hx hb dX2_tryMerging_4 rfl (lv_at hl 0 rfl) ?_
  refine h_get (v := .ref (aB ad 0)) hx hb hts hi2 hown hK0 hV0 hC.xo rfl 1 (by decide) hw1 rfl dX2_tryMerging_5 ?_
  refine h_wrV (As := [.ref (aB ad 0)]) (rest := []) hF (c_X0_copyRuns l G A _ ad S hC  hA0) 1 gX2_tryMerging_X0_copyRuns rfl (by decide +kernel) ⟨Nat.le_of_ble_eq_true rfl, Nat.le_of_ble_eq_true rfl⟩ hK0 hV0 hA hS (hC.bo (by decide)) rfl rfl rfl hl.1 rfl (Nat.le_of_ble_eq_true rfl) ⟨Nat.le_of_ble_eq_true rfl, Nat.le_of_ble_eq_true rfl⟩ dX2_tryMerging_8 (fun ro hp1 H locs hP1 hV0 hA0 hS => ?_)
  obtain ⟨rfl, hT1⟩ := hP1
  have hT := hT.tr hT1
  have hC := hT.1
  refine lv_aload_n hx hb dX2_tryMerging_11 rfl (lv_at hl 0 rfl) ?_
  refine h_get (v := .ref (aB ad 1)) hx hb hts hi2 hown hK0 hV0 hC.xo rfl 2 (by decide) hw0 rfl dX2_tryMerging_12 ?_
  refine lv_iload_n hx hb dX2_tryMerging_15 rfl (lv_at hl 1 rfl) ?_
  refine h_wrV (As := [.int (nI lv)]) (rest := []) hF (c_X0_mergeLevel l G A _ ad (cpS S 4 4 0) hC 1 (by decide) lv (by omega) (oneB_tm hOk hI lv) hA0) 1 gX2_tryMerging_X0_mergeLevel rfl (by decide +kernel) ⟨Nat.le_of_ble_eq_true rfl, Nat.le_of_ble_eq_true rfl⟩ hK0 hV0 hA hS (hC.bo (by decide)) rfl rfl rfl hl.1 rfl (Nat.le_of_ble_eq_true rfl) ⟨Nat.le_of_ble_eq_true rfl, Nat.le_of_ble_eq_true rfl⟩ dX2_tryMerging_16 (fun ro hp1 H locs hP1 hV0 hA0 hS => ?_)
  obtain ⟨rfl, hT1⟩ := hP1
  have hT := hT.tr hT1
  have hC := hT.1
  refine lv_aload_n hx hb dX2_tryMerging_19 rfl (lv_at hl 0 rfl) ?_
  refine h_get (v := .ref (aB ad 1)) hx hb hts hi2 hown hK0 hV0 hC.xo rfl 2 (by decide) hw0 rfl dX2_tryMerging_20 ?_
  refine h_wrV (As := []) (rest := []) hF (c_X0_settle l G A _ ad (mgS (cpS S 4 4 0) 1 lv) hC 1 (by decide) (lv + 1) (mg_one hl4 (oneB_tm hOk hI lv)) hA0) 0 gX2_tryMerging_X0_settle rfl (by decide +kernel) ⟨Nat.le_of_ble_eq_true rfl, Nat.le_of_ble_eq_true rfl⟩ hK0 hV0 hA hS (hC.bo (by decide)) rfl rfl rfl hl.1 rfl (Nat.le_of_ble_eq_true rfl) ⟨Nat.le_of_ble_eq_true rfl, Nat.le_of_ble_eq_true rfl⟩ dX2_tryMerging_23 (fun ro hp1 H locs hP1 hV0 hA0 hS => ?_)
  obtain ⟨rfl, hT1⟩ := hP1
  have hT := hT.tr hT1
  have hC := hT.1
  exact W.vret hx hb hr (h_qW ⟨rfl, hT⟩ hV0 hA0 hS) hS.2.2 dX2_tryMerging_26 hlocks

set_option maxHeartbeats 1000000 in
set_option maxRecDepth 100000 in
theorem c_X2_sparesN (l : Launch) (G : hG) (A : Nat → Prop) (hp : HP) (ad : Nat → Nat) (S : CS) (hC : cW ad S hp) (hI : cI S) (lv : Nat) (hl4 : lv < 4) (hr0 : sN S 0 lv = 0) (hA0 : hIn A hp) : hWr l yX2_spares wsX2_spares 1 21 0 0 G A hp [.ref (aX ad), .int (nI lv)] (fun ro hp' => ro = some (.int (-1)) ∧ cT ad hp S hp') := by
  refine Met.ofW (cc := cX2_spares) (maxL := 2) (ret := (some .int)) (by decide) rfl ?_
  intro p e s m args below meth c s₁ B hml hv
  obtain ⟨rfl, hV0, hK0, hA⟩ := hv
  have hx := B.exec
  have hb := B.bytes
  have hr := B.returns
  have hts := atoms_spec (ws := wsX2_spares) B.pre
  have hown : s.vm.findClass RX2 = some m.cls := findClass_of_methodNamed B.named
  have hlocks := B.notSynchronized
  have hF : CallFix p m c cX2_spares 2 s [.ref (aX ad), .int (nI lv)].toArray wsX2_spares RX2 := ⟨hx, hb, hml, hown, hts⟩
  have hw0 := hts (.fieldLink RX2 19 "SlipLevels" "binder" "LSlipLevels$Binder;") (by decide +kernel)
  have hi2 : ∀ w ∈ u_ws RX2 TX2 5, w ∈ wsX2_spares := by
    intro w h
    unfold wsX2_spares
    simp only [List.mem_cons, List.mem_append, h, true_or, or_true]
  have hS : va_S A s.heap s.heap [] := va_S.rf
  have hl := lv_entry ([.ref (aX ad), .int (nI lv)]) (n := 2) (Nat.le_of_ble_eq_true rfl)
  rw [lg_entry_eq]
  generalize (lg_sl ([.ref (aX ad), .int (nI lv)]) ++ List.replicate (2 - (lg_sl ([.ref (aX ad), .int (nI lv)])).length) Slot.unset).toArray = ls at hl ⊢
  replace hl : lv_has ls 2 [(0, .ref (aX ad)), (1, .int (nI lv))] := hl
  have hT := cT.rf hC
  have hn := hC.ok.2.1 0 lv
  refine lv_iload_n hx hb dX2_spares_0 rfl (lv_at hl 1 rfl) ?_
  refine h_rdS (As := [.int (nI lv)]) (rest := []) hF (c_X2_needLevel l G _ lv (by omega)) 1 gX2_spares_X2_needLevel rfl (by decide +kernel) ⟨Nat.le_of_ble_eq_true rfl, Nat.le_of_ble_eq_true rfl⟩ hK0 hV0 rfl hl.1 rfl (Nat.le_of_ble_eq_true rfl) (Nat.le_of_ble_eq_true rfl) (Nat.le_of_ble_eq_true rfl) dX2_spares_1 ?_
  refine lv_aload_n hx hb dX2_spares_4 rfl (lv_at hl 0 rfl) ?_
  refine h_get (v := .ref (aB ad 0)) hx hb hts hi2 hown hK0 hV0 hC.xo rfl 1 (by decide) hw0 rfl dX2_spares_5 ?_
  refine lv_iload_n hx hb dX2_spares_8 rfl (lv_at hl 1 rfl) ?_
  refine h_rdV (As := [.int (nI lv)]) (rest := []) hF (c_X0_runsOf l G _ ad S hC 0 (by decide) lv (by omega)) 1 gX2_spares_X0_runsOf rfl (by decide +kernel) ⟨Nat.le_of_ble_eq_true rfl, Nat.le_of_ble_eq_true rfl⟩ hK0 hV0 (hC.bo (by decide)) rfl rfl rfl hl.1 rfl (Nat.le_of_ble_eq_true rfl) (Nat.le_of_ble_eq_true rfl) (Nat.le_of_ble_eq_true rfl) dX2_spares_9 ?_
  refine h_if_ne (a := sN S 0 lv) (tgt := 17) hx hb dX2_spares_12 (by decide) (by omega) (fun c_12 => absurd hr0 c_12) (fun c_12 => ?_)
  refine lv_iconst (v := (-1)) hx hb dX2_spares_15 (by decide) ?_
  exact W.iret hx hb hr (h_qW ⟨rfl, hT⟩ hV0 hA0 hS) hS.2.2 dX2_spares_16 hlocks

set_option maxHeartbeats 1000000 in
set_option maxRecDepth 100000 in
theorem c_X2_spares (l : Launch) (G : hG) (A : Nat → Prop) (hp : HP) (ad : Nat → Nat) (S : CS) (hC : cW ad S hp) (hI : cI S) (lv : Nat) (hl4 : lv < 4) (hr0 : ¬ sN S 0 lv = 0) (hA0 : hIn A hp) : hWr l yX2_spares wsX2_spares 6 134 0 0 G A hp [.ref (aX ad), .int (nI lv)] (fun ro hp' => ro = some (.int (nI (slAll (tmS S lv) 0) - nI (slAll (tmS S lv) 1))) ∧ cT ad hp (tmS S lv) hp') := by
  refine Met.ofW (cc := cX2_spares) (maxL := 2) (ret := (some .int)) (by decide) rfl ?_
  intro p e s m args below meth c s₁ B hml hv
  obtain ⟨rfl, hV0, hK0, hA⟩ := hv
  have hx := B.exec
  have hb := B.bytes
  have hr := B.returns
  have hts := atoms_spec (ws := wsX2_spares) B.pre
  have hown : s.vm.findClass RX2 = some m.cls := findClass_of_methodNamed B.named
  have hlocks := B.notSynchronized
  have hF : CallFix p m c cX2_spares 2 s [.ref (aX ad), .int (nI lv)].toArray wsX2_spares RX2 := ⟨hx, hb, hml, hown, hts⟩
  have hw0 := hts (.fieldLink RX2 19 "SlipLevels" "binder" "LSlipLevels$Binder;") (by decide +kernel)
  have hw1 := hts (.fieldLink RX2 23 "SlipLevels" "trial" "LSlipLevels$Binder;") (by decide +kernel)
  have hi2 : ∀ w ∈ u_ws RX2 TX2 5, w ∈ wsX2_spares := by
    intro w h
    unfold wsX2_spares
    simp only [List.mem_cons, List.mem_append, h, true_or, or_true]
  have hS : va_S A s.heap s.heap [] := va_S.rf
  have hl := lv_entry ([.ref (aX ad), .int (nI lv)]) (n := 2) (Nat.le_of_ble_eq_true rfl)
  rw [lg_entry_eq]
  generalize (lg_sl ([.ref (aX ad), .int (nI lv)]) ++ List.replicate (2 - (lg_sl ([.ref (aX ad), .int (nI lv)])).length) Slot.unset).toArray = ls at hl ⊢
  replace hl : lv_has ls 2 [(0, .ref (aX ad)), (1, .int (nI lv))] := hl
  have hT := cT.rf hC
  have hn := hC.ok.2.1 0 lv
  refine lv_iload_n hx hb dX2_spares_0 rfl (lv_at hl 1 rfl) ?_
  refine h_rdS (As := [.int (nI lv)]) (rest := []) hF (c_X2_needLevel l G _ lv (by omega)) 1 gX2_spares_X2_needLevel rfl (by decide +kernel) ⟨Nat.le_of_ble_eq_true rfl, Nat.le_of_ble_eq_true rfl⟩ hK0 hV0 rfl hl.1 rfl (Nat.le_of_ble_eq_true rfl) (Nat.le_of_ble_eq_true rfl) (Nat.le_of_ble_eq_true rfl) dX2_spares_1 ?_
  refine lv_aload_n hx hb dX2_spares_4 rfl (lv_at hl 0 rfl) ?_
  refine h_get (v := .ref (aB ad 0)) hx hb hts hi2 hown hK0 hV0 hC.xo rfl 1 (by decide) hw0 rfl dX2_spares_5 ?_
  refine lv_iload_n hx hb dX2_spares_8 rfl (lv_at hl 1 rfl) ?_
  refine h_rdV (As := [.int (nI lv)]) (rest := []) hF (c_X0_runsOf l G _ ad S hC 0 (by decide) lv (by omega)) 1 gX2_spares_X0_runsOf rfl (by decide +kernel) ⟨Nat.le_of_ble_eq_true rfl, Nat.le_of_ble_eq_true rfl⟩ hK0 hV0 (hC.bo (by decide)) rfl rfl rfl hl.1 rfl (Nat.le_of_ble_eq_true rfl) (Nat.le_of_ble_eq_true rfl) (Nat.le_of_ble_eq_true rfl) dX2_spares_9 ?_
  refine h_if_ne (a := sN S 0 lv) (tgt := 17) hx hb dX2_spares_12 (by decide) (by omega) (fun c_12 => ?_) (fun c_12 => absurd c_12 hr0)
  refine lv_aload_n hx hb dX2_spares_17 rfl (lv_at hl 0 rfl) ?_
  refine lv_iload_n hx hb dX2_spares_18 rfl (lv_at hl 1 rfl) ?_
  refine h_wrV (As := [.int (nI lv)]) (rest := []) hF (c_X2_tryMerging l G A _ ad S hC hI lv (by omega) hA0) 1 gX2_spares_X2_tryMerging rfl (by decide +kernel) ⟨Nat.le_of_ble_eq_true rfl, Nat.le_of_ble_eq_true rfl⟩ hK0 hV0 hA hS hC.xo rfl rfl rfl hl.1 rfl (Nat.le_of_ble_eq_true rfl) ⟨Nat.le_of_ble_eq_true rfl, Nat.le_of_ble_eq_true rfl⟩ dX2_spares_19 (fun ro hp1 H locs hP1 hV0 hA0 hS => ?_)
  obtain ⟨rfl, hT1⟩ := hP1
  have hT := hT.tr hT1
  have hC := hT.1
  refine lv_aload_n hx hb dX2_spares_22 rfl (lv_at hl 0 rfl) ?_
  refine h_get (v := .ref (aB ad 0)) hx hb hts hi2 hown hK0 hV0 hC.xo rfl 1 (by decide) hw0 rfl dX2_spares_23 ?_
  refine h_rdV (As := []) (rest := []) hF (c_X0_slips l G _ ad (tmS S lv) hC 0 (by decide)) 0 gX2_spares_X0_slips rfl (by decide +kernel) ⟨Nat.le_of_ble_eq_true rfl, Nat.le_of_ble_eq_true rfl⟩ hK0 hV0 (hC.bo (by decide)) rfl rfl rfl hl.1 rfl (Nat.le_of_ble_eq_true rfl) (Nat.le_of_ble_eq_true rfl) (Nat.le_of_ble_eq_true rfl) dX2_spares_26 ?_
  refine lv_aload_n hx hb dX2_spares_29 rfl (lv_at hl 0 rfl) ?_
  refine h_get (v := .ref (aB ad 1)) hx hb hts hi2 hown hK0 hV0 hC.xo rfl 2 (by decide) hw1 rfl dX2_spares_30 ?_
  refine h_rdV (As := []) (rest := [.int (nI (slAll (tmS S lv) 0))]) hF (c_X0_slips l G _ ad (tmS S lv) hC 1 (by decide)) 0 gX2_spares_X0_slips rfl (by decide +kernel) ⟨Nat.le_of_ble_eq_true rfl, Nat.le_of_ble_eq_true rfl⟩ hK0 hV0 (hC.bo (by decide)) rfl rfl rfl hl.1 rfl (Nat.le_of_ble_eq_true rfl) (Nat.le_of_ble_eq_true rfl) (Nat.le_of_ble_eq_true rfl) dX2_spares_33 ?_
  refine lv_isub hx hb dX2_spares_36 ?_
  exact W.iret hx hb hr (h_qW ⟨rfl, hT⟩ hV0 hA0 hS) hS.2.2 dX2_spares_37 hlocks
