/-! what writing does to the class' state -/
def cT (ad : Nat → Nat) (hp0 : HP) (S : CS) (hp : HP) : Prop := cW ad S hp ∧ cFr ad hp0 hp
theorem cT.rf {ad : Nat → Nat} {S : CS} {hp : HP} (h : cW ad S hp) : cT ad hp S hp := ⟨h, cFr.rf⟩
theorem cT.tr {ad : Nat → Nat} {S S2 : CS} {h0 h1 h2 : HP} (a : cT ad h0 S h1) (b : cT ad h1 S2 h2) : cT ad h0 S2 h2 := ⟨b.1, a.2.tr b.2⟩
theorem cT.setF {ad : Nat → Nat} {h0 hp : HP} {S : CS} (h : cT ad h0 S hp) {j : Nat} (hj : j < 27) {f : Row} (hf : okR f) : cT ad h0 (uF S j f) (hput (hput hp (aW ad j) (eI 64 f)) (aS ad j) (eO 1 (slO (aW ad j) f))) := ⟨h.1.setF hj hf, h.2.setF hj _ _⟩
theorem cT.setN {ad : Nat → Nat} {h0 hp : HP} {S : CS} (h : cT ad h0 S hp) {k : Nat} (hk : k < 2) {l v : Nat} (hl : l < 4) (hv : v ≤ 3) : cT ad h0 (uN S k l v) (hput hp (aN ad k) (eI 4 (upd (fun l => nI (sN S k l)) l (nI v)))) := ⟨h.1.setN hk hl hv, h.2.setN hk _⟩
theorem cT.setV {ad : Nat → Nat} {h0 hp : HP} {S : CS} (h : cT ad h0 S hp) {k : Nat} (hk : k < 2) (v : Int32) : cT ad h0 (uV S k v) (hput hp (aB ad k) (eO 0 [.ref (aQ ad k), .ref (aN ad k), .ref (aS ad (13 + 13 * k)), .int v, .int (sG S k)])) := ⟨h.1.setV hk v, h.2.setB hk _⟩
theorem cT.setG {ad : Nat → Nat} {h0 hp : HP} {S : CS} (h : cT ad h0 S hp) {k : Nat} (hk : k < 2) (v : Int32) : cT ad h0 (uG S k v) (hput hp (aB ad k) (eO 0 [.ref (aQ ad k), .ref (aN ad k), .ref (aS ad (13 + 13 * k)), .int (sV S k), .int v])) := ⟨h.1.setG hk v, h.2.setB hk _⟩
theorem cT.setR {ad : Nat → Nat} {h0 hp : HP} {S : CS} (h : cT ad h0 S hp) (v : Int32) : cT ad h0 (uR S v) (hput hp (aX ad) (eO 2 [.ref (aS ad 0), .ref (aB ad 0), .ref (aB ad 1), .int v, .int (sD S)])) := ⟨h.1.setR v, h.2.setX _⟩
theorem cT.setD {ad : Nat → Nat} {h0 hp : HP} {S : CS} (h : cT ad h0 S hp) (v : Int32) : cT ad h0 (uD S v) (hput hp (aX ad) (eO 2 [.ref (aS ad 0), .ref (aB ad 0), .ref (aB ad 1), .int (sR S), .int v])) := ⟨h.1.setD v, h.2.setX _⟩
def gaW (n : Nat) (g : Nat → Row) (b : Bool) (x : Nat) : Int32 := if b = true ∧ fsL g x n 0 = -1 then -2 else fsL g x n 0
def gaP (n : Nat) (g : Nat → Row) (b : Bool) (i : Nat) : Row := fun x => if x < i then gaW n g b x else -2
def gaS (S : CS) (k l : Nat) (b : Bool) : CS := uF S (13 + 13 * k) (gaP (sN S k l) (gC S k l) b 64)
def adS (S : CS) (k l j : Nat) : CS := if szR (sF S j) = 0 then S else uV (uN (uF S (1 + 13 * k + (3 * l + sN S k l)) (sF S j)) k l (sN S k l + 1)) k (sV S k + nI (szR (sF S j)))
def mg2 (S : CS) (k l : Nat) : CS := uN (gaS S k l (nbA (sN S k) l)) k l 0
def mg3 (S : CS) (k l : Nat) : CS := adS (mg2 S k l) k (min (l + 1) 3) (13 + 13 * k)
def mgS (S : CS) (k l : Nat) : CS := uG (mg3 S k l) k (sG (mg3 S k l) k + nI 1)
def stS (S : CS) (k : Nat) : Nat → CS
  | 0 => S
  | m + 1 => if 3 ≤ sN (stS S k m) k m then mgS (stS S k m) k m else stS S k m
theorem uF_uF (S : CS) (j : Nat) (f g : Row) : uF (uF S j f) j g = uF S j g := by
  unfold uF
  congr 1
  funext i
  show (if i = j then g else (if i = j then f else sF S i)) = _
  by_cases h : i = j <;> simp [h]
theorem sF_uF (S : CS) (j : Nat) (f : Row) : sF (uF S j f) j = f := if_pos rfl
theorem sF_uFn (S : CS) {i j : Nat} (f : Row) (h : i ≠ j) : sF (uF S j f) i = sF S i := if_neg h
theorem gC_uFm {S : CS} {k l : Nat} {f : Row} (hn : sN S k l ≤ 3) (hl : l < 4) : gC (uF S (13 + 13 * k) f) k l = gC S k l := by
  funext r
  unfold gC
  show (if r < sN S k l then sF (uF S (13 + 13 * k) f) (1 + 13 * k + (3 * l + (sN S k l - 1 - r))) else emR) = _
  rw [sF_uFn S f (by omega)]
theorem gaP_0 (n : Nat) (g : Nat → Row) (b : Bool) : gaP n g b 0 = emR := by
  funext x
  exact if_neg (Nat.not_lt_zero x)
theorem gaP_put {n : Nat} {g : Nat → Row} {b : Bool} {i : Nat} {v : Int32} (h : gaW n g b i = v) : upd (gaP n g b i) i v = gaP n g b (i + 1) := by
  funext x
  unfold upd gaP
  by_cases e : x = i
  · subst e
    rw [if_pos rfl, if_pos (Nat.lt_succ_self x), h]
  · rw [if_neg e]
    by_cases e2 : x < i
    · rw [if_pos e2, if_pos (by omega)]
    · rw [if_neg e2, if_neg (by omega)]
theorem gaP_skip {n : Nat} {g : Nat → Row} {b : Bool} {i : Nat} (h : gaW n g b i = -2) : gaP n g b i = gaP n g b (i + 1) := by
  rw [← gaP_put h]
  funext x
  unfold upd gaP
  by_cases e : x = i
  · subst e
    rw [if_pos rfl, if_neg (Nat.lt_irrefl x)]
  · rw [if_neg e]
theorem fsL_ok {g : Nat → Row} (hg : ∀ r, okR (g r)) (x : Nat) : ∀ m r, fsL g x m r = -2 ∨ fsL g x m r = -1 ∨ ∃ v : Nat, v < 100 ∧ fsL g x m r = nI v
  | 0, _ => Or.inl rfl
  | m + 1, r => by
    unfold fsL
    split
    · exact (hg r).2 x
    · exact fsL_ok hg x m (r + 1)
theorem fsL_big {g : Nat → Row} (hg : ∀ r, okR (g r)) {x : Nat} (hx : 64 ≤ x) : ∀ m r, fsL g x m r = -2
  | 0, _ => rfl
  | m + 1, r => by
    unfold fsL
    rw [hasR_false ((hg r).1 x hx)]
    exact fsL_big hg hx m (r + 1)
theorem gaP_ok {n : Nat} {g : Nat → Row} (hg : ∀ r, okR (g r)) (b : Bool) (i : Nat) : okR (gaP n g b i) := by
  refine ⟨fun j hj => ?_, fun j => ?_⟩
  · unfold gaP gaW
    rw [fsL_big hg hj]
    split
    · split <;> rfl
    · rfl
  · unfold gaP
    split
    · unfold gaW
      split
      · exact Or.inl rfl
      · exact fsL_ok hg j n 0
    · exact Or.inl rfl
theorem emR_ok : okR emR := ⟨fun _ _ => rfl, fun _ => Or.inl rfl⟩
theorem gC_ok {S : CS} (h : cOk S) (k l r : Nat) : okR (gC S k l r) := by
  unfold gC
  split
  · exact h.1 _
  · exact emR_ok
theorem gaW_n {n : Nat} {g : Nat → Row} {b : Bool} {x : Nat} (h : fsL g x n 0 = -2) : gaW n g b x = -2 := by
  unfold gaW
  rw [h]
  split <;> rfl
theorem gaW_f {n : Nat} {g : Nat → Row} {b : Bool} {x : Nat} (h : b = false) : gaW n g b x = fsL g x n 0 := by
  unfold gaW
  rw [h]
  simp
theorem gaW_w {n : Nat} {g : Nat → Row} {b : Bool} {x : Nat} (h : ¬ fsL g x n 0 = -1) : gaW n g b x = fsL g x n 0 := by
  unfold gaW
  rw [if_neg (fun z => h z.2)]
theorem gaW_t {n : Nat} {g : Nat → Row} {b : Bool} {x : Nat} (hb : b = true) (h : fsL g x n 0 = -1) : gaW n g b x = -2 := by
  unfold gaW
  rw [if_pos ⟨hb, h⟩]
theorem adS_0 {S : CS} {k l j : Nat} (h : szR (sF S j) = 0) : adS S k l j = S := if_pos h
theorem adS_1 {S : CS} {k l j : Nat} (h : ¬ szR (sF S j) = 0) : adS S k l j = uV (uN (uF S (1 + 13 * k + (3 * l + sN S k l)) (sF S j)) k l (sN S k l + 1)) k (sV S k + nI (szR (sF S j))) := if_neg h
/-- all levels of a binder but perhaps one have two runs at most -/
def oneB (n : Nat → Nat) (L : Nat) : Prop := ∀ l, l < 4 → l ≠ L → n l ≤ 2
theorem sN_adS (S : CS) (k l j k2 l2 : Nat) : sN (adS S k l j) k2 l2 = if szR (sF S j) = 0 then sN S k2 l2 else if k2 = k ∧ l2 = l then sN S k l + 1 else sN S k2 l2 := by
  unfold adS
  split <;> rfl
theorem sN_mg2 (S : CS) (k l k2 l2 : Nat) : sN (mg2 S k l) k2 l2 = if k2 = k ∧ l2 = l then 0 else sN S k2 l2 := rfl
theorem sN_mgS (S : CS) (k l k2 l2 : Nat) : sN (mgS S k l) k2 l2 = sN (mg3 S k l) k2 l2 := rfl
theorem sN_mg3_le (S : CS) (k l l2 : Nat) (hl : l < 4) : sN (mg3 S k l) k l2 ≤ if l2 = min (l + 1) 3 then (if l = 3 then 1 else sN S k l2 + 1) else if l2 = l then 0 else sN S k l2 := by
  unfold mg3
  rw [sN_adS]
  simp only [sN_mg2]
  by_cases h1 : l2 = min (l + 1) 3
  · subst h1
    by_cases h3 : l = 3
    · subst h3
      simp
      split <;> omega
    · have h4 : min (l + 1) 3 = l + 1 := by omega
      rw [h4]
      have h5 : ¬ l + 1 = l := by omega
      simp [h3, h5]
      split <;> omega
  · simp [h1]
theorem mg_one {S : CS} {k l : Nat} (hl : l < 4) (h : oneB (sN S k) l) : oneB (sN (mgS S k l) k) (l + 1) := by
  intro l2 h2 hne
  have := sN_mg3_le S k l l2 hl
  rw [sN_mgS]
  have h3 := h l2 h2
  by_cases e : l2 = min (l + 1) 3
  · by_cases e3 : l = 3
    · subst e3
      simp [e] at this ⊢
      omega
    · omega
  · rw [if_neg e] at this
    by_cases e2 : l2 = l
    · rw [if_pos e2] at this
      omega
    · rw [if_neg e2] at this
      have := h3 e2
      omega
theorem st_one {S : CS} {k L : Nat} (h : oneB (sN S k) L) : ∀ m, m ≤ 4 → ∃ L2, m ≤ L2 ∧ oneB (sN (stS S k m) k) L2
  | 0, _ => ⟨L, Nat.zero_le _, h⟩
  | m + 1, hm => by
    obtain ⟨L2, h1, h2⟩ := st_one h m (by omega)
    unfold stS
    split
    · rename_i h3
      have e : L2 = m := by
        rcases Nat.lt_or_ge m L2 with q | q
        · have := h2 m (by omega) (by omega)
          omega
        · omega
      subst e
      exact ⟨L2 + 1, Nat.le_refl _, mg_one (by omega) h2⟩
    · rename_i h3
      by_cases e : L2 = m
      · subst e
        exact ⟨L2 + 1, Nat.le_refl _, fun l hl hne => by
          by_cases e2 : l = L2
          · subst e2; omega
          · exact h2 l hl e2⟩
      · exact ⟨L2, by omega, h2⟩
theorem st_two {S : CS} {k L : Nat} (h : oneB (sN S k) L) : ∀ l, l < 4 → sN (stS S k 4) k l ≤ 2 := by
  intro l hl
  obtain ⟨L2, h1, h2⟩ := st_one h 4 (Nat.le_refl _)
  exact h2 l hl (by omega)
theorem mg_pre {S : CS} {k l : Nat} (hl : l < 4) (h : oneB (sN S k) l) : sN (mg2 S k l) k (min (l + 1) 3) ≤ 2 := by
  rw [sN_mg2]
  by_cases e : l = 3
  · subst e
    simp
  · have := h (l + 1) (by omega) (by omega)
    rw [show min (l + 1) 3 = l + 1 by omega]
    simp
    omega
theorem min_lv {l : Nat} (hl : l < 4) : (if nI 3 < nI (l + 1) then nI 3 else nI (l + 1)) = nI (min (l + 1) 3) := by
  by_cases e : l = 3
  · subst e
    decide
  · rw [if_neg (nI_nlt (by omega) (by omega)), show min (l + 1) 3 = l + 1 by omega]
theorem stS_y {S : CS} {k m : Nat} (h : ¬ sN (stS S k m) k m < 3) : stS S k (m + 1) = mgS (stS S k m) k m := if_pos (by omega)
theorem stS_n {S : CS} {k m : Nat} (h : sN (stS S k m) k m < 3) : stS S k (m + 1) = stS S k m := if_neg (by omega)
theorem st_at {S : CS} {k L m : Nat} (h : oneB (sN S k) L) (hm : m < 4) (h3 : ¬ sN (stS S k m) k m < 3) : oneB (sN (stS S k m) k) m := by
  obtain ⟨L2, h1, h2⟩ := st_one h m (by omega)
  have e : L2 = m := by
    rcases Nat.lt_or_ge m L2 with q | q
    · have := h2 m hm (by omega)
      omega
    · omega
  subst e
  exact h2

set_option maxHeartbeats 4000000 in
set_option maxRecDepth 100000 in
theorem c_X0_gather (l : Launch) (G : hG) (A : Nat → Prop) (hp : HP) (ad : Nat → Nat) (S : CS) (hC : cW ad S hp) (k : Nat) (hk : k < 2) (lv : Nat) (hl4 : lv < 4) (b : Bool) (hA0 : hIn A hp) : hWr l yX0_gather wsX0_gather 2 47 0 0 G A hp [.ref (aB ad k), .int (nI lv), .int (bI (b))] (fun ro hp' => ro = none ∧ cT ad hp (gaS S k lv b) hp') := by
  refine Met.ofW (cc := cX0_gather) (maxL := 5) (ret := none) (by decide) rfl ?_
  intro p e s m args below meth c s₁ B hml hv
  obtain ⟨rfl, hV0, hK0, hA⟩ := hv
  have hx := B.exec
  have hb := B.bytes
  have hr := B.returns
  have hts := atoms_spec (ws := wsX0_gather) B.pre
  have hown : s.vm.findClass RX0 = some m.cls := findClass_of_methodNamed B.named
  have hlocks := B.notSynchronized
  have hF : CallFix p m c cX0_gather 5 s [.ref (aB ad k), .int (nI lv), .int (bI (b))].toArray wsX0_gather RX0 := ⟨hx, hb, hml, hown, hts⟩
  have hw0 := hts (.fieldLink RX0 22 "SlipLevels$Binder" "merged" "LSlipLevels$Slips;") (by decide +kernel)
  have hi0 : ∀ w ∈ u_ws RX0 TX0 5, w ∈ wsX0_gather := by
    intro w h
    unfold wsX0_gather
    simp only [List.mem_cons, List.mem_append, h, true_or, or_true]
  have hS : va_S A s.heap s.heap [] := va_S.rf
  have hl := lv_entry ([.ref (aB ad k), .int (nI lv), .int (bI (b))]) (n := 5) (Nat.le_of_ble_eq_true rfl)
  rw [lg_entry_eq]
  generalize (lg_sl ([.ref (aB ad k), .int (nI lv), .int (bI (b))]) ++ List.replicate (5 - (lg_sl ([.ref (aB ad k), .int (nI lv), .int (bI (b))])).length) Slot.unset).toArray = ls at hl ⊢
  replace hl : lv_has ls 5 [(0, .ref (aB ad k)), (1, .int (nI lv)), (2, .int (bI (b)))] := hl
  have hT := cT.rf hC
  have hn := hC.ok.2.1 k lv
  have hC0 := hC
  refine lv_aload_n hx hb dX0_gather_0 rfl (lv_at hl 0 rfl) ?_
  refine h_get (v := .ref (aS ad (13 + 13 * k))) hx hb hts hi0 hown hK0 hV0 (hC.bo hk) rfl 2 (by decide) hw0 rfl dX0_gather_1 ?_
  refine h_wrV (As := []) (rest := []) hF (c_X1_clear l G A _ (aS ad (13 + 13 * k)) (aW ad (13 + 13 * k)) (sF S (13 + 13 * k)) _ _ _ _ _ (hC.sl (by omega)).1 (hC.sl (by omega)).2 hA0) 0 gX0_gather_X1_clear rfl (by decide +kernel) ⟨Nat.le_of_ble_eq_true rfl, Nat.le_of_ble_eq_true rfl⟩ hK0 hV0 hA hS (hC.sl (by omega)).1 rfl rfl rfl hl.1 rfl (Nat.le_of_ble_eq_true rfl) ⟨Nat.le_of_ble_eq_true rfl, Nat.le_of_ble_eq_true rfl⟩ dX0_gather_4 (fun ro hp1 H locs hP1 hV0 hA0 hS => ?_)
  obtain ⟨rfl, rfl⟩ := hP1
  have hT := hT.setF (j := (13 + 13 * k)) (by omega) emR_ok
  have hC := hT.1
  refine lv_iconst (v := nI 0) hx hb dX0_gather_7 (by decide) ?_
  refine lv_istore_n (lv' := [(3, .int (nI 0)), (0, .ref (aB ad k)), (1, .int (nI lv)), (2, .int (bI (b)))]) hx hb dX0_gather_8 rfl hl (by decide) rfl (fun ls hl => ?_)
  rw [← gaP_0 (sN S k lv) (gC S k lv) b] at hT
  replace hl : lv_has ls 5 [(3, .int (nI 0)), (0, .ref (aB ad k)), (1, .int (nI lv)), (2, .int (bI (b)))] := lv_sub hl [0, 1, 2, 3] rfl
  refine h_loopW (G := G) (A := A) (H0 := s.heap) (Wf := fun i H locs ls => W p l e (headSpec wsX0_gather { frames := 2, cells := 0, slots := 0, locals := 47 }).room s m ([.ref (aB ad k), .int (nI lv), .int (bI (b))].toArray) below meth c H locs 0 0 (MQ below (hW G A (fun ro hp' => ro = none ∧ cT ad hp (gaS S k lv b) hp')) ([.ref (aB ad k), .int (nI lv), .int (bI (b))].toArray) s 0 0 A) (F0 m 9 ls [])) 64 (fun i => [(3, .int (nI i)), (0, .ref (aB ad k)), (1, .int (nI lv)), (2, .int (bI (b)))]) (fun i hp' => cT ad hp (uF S (13 + 13 * k) (gaP (sN S k lv) (gC S k lv) b i)) hp') (fun i hi9 hp' H locs hT hV0 hA0 hS ih9 ls hl => ?_) 0 (Nat.zero_le _) _ H locs hT hV0 hA0 hS ls hl
  have hC := hT.1
  have hg : gC (uF S (13 + 13 * k) (gaP (sN S k lv) (gC S k lv) b i)) k lv = gC S k lv := gC_uFm hn hl4
  refine lv_iload_n hx hb dX0_gather_9 rfl (lv_at hl 0 rfl) ?_
  refine lv_bipush (v := nI 64) hx hb dX0_gather_10 (by decide) ?_
  refine h_icmp_ge (a := i) (b := 64) (tgt := 56) hx hb dX0_gather_12 (by decide) (by omega) (by omega) (fun c_12 => ?_) (fun c_12 => ?_)
  · obtain rfl : i = 64 := by omega
    exact W.vret hx hb hr (h_qW ⟨rfl, hT⟩ hV0 hA0 hS) hS.2.2 dX0_gather_56 hlocks
  · refine lv_aload_n hx hb dX0_gather_15 rfl (lv_at hl 1 rfl) ?_
    refine lv_iload_n hx hb dX0_gather_16 rfl (lv_at hl 2 rfl) ?_
    refine lv_iload_n hx hb dX0_gather_17 rfl (lv_at hl 0 rfl) ?_
    refine h_rdV (As := [.int (nI lv), .int (nI i)]) (rest := []) hF (c_X0_firstWordIn l G _ ad (uF S (13 + 13 * k) (gaP (sN S k lv) (gC S k lv) b i)) hC k hk lv (by omega) i (by omega)) 2 gX0_gather_X0_firstWordIn rfl (by decide +kernel) ⟨Nat.le_of_ble_eq_true rfl, Nat.le_of_ble_eq_true rfl⟩ hK0 hV0 (hC.bo hk) rfl rfl rfl hl.1 rfl (Nat.le_of_ble_eq_true rfl) (Nat.le_of_ble_eq_true rfl) (Nat.le_of_ble_eq_true rfl) dX0_gather_18 ?_
    rw [hg]
    refine lv_istore (lv' := [(4, .int (fsL (gC S k lv) i (sN S k lv) 0)), (3, .int (nI i)), (0, .ref (aB ad k)), (1, .int (nI lv)), (2, .int (bI (b)))]) hx hb dX0_gather_21 hl (by decide) rfl (fun ls hl => ?_)
    refine lv_iload hx hb dX0_gather_23 (lv_at hl 0 rfl) ?_
    refine lv_bipush (v := (-2)) hx hb dX0_gather_25 (by decide) ?_
    refine lv_icmp_eq (tgt := 50) hx hb dX0_gather_27 (by decide) (fun c_27 => ?_) (fun c_27 => ?_)
    · refine lv_iinc (v := nI (i + 1)) (lv' := [(3, .int (nI (i + 1))), (4, .int (fsL (gC S k lv) i (sN S k lv) 0)), (0, .ref (aB ad k)), (1, .int (nI lv)), (2, .int (bI (b)))]) hx hb dX0_gather_50 hl (k := 1) rfl (nI_add (i) 1) (by decide) rfl (fun ls hl => ?_)
      refine lv_goto (tgt := 9) hx hb dX0_gather_53 (by decide) ?_
      rw [gaP_skip (gaW_n c_27)] at hT
      exact ih9 _ H locs (by omega) hT hV0 hA0 hS ls (lv_sub hl [0, 2, 3, 4] rfl)
    · refine lv_iload_n hx hb dX0_gather_30 rfl (lv_at hl 4 rfl) ?_
      refine h_if_eqB (tgt := 40) hx hb dX0_gather_31 (by decide) (fun c_31 => ?_) (fun c_31 => ?_)
      · refine lv_aload_n hx hb dX0_gather_40 rfl (lv_at hl 2 rfl) ?_
        refine h_get (v := .ref (aS ad (13 + 13 * k))) hx hb hts hi0 hown hK0 hV0 (hC.bo hk) rfl 2 (by decide) hw0 rfl dX0_gather_41 ?_
        refine lv_iload_n hx hb dX0_gather_44 rfl (lv_at hl 1 rfl) ?_
        refine lv_iload hx hb dX0_gather_45 (lv_at hl 0 rfl) ?_
        refine h_wrV (As := [.int (nI i), .int (fsL (gC S k lv) i (sN S k lv) 0)]) (rest := []) hF (c_X1_put l G A _ (aS ad (13 + 13 * k)) (aW ad (13 + 13 * k)) (sF (uF S (13 + 13 * k) (gaP (sN S k lv) (gC S k lv) b i)) (13 + 13 * k)) (hC.sl (by omega)) i ((fsL (gC S k lv) i (sN S k lv) 0)) (by omega) c_27 hA0) 2 gX0_gather_X1_put rfl (by decide +kernel) ⟨Nat.le_of_ble_eq_true rfl, Nat.le_of_ble_eq_true rfl⟩ hK0 hV0 hA hS (hC.sl (by omega)).1 rfl rfl rfl hl.1 rfl (Nat.le_of_ble_eq_true rfl) ⟨Nat.le_of_ble_eq_true rfl, Nat.le_of_ble_eq_true rfl⟩ dX0_gather_47 (fun ro hp1 H locs hP1 hV0 hA0 hS => ?_)
        obtain ⟨rfl, rfl⟩ := hP1
        have hT := hT.setF (j := (13 + 13 * k)) (by omega) (f := upd (sF (uF S (13 + 13 * k) (gaP (sN S k lv) (gC S k lv) b i)) (13 + 13 * k)) i ((fsL (gC S k lv) i (sN S k lv) 0))) (by rw [sF_uF]; first | (rw [gaP_put (gaW_f c_31)]; exact gaP_ok (gC_ok hC0.ok k lv) _ _) | (rw [gaP_put (gaW_w c_37)]; exact gaP_ok (gC_ok hC0.ok k lv) _ _))
        have hC := hT.1
        refine lv_iinc (v := nI (i + 1)) (lv' := [(3, .int (nI (i + 1))), (4, .int (fsL (gC S k lv) i (sN S k lv) 0)), (0, .ref (aB ad k)), (1, .int (nI lv)), (2, .int (bI (b)))]) hx hb dX0_gather_50 hl (k := 1) rfl (nI_add (i) 1) (by decide) rfl (fun ls hl => ?_)
        refine lv_goto (tgt := 9) hx hb dX0_gather_53 (by decide) ?_
        have hSe : uF (uF S (13 + 13 * k) (gaP (sN S k lv) (gC S k lv) b i)) (13 + 13 * k) (upd (sF (uF S (13 + 13 * k) (gaP (sN S k lv) (gC S k lv) b i)) (13 + 13 * k)) i ((fsL (gC S k lv) i (sN S k lv) 0))) = uF S (13 + 13 * k) (gaP (sN S k lv) (gC S k lv) b (i + 1)) := by rw [uF_uF, sF_uF, gaP_put (gaW_f c_31)]
        rw [hSe] at hT
        exact ih9 _ H locs (by omega) hT hV0 hA0 hS ls (lv_sub hl [0, 2, 3, 4] rfl)
      · refine lv_iload hx hb dX0_gather_34 (lv_at hl 0 rfl) ?_
        refine lv_iconst (v := (-1)) hx hb dX0_gather_36 (by decide) ?_
        refine lv_icmp_eq (tgt := 50) hx hb dX0_gather_37 (by decide) (fun c_37 => ?_) (fun c_37 => ?_)
        · refine lv_iinc (v := nI (i + 1)) (lv' := [(3, .int (nI (i + 1))), (4, .int (fsL (gC S k lv) i (sN S k lv) 0)), (0, .ref (aB ad k)), (1, .int (nI lv)), (2, .int (bI (b)))]) hx hb dX0_gather_50 hl (k := 1) rfl (nI_add (i) 1) (by decide) rfl (fun ls hl => ?_)
          refine lv_goto (tgt := 9) hx hb dX0_gather_53 (by decide) ?_
          rw [gaP_skip (gaW_t c_31 c_37)] at hT
          exact ih9 _ H locs (by omega) hT hV0 hA0 hS ls (lv_sub hl [0, 2, 3, 4] rfl)
        · refine lv_aload_n hx hb dX0_gather_40 rfl (lv_at hl 2 rfl) ?_
          refine h_get (v := .ref (aS ad (13 + 13 * k))) hx hb hts hi0 hown hK0 hV0 (hC.bo hk) rfl 2 (by decide) hw0 rfl dX0_gather_41 ?_
          refine lv_iload_n hx hb dX0_gather_44 rfl (lv_at hl 1 rfl) ?_
          refine lv_iload hx hb dX0_gather_45 (lv_at hl 0 rfl) ?_
          refine h_wrV (As := [.int (nI i), .int (fsL (gC S k lv) i (sN S k lv) 0)]) (rest := []) hF (c_X1_put l G A _ (aS ad (13 + 13 * k)) (aW ad (13 + 13 * k)) (sF (uF S (13 + 13 * k) (gaP (sN S k lv) (gC S k lv) b i)) (13 + 13 * k)) (hC.sl (by omega)) i ((fsL (gC S k lv) i (sN S k lv) 0)) (by omega) c_27 hA0) 2 gX0_gather_X1_put rfl (by decide +kernel) ⟨Nat.le_of_ble_eq_true rfl, Nat.le_of_ble_eq_true rfl⟩ hK0 hV0 hA hS (hC.sl (by omega)).1 rfl rfl rfl hl.1 rfl (Nat.le_of_ble_eq_true rfl) ⟨Nat.le_of_ble_eq_true rfl, Nat.le_of_ble_eq_true rfl⟩ dX0_gather_47 (fun ro hp1 H locs hP1 hV0 hA0 hS => ?_)
          obtain ⟨rfl, rfl⟩ := hP1
          have hT := hT.setF (j := (13 + 13 * k)) (by omega) (f := upd (sF (uF S (13 + 13 * k) (gaP (sN S k lv) (gC S k lv) b i)) (13 + 13 * k)) i ((fsL (gC S k lv) i (sN S k lv) 0))) (by rw [sF_uF]; first | (rw [gaP_put (gaW_f c_31)]; exact gaP_ok (gC_ok hC0.ok k lv) _ _) | (rw [gaP_put (gaW_w c_37)]; exact gaP_ok (gC_ok hC0.ok k lv) _ _))
          have hC := hT.1
          refine lv_iinc (v := nI (i + 1)) (lv' := [(3, .int (nI (i + 1))), (4, .int (fsL (gC S k lv) i (sN S k lv) 0)), (0, .ref (aB ad k)), (1, .int (nI lv)), (2, .int (bI (b)))]) hx hb dX0_gather_50 hl (k := 1) rfl (nI_add (i) 1) (by decide) rfl (fun ls hl => ?_)
          refine lv_goto (tgt := 9) hx hb dX0_gather_53 (by decide) ?_
          have hSe : uF (uF S (13 + 13 * k) (gaP (sN S k lv) (gC S k lv) b i)) (13 + 13 * k) (upd (sF (uF S (13 + 13 * k) (gaP (sN S k lv) (gC S k lv) b i)) (13 + 13 * k)) i ((fsL (gC S k lv) i (sN S k lv) 0))) = uF S (13 + 13 * k) (gaP (sN S k lv) (gC S k lv) b (i + 1)) := by rw [uF_uF, sF_uF, gaP_put (gaW_w c_37)]
          rw [hSe] at hT
          exact ih9 _ H locs (by omega) hT hV0 hA0 hS ls (lv_sub hl [0, 2, 3, 4] rfl)

set_option maxHeartbeats 4000000 in
set_option maxRecDepth 100000 in
theorem c_X0_addRun (l : Launch) (G : hG) (A : Nat → Prop) (hp : HP) (ad : Nat → Nat) (S : CS) (hC : cW ad S hp) (k : Nat) (hk : k < 2) (lv : Nat) (hl4 : lv < 4) (j : Nat) (hj : j < 27) (hn2 : sN S k lv ≤ 2) (hjr : 1 + 13 * k + (3 * lv + sN S k lv) ≠ j) (hA0 : hIn A hp) : hWr l yX0_addRun wsX0_addRun 2 42 0 0 G A hp [.ref (aB ad k), .int (nI lv), .ref (aS ad j)] (fun ro hp' => ro = none ∧ cT ad hp (adS S k lv j) hp') := by
  refine Met.ofW (cc := cX0_addRun) (maxL := 4) (ret := none) (by decide) rfl ?_
  intro p e s m args below meth c s₁ B hml hv
  obtain ⟨rfl, hV0, hK0, hA⟩ := hv
  have hx := B.exec
  have hb := B.bytes
  have hr := B.returns
  have hts := atoms_spec (ws := wsX0_addRun) B.pre
  have hown : s.vm.findClass RX0 = some m.cls := findClass_of_methodNamed B.named
  have hlocks := B.notSynchronized
  have hF : CallFix p m c cX0_addRun 4 s [.ref (aB ad k), .int (nI lv), .ref (aS ad j)].toArray wsX0_addRun RX0 := ⟨hx, hb, hml, hown, hts⟩
  have hw0 := hts (.fieldLink RX0 17 "SlipLevels$Binder" "runs" "[I") (by decide +kernel)
  have hw1 := hts (.fieldLink RX0 26 "SlipLevels$Binder" "moves" "I") (by decide +kernel)
  have hi0 : ∀ w ∈ u_ws RX0 TX0 5, w ∈ wsX0_addRun := by
    intro w h
    unfold wsX0_addRun
    simp only [List.mem_cons, List.mem_append, h, true_or, or_true]
  have hS : va_S A s.heap s.heap [] := va_S.rf
  have hl := lv_entry ([.ref (aB ad k), .int (nI lv), .ref (aS ad j)]) (n := 4) (Nat.le_of_ble_eq_true rfl)
  rw [lg_entry_eq]
  generalize (lg_sl ([.ref (aB ad k), .int (nI lv), .ref (aS ad j)]) ++ List.replicate (4 - (lg_sl ([.ref (aB ad k), .int (nI lv), .ref (aS ad j)])).length) Slot.unset).toArray = ls at hl ⊢
  replace hl : lv_has ls 4 [(0, .ref (aB ad k)), (1, .int (nI lv)), (2, .ref (aS ad j))] := hl
  have hT := cT.rf hC
  refine lv_aload_n hx hb dX0_addRun_0 rfl (lv_at hl 0 rfl) ?_
  refine lv_iload_n hx hb dX0_addRun_1 rfl (lv_at hl 1 rfl) ?_
  refine lv_aload_n hx hb dX0_addRun_2 rfl (lv_at hl 0 rfl) ?_
  refine lv_iload_n hx hb dX0_addRun_3 rfl (lv_at hl 1 rfl) ?_
  refine h_rdV (As := [.int (nI lv)]) (rest := [.int (nI lv), .ref (aB ad k)]) hF (c_X0_runsOf l G _ ad S hC k hk lv (by omega)) 1 gX0_addRun_X0_runsOf rfl (by decide +kernel) ⟨Nat.le_of_ble_eq_true rfl, Nat.le_of_ble_eq_true rfl⟩ hK0 hV0 (hC.bo hk) rfl rfl rfl hl.1 rfl (Nat.le_of_ble_eq_true rfl) (Nat.le_of_ble_eq_true rfl) (Nat.le_of_ble_eq_true rfl) dX0_addRun_4 ?_
  refine h_rdV (As := [.int (nI lv), .int (nI (sN S k lv))]) (rest := []) hF (c_X0_rowAt l G _ ad S hC k hk lv (sN S k lv) (by omega) (by omega)) 2 gX0_addRun_X0_rowAt rfl (by decide +kernel) ⟨Nat.le_of_ble_eq_true rfl, Nat.le_of_ble_eq_true rfl⟩ hK0 hV0 (hC.bo hk) rfl rfl rfl hl.1 rfl (Nat.le_of_ble_eq_true rfl) (Nat.le_of_ble_eq_true rfl) (Nat.le_of_ble_eq_true rfl) dX0_addRun_7 ?_
  refine lv_astore_n (lv' := [(3, .ref (aS ad (1 + 13 * k + (3 * lv + (sN S k lv))))), (0, .ref (aB ad k)), (1, .int (nI lv)), (2, .ref (aS ad j))]) hx hb dX0_addRun_10 rfl hl (by decide) rfl (fun ls hl => ?_)
  refine lv_aload_n hx hb dX0_addRun_11 rfl (lv_at hl 0 rfl) ?_
  refine lv_ifnull hx hb dX0_addRun_12 ?_
  refine lv_aload_n hx hb dX0_addRun_15 rfl (lv_at hl 3 rfl) ?_
  refine lv_ifnull hx hb dX0_addRun_16 ?_
  refine lv_aload_n hx hb dX0_addRun_19 rfl (lv_at hl 3 rfl) ?_
  refine h_rdV (As := []) (rest := []) hF (c_X1_size l G _ (aS ad j) (aW ad j) (sF S j) (hC.sl (by omega))) 0 gX0_addRun_X1_size rfl (by decide +kernel) ⟨Nat.le_of_ble_eq_true rfl, Nat.le_of_ble_eq_true rfl⟩ hK0 hV0 (hC.sl (by omega)).1 rfl rfl rfl hl.1 rfl (Nat.le_of_ble_eq_true rfl) (Nat.le_of_ble_eq_true rfl) (Nat.le_of_ble_eq_true rfl) dX0_addRun_20 ?_
  have hzz := szR_le (sF S j)
  refine h_if_ne (a := szR (sF S j)) (tgt := 27) hx hb dX0_addRun_23 (by decide) (by omega) (fun c_23 => ?_) (fun c_23 => ?_)
  · refine lv_aload_n hx hb dX0_addRun_27 rfl (lv_at hl 0 rfl) ?_
    refine lv_aload_n hx hb dX0_addRun_28 rfl (lv_at hl 3 rfl) ?_
    refine h_wrV (As := [.ref (aS ad j)]) (rest := []) hF (c_X1_copy l G A _ (aS ad (1 + 13 * k + (3 * lv + (sN S k lv)))) (aW ad (1 + 13 * k + (3 * lv + (sN S k lv)))) (aS ad j) (aW ad j) (sF S (1 + 13 * k + (3 * lv + (sN S k lv)))) (sF S j) (hC.sl (by omega)) (hC.sl (by omega)) (hC.ne (by omega) (by omega) hjr).1 (hC.ne (by omega) (by omega) hjr).2 (hC.ok.1 _).1 (hC.ok.1 _).1 hA0) 1 gX0_addRun_X1_copy rfl (by decide +kernel) ⟨Nat.le_of_ble_eq_true rfl, Nat.le_of_ble_eq_true rfl⟩ hK0 hV0 hA hS (hC.sl (by omega)).1 rfl rfl rfl hl.1 rfl (Nat.le_of_ble_eq_true rfl) ⟨Nat.le_of_ble_eq_true rfl, Nat.le_of_ble_eq_true rfl⟩ dX0_addRun_29 (fun ro hp1 H locs hP1 hV0 hA0 hS => ?_)
    obtain ⟨rfl, rfl⟩ := hP1
    have hT := hT.setF (j := (1 + 13 * k + (3 * lv + (sN S k lv)))) (by omega) (hC.ok.1 j)
    have hC := hT.1
    refine lv_aload_n hx hb dX0_addRun_32 rfl (lv_at hl 1 rfl) ?_
    refine h_get (v := .ref (aN ad k)) hx hb hts hi0 hown hK0 hV0 (hC.bo hk) rfl 1 (by decide) hw0 rfl dX0_addRun_33 ?_
    refine lv_iload_n hx hb dX0_addRun_36 rfl (lv_at hl 2 rfl) ?_
    refine lv_dup2_11 hx hb dX0_addRun_37 rfl rfl ?_
    refine h_iald (i := lv) hx hb hK0 hV0 (hC.bn hk) (by omega) (by omega) dX0_addRun_38 ?_
    refine lv_iconst (v := nI 1) hx hb dX0_addRun_39 (by decide) ?_
    refine h_iaddN hx hb dX0_addRun_40 ?_
    refine h_iast (i := lv) (x := nI (sN (uF S (1 + 13 * k + (3 * lv + (sN S k lv))) (sF S j)) k lv + 1)) hx hb hK0 hV0 hA0 hS (hC.bn hk) (by omega) (by omega) dX0_addRun_41 (fun H locs hV0 hA0 hS => ?_)
    have hT := hT.setN (k := k) hk (l := lv) (v := sN (uF S (1 + 13 * k + (3 * lv + (sN S k lv))) (sF S j)) k lv + 1) (by omega) (show sN S k lv + 1 ≤ 3 by omega)
    have hC := hT.1
    refine lv_aload_n hx hb dX0_addRun_42 rfl (lv_at hl 1 rfl) ?_
    refine lv_dup hx hb dX0_addRun_43 rfl ?_
    refine h_get (v := .int (sV (uN (uF S (1 + 13 * k + (3 * lv + (sN S k lv))) (sF S j)) k lv (sN (uF S (1 + 13 * k + (3 * lv + (sN S k lv))) (sF S j)) k lv + 1)) k)) hx hb hts hi0 hown hK0 hV0 (hC.bo hk) rfl 3 (by decide) hw1 rfl dX0_addRun_44 ?_
    refine lv_aload_n hx hb dX0_addRun_47 rfl (lv_at hl 3 rfl) ?_
    have hz2 : szR (sF (uN (uF S (1 + 13 * k + (3 * lv + (sN S k lv))) (sF S j)) k lv (sN (uF S (1 + 13 * k + (3 * lv + (sN S k lv))) (sF S j)) k lv + 1)) j) = szR (sF S j) := by rw [show sF (uN (uF S (1 + 13 * k + (3 * lv + (sN S k lv))) (sF S j)) k lv (sN (uF S (1 + 13 * k + (3 * lv + (sN S k lv))) (sF S j)) k lv + 1)) j = sF S j from sF_uFn S _ (Ne.symm hjr)]
    refine h_rdV (As := []) (rest := [.int (sV (uN (uF S (1 + 13 * k + (3 * lv + (sN S k lv))) (sF S j)) k lv (sN (uF S (1 + 13 * k + (3 * lv + (sN S k lv))) (sF S j)) k lv + 1)) k), .ref (aB ad k)]) hF (c_X1_size l G _ (aS ad j) (aW ad j) (sF (uN (uF S (1 + 13 * k + (3 * lv + (sN S k lv))) (sF S j)) k lv (sN (uF S (1 + 13 * k + (3 * lv + (sN S k lv))) (sF S j)) k lv + 1)) j) (hC.sl (by omega))) 0 gX0_addRun_X1_size rfl (by decide +kernel) ⟨Nat.le_of_ble_eq_true rfl, Nat.le_of_ble_eq_true rfl⟩ hK0 hV0 (hC.sl (by omega)).1 rfl rfl rfl hl.1 rfl (Nat.le_of_ble_eq_true rfl) (Nat.le_of_ble_eq_true rfl) (Nat.le_of_ble_eq_true rfl) dX0_addRun_48 ?_
    rw [hz2]
    refine lv_iadd hx hb dX0_addRun_51 ?_
    refine h_put (v := .int ((sV (uN (uF S (1 + 13 * k + (3 * lv + (sN S k lv))) (sF S j)) k lv (sN (uF S (1 + 13 * k + (3 * lv + (sN S k lv))) (sF S j)) k lv + 1)) k) + nI (szR (sF S j)))) hx hb hts hi0 tyX0 tyX0_ok nmX0 hown hK0 hV0 hA0 hS (hC.bo hk) rfl 3 (by decide) hw1 rfl (by rfl) (by rfl) (Nat.le_of_ble_eq_true rfl) dX0_addRun_52 (fun H locs hV0 hA0 hS => ?_)
    have hT := hT.setV (k := k) hk (((sV (uN (uF S (1 + 13 * k + (3 * lv + (sN S k lv))) (sF S j)) k lv (sN (uF S (1 + 13 * k + (3 * lv + (sN S k lv))) (sF S j)) k lv + 1)) k) + nI (szR (sF S j))))
    have hC := hT.1
    exact W.vret hx hb hr (h_qW ⟨rfl, by rw [adS_1 c_23]; exact hT⟩ hV0 hA0 hS) hS.2.2 dX0_addRun_55 hlocks
  · exact W.vret hx hb hr (h_qW ⟨rfl, by rw [adS_0 c_23]; exact hT⟩ hV0 hA0 hS) hS.2.2 dX0_addRun_26 hlocks

set_option maxHeartbeats 4000000 in
set_option maxRecDepth 100000 in
theorem c_X0_mergeLevel (l : Launch) (G : hG) (A : Nat → Prop) (hp : HP) (ad : Nat → Nat) (S : CS) (hC : cW ad S hp) (k : Nat) (hk : k < 2) (lv : Nat) (hl4 : lv < 4) (h1 : oneB (sN S k) lv) (hA0 : hIn A hp) : hWr l yX0_mergeLevel wsX0_mergeLevel 3 71 0 0 G A hp [.ref (aB ad k), .int (nI lv)] (fun ro hp' => ro = none ∧ cT ad hp (mgS S k lv) hp') := by
  refine Met.ofW (cc := cX0_mergeLevel) (maxL := 2) (ret := none) (by decide) rfl ?_
  intro p e s m args below meth c s₁ B hml hv
  obtain ⟨rfl, hV0, hK0, hA⟩ := hv
  have hx := B.exec
  have hb := B.bytes
  have hr := B.returns
  have hts := atoms_spec (ws := wsX0_mergeLevel) B.pre
  have hown : s.vm.findClass RX0 = some m.cls := findClass_of_methodNamed B.named
  have hlocks := B.notSynchronized
  have hF : CallFix p m c cX0_mergeLevel 2 s [.ref (aB ad k), .int (nI lv)].toArray wsX0_mergeLevel RX0 := ⟨hx, hb, hml, hown, hts⟩
  have hw0 := hts (.fieldLink RX0 17 "SlipLevels$Binder" "runs" "[I") (by decide +kernel)
  have hw1 := hts (.methodLink RX0 76 Lib.Math.min.name) (by decide +kernel)
  have hw2 := hts (.static Lib.Math.min.name) (by decide +kernel)
  have hw3 := hts (.initialized "java/lang/Math") (by decide +kernel)
  have hw4 := hts (.code Lib.Math.min.name Lib.Math.min.code 2 (some .int)) (by decide +kernel)
  have hw5 := hts (.fieldLink RX0 22 "SlipLevels$Binder" "merged" "LSlipLevels$Slips;") (by decide +kernel)
  have hw6 := hts (.fieldLink RX0 30 "SlipLevels$Binder" "mergings" "I") (by decide +kernel)
  have hi0 : ∀ w ∈ u_ws RX0 TX0 5, w ∈ wsX0_mergeLevel := by
    intro w h
    unfold wsX0_mergeLevel
    simp only [List.mem_cons, List.mem_append, h, true_or, or_true]
  have hS : va_S A s.heap s.heap [] := va_S.rf
  have hl := lv_entry ([.ref (aB ad k), .int (nI lv)]) (n := 2) (Nat.le_of_ble_eq_true rfl)
  rw [lg_entry_eq]
  generalize (lg_sl ([.ref (aB ad k), .int (nI lv)]) ++ List.replicate (2 - (lg_sl ([.ref (aB ad k), .int (nI lv)])).length) Slot.unset).toArray = ls at hl ⊢
  replace hl : lv_has ls 2 [(0, .ref (aB ad k)), (1, .int (nI lv))] := hl
  have hT := cT.rf hC
  have hmp := mg_pre hl4 h1
  refine lv_iload_n hx hb dX0_mergeLevel_0 rfl (lv_at hl 1 rfl) ?_
  refine h_if_lt (a := lv) (tgt := 9) hx hb dX0_mergeLevel_1 (by decide) (by omega) ?_
  refine lv_iload_n hx hb dX0_mergeLevel_4 rfl (lv_at hl 1 rfl) ?_
  refine lv_iconst (v := nI 4) hx hb dX0_mergeLevel_5 (by decide) ?_
  refine h_icmp_lt (a := lv) (b := 4) (tgt := 10) hx hb dX0_mergeLevel_6 (by decide) (by omega) (by omega) (fun c_6 => ?_) (fun c_6 => absurd hl4 c_6)
  refine lv_aload_n hx hb dX0_mergeLevel_10 rfl (lv_at hl 0 rfl) ?_
  refine lv_iload_n hx hb dX0_mergeLevel_11 rfl (lv_at hl 1 rfl) ?_
  refine lv_aload_n hx hb dX0_mergeLevel_12 rfl (lv_at hl 0 rfl) ?_
  refine lv_iload_n hx hb dX0_mergeLevel_13 rfl (lv_at hl 1 rfl) ?_
  refine h_rdV (As := [.int (nI lv)]) (rest := [.int (nI lv), .ref (aB ad k)]) hF (c_X0_nothingBehind l G _ ad S hC k hk lv (by omega)) 1 gX0_mergeLevel_X0_nothingBehind rfl (by decide +kernel) ⟨Nat.le_of_ble_eq_true rfl, Nat.le_of_ble_eq_true rfl⟩ hK0 hV0 (hC.bo hk) rfl rfl rfl hl.1 rfl (Nat.le_of_ble_eq_true rfl) (Nat.le_of_ble_eq_true rfl) (Nat.le_of_ble_eq_true rfl) dX0_mergeLevel_14 ?_
  refine h_wrV (As := [.int (nI lv), .int (bI (nbA (sN S k) lv))]) (rest := []) hF (c_X0_gather l G A _ ad S hC k hk lv (by omega) (nbA (sN S k) lv) hA0) 2 gX0_mergeLevel_X0_gather rfl (by decide +kernel) ⟨Nat.le_of_ble_eq_true rfl, Nat.le_of_ble_eq_true rfl⟩ hK0 hV0 hA hS (hC.bo hk) rfl rfl rfl hl.1 rfl (Nat.le_of_ble_eq_true rfl) ⟨Nat.le_of_ble_eq_true rfl, Nat.le_of_ble_eq_true rfl⟩ dX0_mergeLevel_17 (fun ro hp1 H locs hP1 hV0 hA0 hS => ?_)
  obtain ⟨rfl, hT1⟩ := hP1
  have hT := hT.tr hT1
  have hC := hT.1
  refine lv_aload_n hx hb dX0_mergeLevel_20 rfl (lv_at hl 0 rfl) ?_
  refine h_get (v := .ref (aN ad k)) hx hb hts hi0 hown hK0 hV0 (hC.bo hk) rfl 1 (by decide) hw0 rfl dX0_mergeLevel_21 ?_
  refine lv_iload_n hx hb dX0_mergeLevel_24 rfl (lv_at hl 1 rfl) ?_
  refine lv_iconst (v := nI 0) hx hb dX0_mergeLevel_25 (by decide) ?_
  refine h_iast (i := lv) (x := nI 0) hx hb hK0 hV0 hA0 hS (hC.bn hk) (by omega) (by omega) dX0_mergeLevel_26 (fun H locs hV0 hA0 hS => ?_)
  have hT := hT.setN (k := k) hk (l := lv) (v := 0) (by omega) (by omega)
  have hC := hT.1
  have hT : cT ad hp (mg2 S k lv) _ := hT
  have hC := hT.1
  have hmin := Nat.min_le_right (lv + 1) 3
  refine lv_aload_n hx hb dX0_mergeLevel_27 rfl (lv_at hl 0 rfl) ?_
  refine lv_iload_n hx hb dX0_mergeLevel_28 rfl (lv_at hl 1 rfl) ?_
  refine lv_iconst (v := nI 1) hx hb dX0_mergeLevel_29 (by decide) ?_
  refine h_iaddN hx hb dX0_mergeLevel_30 ?_
  refine lv_iconst (v := nI 3) hx hb dX0_mergeLevel_31 (by decide) ?_
  refine va_mmin hx hb (hml.trans hl.1.symm) hown hw1 hw2 hw3 hw4 (Nat.le_of_ble_eq_true rfl) (Nat.le_of_ble_eq_true rfl) (Nat.le_of_ble_eq_true rfl) (Nat.le_of_ble_eq_true rfl) dX0_mergeLevel_32 ?_
  rw [min_lv hl4]
  refine lv_aload_n hx hb dX0_mergeLevel_35 rfl (lv_at hl 0 rfl) ?_
  refine h_get (v := .ref (aS ad (13 + 13 * k))) hx hb hts hi0 hown hK0 hV0 (hC.bo hk) rfl 2 (by decide) hw5 rfl dX0_mergeLevel_36 ?_
  refine h_wrV (As := [.int (nI (min (lv + 1) 3)), .ref (aS ad (13 + 13 * k))]) (rest := []) hF (c_X0_addRun l G A _ ad (mg2 S k lv) hC k hk (min (lv + 1) 3) (by omega) (13 + 13 * k) (by omega) hmp (by omega) hA0) 2 gX0_mergeLevel_X0_addRun rfl (by decide +kernel) ⟨Nat.le_of_ble_eq_true rfl, Nat.le_of_ble_eq_true rfl⟩ hK0 hV0 hA hS (hC.bo hk) rfl rfl rfl hl.1 rfl (Nat.le_of_ble_eq_true rfl) ⟨Nat.le_of_ble_eq_true rfl, Nat.le_of_ble_eq_true rfl⟩ dX0_mergeLevel_39 (fun ro hp1 H locs hP1 hV0 hA0 hS => ?_)
  obtain ⟨rfl, hT1⟩ := hP1
  have hT := hT.tr hT1
  have hC := hT.1
  have hT : cT ad hp (mg3 S k lv) _ := hT
  have hC := hT.1
  refine lv_aload_n hx hb dX0_mergeLevel_42 rfl (lv_at hl 0 rfl) ?_
  refine lv_dup hx hb dX0_mergeLevel_43 rfl ?_
  refine h_get (v := .int (sG (mg3 S k lv) k)) hx hb hts hi0 hown hK0 hV0 (hC.bo hk) rfl 4 (by decide) hw6 rfl dX0_mergeLevel_44 ?_
  refine lv_iconst (v := nI 1) hx hb dX0_mergeLevel_47 (by decide) ?_
  refine lv_iadd hx hb dX0_mergeLevel_48 ?_
  refine h_put (v := .int ((sG (mg3 S k lv) k) + nI 1)) hx hb hts hi0 tyX0 tyX0_ok nmX0 hown hK0 hV0 hA0 hS (hC.bo hk) rfl 4 (by decide) hw6 rfl (by rfl) (by rfl) (Nat.le_of_ble_eq_true rfl) dX0_mergeLevel_49 (fun H locs hV0 hA0 hS => ?_)
  have hT := hT.setG (k := k) hk (((sG (mg3 S k lv) k) + nI 1))
  have hC := hT.1
  exact W.vret hx hb hr (h_qW ⟨rfl, hT⟩ hV0 hA0 hS) hS.2.2 dX0_mergeLevel_52 hlocks

set_option maxHeartbeats 4000000 in
set_option maxRecDepth 100000 in
theorem c_X0_settle (l : Launch) (G : hG) (A : Nat → Prop) (hp : HP) (ad : Nat → Nat) (S : CS) (hC : cW ad S hp) (k : Nat) (hk : k < 2) (L : Nat) (h1 : oneB (sN S k) L) (hA0 : hIn A hp) : hWr l yX0_settle wsX0_settle 4 92 0 0 G A hp [.ref (aB ad k)] (fun ro hp' => ro = none ∧ cT ad hp (stS S k 4) hp') := by
  refine Met.ofW (cc := cX0_settle) (maxL := 2) (ret := none) (by decide) rfl ?_
  intro p e s m args below meth c s₁ B hml hv
  obtain ⟨rfl, hV0, hK0, hA⟩ := hv
  have hx := B.exec
  have hb := B.bytes
  have hr := B.returns
  have hts := atoms_spec (ws := wsX0_settle) B.pre
  have hown : s.vm.findClass RX0 = some m.cls := findClass_of_methodNamed B.named
  have hlocks := B.notSynchronized
  have hF : CallFix p m c cX0_settle 2 s [.ref (aB ad k)].toArray wsX0_settle RX0 := ⟨hx, hb, hml, hown, hts⟩
  have hS : va_S A s.heap s.heap [] := va_S.rf
  have hl := lv_entry ([.ref (aB ad k)]) (n := 2) (Nat.le_of_ble_eq_true rfl)
  rw [lg_entry_eq]
  generalize (lg_sl ([.ref (aB ad k)]) ++ List.replicate (2 - (lg_sl ([.ref (aB ad k)])).length) Slot.unset).toArray = ls at hl ⊢
  replace hl : lv_has ls 2 [(0, .ref (aB ad k))] := hl
  have hT := cT.rf hC
  refine lv_iconst (v := nI 0) hx hb dX0_settle_0 (by decide) ?_
  refine lv_istore_n (lv' := [(1, .int (nI 0)), (0, .ref (aB ad k))]) hx hb dX0_settle_1 rfl hl (by decide) rfl (fun ls hl => ?_)
  replace hl : lv_has ls 2 [(1, .int (nI 0)), (0, .ref (aB ad k))] := lv_sub hl [0, 1] rfl
  refine h_loopW (G := G) (A := A) (H0 := s.heap) (Wf := fun i H locs ls => W p l e (headSpec wsX0_settle { frames := 4, cells := 0, slots := 0, locals := 92 }).room s m ([.ref (aB ad k)].toArray) below meth c H locs 0 0 (MQ below (hW G A (fun ro hp' => ro = none ∧ cT ad hp (stS S k 4) hp')) ([.ref (aB ad k)].toArray) s 0 0 A) (F0 m 2 ls [])) 4 (fun i => [(1, .int (nI i)), (0, .ref (aB ad k))]) (fun i hp' => cT ad hp (stS S k i) hp') (fun i hi2 hp' H locs hT hV0 hA0 hS ih2 ls hl => ?_) 0 (Nat.zero_le _) hp s.heap [] hT hV0 hA0 hS ls hl
  have hC := hT.1
  have hn := hC.ok.2.1 k i
  refine lv_iload_n hx hb dX0_settle_2 rfl (lv_at hl 0 rfl) ?_
  refine lv_iconst (v := nI 4) hx hb dX0_settle_3 (by decide) ?_
  refine h_icmp_ge (a := i) (b := 4) (tgt := 27) hx hb dX0_settle_4 (by decide) (by omega) (by omega) (fun c_4 => ?_) (fun c_4 => ?_)
  · obtain rfl : i = 4 := by omega
    exact W.vret hx hb hr (h_qW ⟨rfl, hT⟩ hV0 hA0 hS) hS.2.2 dX0_settle_27 hlocks
  · refine lv_aload_n hx hb dX0_settle_7 rfl (lv_at hl 1 rfl) ?_
    refine lv_iload_n hx hb dX0_settle_8 rfl (lv_at hl 0 rfl) ?_
    refine h_rdV (As := [.int (nI i)]) (rest := []) hF (c_X0_runsOf l G _ ad (stS S k i) hC k hk i (by omega)) 1 gX0_settle_X0_runsOf rfl (by decide +kernel) ⟨Nat.le_of_ble_eq_true rfl, Nat.le_of_ble_eq_true rfl⟩ hK0 hV0 (hC.bo hk) rfl rfl rfl hl.1 rfl (Nat.le_of_ble_eq_true rfl) (Nat.le_of_ble_eq_true rfl) (Nat.le_of_ble_eq_true rfl) dX0_settle_9 ?_
    refine lv_iconst (v := nI 3) hx hb dX0_settle_12 (by decide) ?_
    refine h_icmp_lt (a := sN (stS S k i) k i) (b := 3) (tgt := 21) hx hb dX0_settle_13 (by decide) (by omega) (by omega) (fun c_13 => ?_) (fun c_13 => ?_)
    · refine lv_iinc (v := nI (i + 1)) (lv' := [(1, .int (nI (i + 1))), (0, .ref (aB ad k))]) hx hb dX0_settle_21 hl (k := 0) rfl (nI_add (i) 1) (by decide) rfl (fun ls hl => ?_)
      refine lv_goto (tgt := 2) hx hb dX0_settle_24 (by decide) ?_
      rw [← stS_n c_13] at hT
      exact ih2 _ H locs (by omega) hT hV0 hA0 hS ls (lv_sub hl [0, 1] rfl)
    · refine lv_aload_n hx hb dX0_settle_16 rfl (lv_at hl 1 rfl) ?_
      refine lv_iload_n hx hb dX0_settle_17 rfl (lv_at hl 0 rfl) ?_
      refine h_wrV (As := [.int (nI i)]) (rest := []) hF (c_X0_mergeLevel l G A _ ad (stS S k i) hC k hk i (by omega) (st_at h1 (by omega) c_13) hA0) 1 gX0_settle_X0_mergeLevel rfl (by decide +kernel) ⟨Nat.le_of_ble_eq_true rfl, Nat.le_of_ble_eq_true rfl⟩ hK0 hV0 hA hS (hC.bo hk) rfl rfl rfl hl.1 rfl (Nat.le_of_ble_eq_true rfl) ⟨Nat.le_of_ble_eq_true rfl, Nat.le_of_ble_eq_true rfl⟩ dX0_settle_18 (fun ro hp1 H locs hP1 hV0 hA0 hS => ?_)
      obtain ⟨rfl, hT1⟩ := hP1
      have hT := hT.tr hT1
      have hC := hT.1
      refine lv_iinc (v := nI (i + 1)) (lv' := [(1, .int (nI (i + 1))), (0, .ref (aB ad k))]) hx hb dX0_settle_21 hl (k := 0) rfl (nI_add (i) 1) (by decide) rfl (fun ls hl => ?_)
      refine lv_goto (tgt := 2) hx hb dX0_settle_24 (by decide) ?_
      rw [← stS_y c_13] at hT
      exact ih2 _ H locs (by omega) hT hV0 hA0 hS ls (lv_sub hl [0, 1] rfl)
