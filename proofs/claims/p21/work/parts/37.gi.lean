/-! what holds of both, step by step -/
def allT (V : BV) (ω : TS) (P : Nat → Nat × Nat → Prop) : Prop := ∀ l r y, l < 4 → r < bN V l → hasR (bG V l r) y = true → P y (ω l r y)
section AT
variable {V : BV} {ω : TS} {P : Nat → Nat × Nat → Prop}
theorem allT.cl (h : allT V ω P) (l : Nat) : allT (clB V l) ω P := fun l2 r y hl hr hh => by
  obtain ⟨-, a2, a3⟩ := cl_r hr
  rw [a3] at hh
  exact h l2 r y hl a2 hh
theorem allT.cm (h : allT V ω P) {L : Nat} {f : Row} {w : TG} (hw : ∀ y, hasR f y = true → P y (w y)) : allT (cmB V L f) (cmT ω L w) P := by
  intro l r y hl hr hh
  rcases cm_r hr hh with ⟨a1, a2, a3⟩ | ⟨a1, a2, a3, a4⟩ | ⟨a1, a2, a3⟩
  · subst a1
    subst a2
    rw [cmT_0]
    exact hw y a3
  · subst a1
    rw [cmT_p _ _ a2]
    exact h l (r - 1) y hl a3 a4
  · rw [cmT_n _ _ a1]
    exact h l r y hl a2 a3
theorem allT.mg (h : allT V ω P) {l : Nat} (hl : l < 4) (hok : ∀ r, r < bN V l → okR (bG V l r)) : allT (mgB V l) (mgT V ω l) P := by
  by_cases hz : szR (mkB V l) = 0
  · rw [mgB_0 hz, mgT_0 hz]
    exact h.cl l
  · rw [mgB_1 hz, mgT_1 hz]
    refine (h.cl l).cm (fun y hy => ?_)
    obtain ⟨-, r, a1, a2, a3, -, -⟩ := mk_acc ω hok hy
    rw [a3]
    exact h l r y hl a1 a2
theorem allT.st (h : allT V ω P) {L : Nat} (hv : vOk V) (h1 : oneB (bN V) L) : ∀ m, m ≤ 4 → allT (stB V m) (stT V ω m) P
  | 0, _ => h
  | m + 1, hm => by
    have ih := h.st hv h1 m (by omega)
    by_cases h3 : bN (stB V m) m < 3
    · rw [stB_n h3, stT_n h3]
      exact ih
    · rw [stB_y h3, stT_y h3]
      exact ih.mg (by omega) (fun r hr => ((hv.st h1 m (by omega)).2 m r (by omega) hr).2)
end AT
theorem oD_all {d : Row} {δ : TG} {V : BV} {ω : TS} : oD d δ V ω ↔ allT V ω (fun x t => hasR d x = true → t.1 < (δ x).1) := ⟨fun h l r x a b c e => h l r x a b e c, fun h l r x a b e c => h l r x a b c e⟩
theorem em_no (x : Nat) : ¬ hasR emR x = true := by
  intro z
  have h2 : emR x = -2 := rfl
  rw [hasR, h2] at z
  exact absurd z (by decide)
theorem lk_mg {S : CS} (h : nOk S) (hI : cI S) {l : Nat} (hl : l < 4) : nOk (stS (mgS S 0 l) 0 4) ∧ vw (stS (mgS S 0 l) 0 4) 0 = stB (mgB (vw S 0) l) 4 ∧ sF (stS (mgS S 0 l) 0 4) 0 = sF S 0 ∧ sR (stS (mgS S 0 l) 0 4) = sR S ∧ sD (stS (mgS S 0 l) 0 4) = sD S ∧ cI (stS (mgS S 0 l) 0 4) := by
  have h1 : oneB (sN S 0) l := oneB_all hI l
  have e1 := vw_mg h hl h1
  have hm := sF_mg (S := S) 0 l
  obtain ⟨a1, a2, a3, a4, a5, -⟩ := lk_st (k := 0) (by decide) (nok_mg h hl h1) (mg_one hl h1) 4 (Nat.le_refl _)
  rw [e1] at a2
  refine ⟨a1, a2, a3.trans hm.1, a4.trans hm.2.1, a5.trans hm.2.2, fun l2 h2 => ?_⟩
  have h6 := stB_two (V := mgB (vw S 0) l) (mgB_one hl (oneB_all (fun l hl => hI l hl) l)) l2 h2
  rw [← a2] at h6
  exact h6
def gI (tb mb gb : Nat) (S : CS) (tm : Nat) (δ : TG) (ω : TS) : Prop := cI S ∧ oT (vw S 0) ω ∧ oD (sF S 0) δ (vw S 0) ω ∧ (∀ y, hasR (sF S 0) y = true → (δ y).1 ≤ tm) ∧ tgs (vw S 0) ω tm ∧ (∃ r, 1 ≤ r ∧ r ≤ 8 ∧ sR S = nI r) ∧ (∃ mv, mv ≤ mb ∧ sV S 0 = nI mv) ∧ (∃ mg, mg ≤ gb ∧ sG S 0 = nI mg) ∧ tm ≤ tb
def gW (ad : Nat → Nat) (mo lv : Nat) (S : CS) (tm : Nat) (δ : TG) (ω : TS) (hp : HP) : Prop := cW ad S hp ∧ ∃ (dk : Nat) (lvl : Nat → Nat) (row : Nat → Nat → Nat), sA mo dk lv lvl row (sR S) tm (sD S) (sF S 0) δ (vw S 0) ω hp
def gX (ad : Nat → Nat) (mo lv tb mb gb : Nat) (S : CS) (hp : HP) : Prop := ∃ (tm : Nat) (δ : TG) (ω : TS), gI tb mb gb S tm δ ω ∧ gW ad mo lv S tm δ ω hp
def gS (S : CS) : Nat := pS (sF S 0) (vw S 0)
theorem gI.mono {tb mb gb tb2 mb2 gb2 : Nat} {S : CS} {tm : Nat} {δ : TG} {ω : TS} (h : gI tb mb gb S tm δ ω) (h1 : tb ≤ tb2) (h2 : mb ≤ mb2) (h3 : gb ≤ gb2) : gI tb2 mb2 gb2 S tm δ ω := by
  obtain ⟨a1, a2, a3, a4, a5, a6, ⟨mv, b1, b2⟩, ⟨mg, b3, b4⟩, a9⟩ := h
  exact ⟨a1, a2, a3, a4, a5, a6, ⟨mv, by omega, b2⟩, ⟨mg, by omega, b4⟩, by omega⟩
section GT
variable {tb mb gb : Nat} {S : CS} {tm : Nat} {δ : TG} {ω : TS}
theorem T_bind (hg : gI tb mb gb S tm δ ω) (hn : nOk S) (hv : vOk (vw S 0)) (hok : okR (sF S 0)) (hz : 0 < szR (sF S 0)) : gI tb (mb + 320) (gb + 4) (bfS S) tm δ (stT (cmB (vw S 0) 0 (sF S 0)) (cmT ω 0 δ) 4) := by
  obtain ⟨hI, hoT, hoD, htd, htg, ⟨r, r1, r2, r3⟩, ⟨mv, h1, h2⟩, ⟨mg, h3, h4⟩, h5⟩ := hg
  obtain ⟨a1, a2, a3, a4, a5, a6⟩ := lk_bf hn hI (by omega)
  have hI2 : ∀ l, l < 4 → bN (vw S 0) l ≤ 2 := fun l hl => hI l hl
  have hv2 := hv.cm (L := 0) (f := sF S 0) (hI2 0 (by omega)) hz hok
  refine ⟨a6, ?_, ?_, ?_, ?_, ⟨r, r1, r2, a4.trans r3⟩, ?_, ?_, h5⟩
  · rw [a2]
    exact (hoT.bind hoD).st hv2 (cm_one hI2) 4 (Nat.le_refl _)
  · rw [a3]
    intro l r x _ _ hd
    exact absurd hd (em_no x)
  · rw [a3]
    intro y hy
    exact absurd hy (em_no y)
  · rw [a2]
    exact (htg.cm htd).st hv2 (cm_one hI2) 4 (Nat.le_refl _)
  · obtain ⟨c, c1, c2⟩ := bM_st (cmB (vw S 0) 0 (sF S 0)) 4
    have hs := szR_le (sF S 0)
    refine ⟨mv + szR (sF S 0) + c, by omega, ?_⟩
    rw [← vw_M, a2, c2]
    show (sV S 0 + nI (szR (sF S 0))) + nI c = _
    rw [h2, nI_add, nI_add]
  · obtain ⟨c, c1, c2⟩ := bK_st (cmB (vw S 0) 0 (sF S 0)) 4
    refine ⟨mg + c, by omega, ?_⟩
    rw [← vw_K, a2, c2]
    show sG S 0 + nI c = _
    rw [h4, nI_add]
theorem T_merge (hg : gI tb mb gb S tm δ ω) (hn : nOk S) (hv : vOk (vw S 0)) {l : Nat} (hl : l < 4) : gI tb (mb + 320) (gb + 5) (stS (mgS S 0 l) 0 4) tm δ (stT (mgB (vw S 0) l) (mgT (vw S 0) ω l) 4) := by
  obtain ⟨hI, hoT, hoD, htd, htg, ⟨r, r1, r2, r3⟩, ⟨mv, h1, h2⟩, ⟨mg, h3, h4⟩, h5⟩ := hg
  obtain ⟨a1, a2, a3, a4, a5, a6⟩ := lk_mg hn hI hl
  have hI2 : ∀ l, l < 4 → bN (vw S 0) l ≤ 2 := fun l hl => hI l hl
  have hok : ∀ r, r < bN (vw S 0) l → okR (bG (vw S 0) l r) := fun r hr => (hv.2 l r hl hr).2
  have hv2 := hv.mg hl (oneB_all hI2 l)
  have ho2 := mgB_one hl (oneB_all hI2 l)
  refine ⟨a6, ?_, ?_, ?_, ?_, ⟨r, r1, r2, a4.trans r3⟩, ?_, ?_, h5⟩
  · rw [a2]
    exact (hoT.mg hl hok).st hv2 ho2 4 (Nat.le_refl _)
  · rw [a2, a3]
    exact oD_all.mpr (((oD_all.mp hoD).mg hl hok).st hv2 ho2 4 (Nat.le_refl _))
  · rw [a3]
    exact htd
  · rw [a2]
    exact (htg.mg hl hok).st hv2 ho2 4 (Nat.le_refl _)
  · obtain ⟨c, c1, c2⟩ := bM_st (mgB (vw S 0) l) 4
    obtain ⟨c3, c4, c5⟩ := bM_mg (vw S 0) l
    refine ⟨mv + c3 + c, by omega, ?_⟩
    rw [← vw_M, a2, c2, c5]
    show (sV S 0 + nI c3) + nI c = _
    rw [h2, nI_add, nI_add]
  · obtain ⟨c, c1, c2⟩ := bK_st (mgB (vw S 0) l) 4
    refine ⟨mg + 1 + c, by omega, ?_⟩
    rw [← vw_K, a2, c2, bK_mg]
    show (sG S 0 + nI 1) + nI c = _
    rw [h4, nI_add, nI_add]
theorem T_put (hg : gI tb mb gb S tm δ ω) {x q : Nat} {v : Int32} (hv2 : v ≠ -2) : gI (tb + 1) mb gb (wrS S x v) (tm + 1) (putT δ x (tm + 1) q) ω := by
  obtain ⟨hI, hoT, hoD, htd, htg, hr, h1, h3, h5⟩ := hg
  have e1 : vw (wrS S x v) 0 = vw S 0 := uF0_N S _
  have e2 : sF (wrS S x v) 0 = upd (sF S 0) x v := sF_uF _ _ _
  refine ⟨hI, ?_, ?_, ?_, ?_, hr, h1, h3, by omega⟩
  · rw [e1]
    exact hoT
  · rw [e1, e2]
    exact put_oD hoD htg
  · rw [e2]
    intro y hy
    unfold putT
    by_cases e : y = x
    · rw [if_pos e]
      exact Nat.le_refl _
    · rw [if_neg e]
      rw [hasR_upd_n _ _ e] at hy
      exact Nat.le_succ_of_le (htd y hy)
  · rw [e1]
    intro l r y a b c
    exact Nat.le_succ_of_le (htg l r y a b c)
theorem T_room (hg : gI tb mb gb S tm δ ω) {r : Nat} (h1 : 1 ≤ r) (h2 : r ≤ 8) : gI tb mb gb (uR S (nI r)) tm δ ω := by
  obtain ⟨hI, hoT, hoD, htd, htg, hr, h3, h4, h5⟩ := hg
  exact ⟨hI, hoT, hoD, htd, htg, ⟨r, h1, h2, rfl⟩, h3, h4, h5⟩
theorem T_read (hg : gI tb mb gb S tm δ ω) (v : Int32) : gI tb mb gb (uD S v) tm δ ω := by
  obtain ⟨hI, hoT, hoD, htd, htg, hr, h3, h4, h5⟩ := hg
  exact ⟨hI, hoT, hoD, htd, htg, hr, h3, h4, h5⟩
end GT
/-! the Sim's state and the class', the same behind each step -/
section GW
variable {mo dk lv : Nat} {lvl : Nat → Nat} {row : Nat → Nat → Nat} {S : CS} {tm : Nat} {δ : TG} {ω : TS} {hp : HP}
theorem sA.bf (hn : nOk S) (hI : cI S) (hz : 0 < szR (sF S 0)) (h : sA mo dk lv lvl row (sR S) tm (sD S) emR δ (stB (cmB (vw S 0) 0 (sF S 0)) 4) ω hp) : sA mo dk lv lvl row (sR (bfS S)) tm (sD (bfS S)) (sF (bfS S) 0) δ (vw (bfS S) 0) ω hp := by
  obtain ⟨a1, a2, a3, a4, a5, a6⟩ := lk_bf hn hI (by omega)
  rw [a2, a3, a4, a5]
  exact h
theorem sA.mgv (hn : nOk S) (hI : cI S) {l : Nat} (hl : l < 4) (h : sA mo dk lv lvl row (sR S) tm (sD S) (sF S 0) δ (stB (mgB (vw S 0) l) 4) ω hp) : sA mo dk lv lvl row (sR (stS (mgS S 0 l) 0 4)) tm (sD (stS (mgS S 0 l) 0 4)) (sF (stS (mgS S 0 l) 0 4) 0) δ (vw (stS (mgS S 0 l) 0 4) 0) ω hp := by
  obtain ⟨a1, a2, a3, a4, a5, a6⟩ := lk_mg hn hI hl
  rw [a2, a3, a4, a5]
  exact h
end GW
theorem gS_bf {S : CS} (hn : nOk S) (hI : cI S) (hv : vOk (vw S 0)) (hok : okR (sF S 0)) (hz : 0 < szR (sF S 0)) : 2 + stC (cmB (vw S 0) 0 (sF S 0)) 4 + gS (bfS S) ≤ gS S + 262 := by
  obtain ⟨a1, a2, a3, -, -, -⟩ := lk_bf hn hI (by omega)
  have h := pS_bind hv (fun l hl => hI l hl) hz hok
  unfold gS
  rw [a2, a3]
  exact h
theorem gS_mg {S : CS} (hn : nOk S) (hI : cI S) (hv : vOk (vw S 0)) {l : Nat} (hl : l < 4) (h0 : ¬ bN (vw S 0) l = 0) : mgC (vw S 0) l + stC (mgB (vw S 0) l) 4 + gS (stS (mgS S 0 l) 0 4) ≤ gS S + 520 := by
  obtain ⟨a1, a2, a3, -, -, -⟩ := lk_mg hn hI hl
  have h := pS_merge (d := sF S 0) hv (fun l hl => hI l hl) hl h0
  unfold gS
  rw [a2, a3]
  exact h
theorem gS_put {S : CS} {x : Nat} {v : Int32} (hx : x < 64) (hv : v ≠ -2) : gS (wrS S x v) ≤ gS S + 26 := by
  have e1 : vw (wrS S x v) 0 = vw S 0 := uF0_N S _
  have e2 : sF (wrS S x v) 0 = upd (sF S 0) x v := sF_uF _ _ _
  have h := sz_put (d := sF S 0) hx hv
  unfold gS pS
  rw [e1, e2]
  omega
/-! the class' cells move, the Sim's stay -/
def sk : hE → Bool
  | .inl x => decide (x.1 = 3) || decide (x.1 = 4) || decide (x.1 = 5) || (decide (x.1 = 0) && decide (x.2.1 = 3))
  | .inr o => decide (o.1 = 3)
def skH (hp hp' : HP) : Prop := ∀ (q : Nat) (e : hE), sk e = true → hp q = some e → hp' q = some e
theorem sl.ms {hp hp' : HP} {a x : Nat} {v : Int32} {t : Nat} (h : sl hp a x v t) (he : skH hp hp') : sl hp' a x v t := by
  obtain ⟨⟨F, h1, h2⟩, h3⟩ := h
  exact ⟨⟨F, he _ _ rfl h1, h2⟩, h3⟩
theorem rn.ms {hp hp' : HP} {a : Nat} {f : Row} {w : TG} (h : rn hp a f w) (he : skH hp hp') : rn hp' a f w := by
  obtain ⟨⟨F, h1, h2⟩, h3⟩ := h
  exact ⟨⟨F, he _ _ rfl h1, h2⟩, fun y hy hh => (h3 y hy hh).ms he⟩
theorem sA.ms {mo dk lv : Nat} {lvl : Nat → Nat} {row : Nat → Nat → Nat} {rm : Int32} {tm : Nat} {dt : Int32} {d : Row} {δ : TG} {V : BV} {ω : TS} {hp hp' : HP} (h : sA mo dk lv lvl row rm tm dt d δ V ω hp) (he : skH hp hp') : sA mo dk lv lvl row rm tm dt d δ V ω hp' := by
  obtain ⟨F, h1, h2⟩ := h.clv
  refine ⟨he _ _ rfl h.cmo, h.cdk.ms he, ⟨F, he _ _ rfl h1, h2⟩, fun l hl => ?_, fun l r hl hr => (h.crow hl hr).ms he, h.le, h.2.2.2.2.2.2⟩
  obtain ⟨F2, h3, h4⟩ := h.clvl hl
  exact ⟨F2, he _ _ rfl h3, h4⟩
theorem cE_sk {ad : Nat → Nat} {S : CS} {key : Nat} : sk (cE ad S key) = false := by
  unfold cE
  split
  · split <;> rfl
  · split
    · rfl
    · split
      · rfl
      · split <;> rfl
theorem cT.skw {ad : Nat → Nat} {S S2 : CS} {hp hp' : HP} (hC : cW ad S hp) (h : cT ad hp S2 hp') : skH hp hp' := fun q e hs hq => by
  rw [h.2 q (fun key hk z => by
    have h1 := hC.2.2 key hk
    rw [← z, hq] at h1
    have h2 : sk (cE ad S key) = true := by
      rw [← Option.some.inj h1]
      exact hs
    rw [cE_sk] at h2
    cases h2)]
  exact hq
/-! below -/
def blN (x : Int32) (n : Nat) : Nat := x.toBitVec.toNat % 2147483648 % n
theorem bl_and (x : Int32) : x &&& 2147483647 = nI (x.toBitVec.toNat % 2147483648) := by
  apply Int32.toBitVec_inj.mp
  apply BitVec.eq_of_toNat_eq
  rw [Int32.toBitVec_and, BitVec.toNat_and]
  show x.toBitVec.toNat &&& 2147483647 = (BitVec.ofNat 32 (x.toBitVec.toNat % 2147483648)).toNat
  rw [BitVec.toNat_ofNat, Nat.mod_eq_of_lt (show x.toBitVec.toNat % 2147483648 < 2 ^ 32 by omega)]
  exact Nat.and_two_pow_sub_one_eq_mod _ 31
theorem bl_lt (x : Int32) {n : Nat} (h : 0 < n) : blN x n < n := Nat.mod_lt _ h
