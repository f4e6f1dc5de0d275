/-! the model's world under writes -/
def mX (X : Nat → Prop) (mo dk lv nb : Nat) (hp : HP) : Prop := (¬ X mo ∧ ¬ X dk ∧ ¬ X lv ∧ ¬ X nb) ∧ ∀ q, X q → ∃ e, hp q = some e
def mKp (X : Nat → Prop) (hp0 hp : HP) : Prop := ∀ q, X q → hp q = hp0 q
def mD (dk : Nat) (row : Nat → Nat → Nat) (V : BV) : Prop := ∀ l r, l < 4 → r < bN V l → row l r ≠ dk
def mP (X : Nat → Prop) (mo : Nat) (th : Int32) (d : Row) (V : BV) (rm dt : Int32) (hp0 hp : HP) : Prop := ∃ (dk lv nb : Nat) (lvl : Nat → Nat) (row : Nat → Nat → Nat), mA mo dk lv nb lvl row th d V rm dt hp ∧ mX X mo dk lv nb hp ∧ mD dk row V ∧ mKp X hp0 hp
def mNe (mo dk lv nb : Nat) (lvl : Nat → Nat) (row : Nat → Nat → Nat) (V : BV) (q : Nat) : Prop := mo ≠ q ∧ dk ≠ q ∧ lv ≠ q ∧ nb ≠ q ∧ (∀ l, l < 4 → lvl l ≠ q) ∧ ∀ l r, l < 4 → r < bN V l → row l r ≠ q
def setL (V : BV) (l n : Nat) (g : Nat → Row) : BV := (fun l2 => if l2 = l then n else bN V l2, fun l2 => if l2 = l then g else bG V l2, bM V, bK V)
def setM (V : BV) (v : Int32) : BV := (bN V, bG V, v, bK V)
def setK (V : BV) (v : Int32) : BV := (bN V, bG V, bM V, v)
theorem mKp.rf {X : Nat → Prop} {hp : HP} : mKp X hp hp := fun _ _ => rfl
theorem mKp.tr {X : Nat → Prop} {h1 h2 h3 : HP} (a : mKp X h1 h2) (b : mKp X h2 h3) : mKp X h1 h3 := fun q hq => (b q hq).trans (a q hq)
theorem mKp.put {X : Nat → Prop} {h1 h2 : HP} {q : Nat} {e : hE} (a : mKp X h1 h2) (hq : ¬ X q) : mKp X h1 (hput h2 q e) := fun x hx => by
  have hne : x ≠ q := fun z => hq (by rw [← z]; exact hx)
  rw [hput_n _ _ hne]
  exact a x hx
theorem hput_some {hp : HP} {a : Nat} {e : hE} {q : Nat} (h : ∃ x, hp q = some x) : ∃ x, hput hp a e q = some x := by
  by_cases h1 : q = a
  · rw [h1, hput_s]; exact ⟨_, rfl⟩
  · rw [hput_n _ _ h1]; exact h
theorem mX.put {X : Nat → Prop} {mo dk lv nb : Nat} {hp : HP} (h : mX X mo dk lv nb hp) (q : Nat) (e : hE) : mX X mo dk lv nb (hput hp q e) := ⟨h.1, fun x hx => hput_some (h.2 x hx)⟩
theorem mX.new {X : Nat → Prop} {mo dk lv nb : Nat} {hp : HP} (h : mX X mo dk lv nb hp) {q : Nat} (hq : hp q = none) : ¬ X q := fun z => by
  obtain ⟨e, he⟩ := h.2 q z
  rw [hq] at he
  cases he
theorem hp_ne2 {hp : HP} {a b : Nat} {e1 e2 : hE} (h1 : hp a = some e1) (h2 : hp b = some e2) (hne : e1 ≠ e2) : a ≠ b := fun z => hne (Option.some.inj ((z ▸ h1).symm.trans h2))
theorem mR.put {hp : HP} {a : Nat} {f : Row} (h : mR hp a f) {q : Nat} (e : hE) (hne : a ≠ q) : mR (hput hp q e) a f := by
  obtain ⟨F, h1, h2⟩ := h
  exact ⟨F, (hput_n _ _ hne).trans h1, h2⟩
theorem mQ.put {hp : HP} {a t n : Nat} {x : Nat → Nat} (h : mQ hp a t n x) {q : Nat} (e : hE) (hne : a ≠ q) : mQ (hput hp q e) a t n x := by
  obtain ⟨F, h1, h2⟩ := h
  exact ⟨F, (hput_n _ _ hne).trans h1, h2⟩
theorem mN.put {hp : HP} {a : Nat} {rm mv dt mg : Int32} (h : mN hp a rm mv dt mg) {q : Nat} (e : hE) (hne : a ≠ q) : mN (hput hp q e) a rm mv dt mg := by
  obtain ⟨F, h1, h2⟩ := h
  exact ⟨F, (hput_n _ _ hne).trans h1, h2⟩
theorem ne_QR {hp : HP} {a b t n : Nat} {x : Nat → Nat} {f : Row} (h1 : mQ hp a t n x) (h2 : mR hp b f) : a ≠ b := by
  obtain ⟨F, g1, -⟩ := h1
  obtain ⟨F2, g2, -⟩ := h2
  exact hp_ne2 g1 g2 (fun z => by cases z)
theorem ne_NR {hp : HP} {a b : Nat} {rm mv dt mg : Int32} {f : Row} (h1 : mN hp a rm mv dt mg) (h2 : mR hp b f) : a ≠ b := by
  obtain ⟨F, g1, -⟩ := h1
  obtain ⟨F2, g2, -⟩ := h2
  exact hp_ne2 g1 g2 (fun z => by cases z)
theorem ne_NQ {hp : HP} {a b t n : Nat} {rm mv dt mg : Int32} {x : Nat → Nat} (h1 : mN hp a rm mv dt mg) (h2 : mQ hp b t n x) : a ≠ b := by
  obtain ⟨F, g1, -⟩ := h1
  obtain ⟨F2, g2, -⟩ := h2
  exact hp_ne2 g1 g2 (fun z => by cases z)
theorem ne_QQ {hp : HP} {a b n n2 : Nat} {x x2 : Nat → Nat} (h1 : mQ hp a 4 n x) (h2 : mQ hp b 3 n2 x2) : a ≠ b := by
  obtain ⟨F, g1, -⟩ := h1
  obtain ⟨F2, g2, -⟩ := h2
  exact hp_ne2 g1 g2 (fun z => by cases z)
theorem ne_OR {hp : HP} {a b c : Nat} {fs : List Value} {f : Row} (h1 : hp a = some (eO c fs)) (h2 : mR hp b f) : a ≠ b := by
  obtain ⟨F2, g2, -⟩ := h2
  exact hp_ne2 h1 g2 (fun z => by cases z)
theorem ne_OQ {hp : HP} {a b c t n : Nat} {fs : List Value} {x : Nat → Nat} (h1 : hp a = some (eO c fs)) (h2 : mQ hp b t n x) : a ≠ b := by
  obtain ⟨F2, g2, -⟩ := h2
  exact hp_ne2 h1 g2 (fun z => by cases z)
theorem ne_ON {hp : HP} {a b c : Nat} {fs : List Value} {rm mv dt mg : Int32} (h1 : hp a = some (eO c fs)) (h2 : mN hp b rm mv dt mg) : a ≠ b := by
  obtain ⟨F2, g2, -⟩ := h2
  exact hp_ne2 h1 g2 (fun z => by cases z)
section MAW
variable {mo dk lv nb : Nat} {lvl : Nat → Nat} {row : Nat → Nat → Nat} {th : Int32} {d : Row} {V : BV} {rm dt : Int32} {hp : HP}
theorem mA.ne (h : mA mo dk lv nb lvl row th d V rm dt hp) {q : Nat} (hq : hp q = none) : mNe mo dk lv nb lvl row V q := by
  refine ⟨hp_ne h.cmo hq, ?_, ?_, ?_, fun l hl => ?_, fun l r hl hr => ?_⟩
  · obtain ⟨F, h1, -⟩ := h.cdk; exact hp_ne h1 hq
  · obtain ⟨F, h1, -⟩ := h.clv; exact hp_ne h1 hq
  · obtain ⟨F, h1, -⟩ := h.cnb; exact hp_ne h1 hq
  · obtain ⟨F, h1, -⟩ := h.clvl hl; exact hp_ne h1 hq
  · obtain ⟨F, h1, -⟩ := h.crow hl hr; exact hp_ne h1 hq
theorem mA.put (h : mA mo dk lv nb lvl row th d V rm dt hp) {q : Nat} (hq : mNe mo dk lv nb lvl row V q) (e : hE) : mA mo dk lv nb lvl row th d V rm dt (hput hp q e) :=
  ⟨(hput_n _ _ hq.1).trans h.cmo, h.cdk.put e hq.2.1, h.clv.put e hq.2.2.1, h.cnb.put e hq.2.2.2.1, fun l hl => (h.clvl hl).put e (hq.2.2.2.2.1 l hl), fun l r hl hr => ⟨(h.crow hl hr).put e (hq.2.2.2.2.2 l r hl hr), h.pos hl hr⟩, h.le⟩
theorem mA.setO (h : mA mo dk lv nb lvl row th d V rm dt hp) (v : Int32) {q : Nat} {f : Row} (hq : mR hp q f) : mA mo q lv nb lvl row v f V rm dt (hput hp mo (eO 3 [.int v, .ref q, .ref lv, .ref nb])) :=
  ⟨hput_s _ _ _, hq.put _ (ne_OR h.cmo hq).symm, h.clv.put _ (ne_OQ h.cmo h.clv).symm, h.cnb.put _ (ne_ON h.cmo h.cnb).symm, fun l hl => (h.clvl hl).put _ (ne_OQ h.cmo (h.clvl hl)).symm, fun l r hl hr => ⟨(h.crow hl hr).put _ (ne_OR h.cmo (h.crow hl hr)).symm, h.pos hl hr⟩, h.le⟩
theorem mA.setTh (h : mA mo dk lv nb lvl row th d V rm dt hp) (v : Int32) : mA mo dk lv nb lvl row v d V rm dt (hput hp mo (eO 3 [.int v, .ref dk, .ref lv, .ref nb])) := h.setO v h.cdk
theorem mA.setN (h : mA mo dk lv nb lvl row th d V rm dt hp) {rm2 mv2 dt2 mg2 : Int32} {F : Nat → Int32} (h1 : F 0 = rm2) (h2 : F 1 = mv2) (h3 : F 2 = dt2) (h4 : F 3 = mg2) : mA mo dk lv nb lvl row th d (setK (setM V mv2) mg2) rm2 dt2 (hput hp nb (eI 4 F)) :=
  ⟨(hput_n _ _ (ne_ON h.cmo h.cnb)).trans h.cmo, h.cdk.put _ (ne_NR h.cnb h.cdk).symm, h.clv.put _ (ne_NQ h.cnb h.clv).symm, ⟨F, hput_s _ _ _, h1, h2, h3, h4⟩, fun l hl => (h.clvl hl).put _ (ne_NQ h.cnb (h.clvl hl)).symm, fun l r hl hr => ⟨(h.crow hl hr).put _ (ne_NR h.cnb (h.crow hl hr)).symm, h.pos hl hr⟩, h.le⟩
theorem mA.setD (h : mA mo dk lv nb lvl row th d V rm dt hp) (hD : mD dk row V) {F : Nat → Int32} (hF : hp dk = some (eI 64 F)) (hFs : ∀ k, k < 64 → F k = sw (d k)) (x : Nat) (v : Int32) : mA mo dk lv nb lvl row th (upd d x (sw v)) V rm dt (hput hp dk (eI 64 (upd F x v))) := by
  refine ⟨(hput_n _ _ (ne_OR h.cmo h.cdk)).trans h.cmo, ⟨_, hput_s _ _ _, fun k hk => ?_⟩, h.clv.put _ (ne_QR h.clv h.cdk), h.cnb.put _ (ne_NR h.cnb h.cdk), fun l hl => (h.clvl hl).put _ (ne_QR (h.clvl hl) h.cdk), fun l r hl hr => ⟨(h.crow hl hr).put _ (hD l r hl hr), h.pos hl hr⟩, h.le⟩
  unfold upd
  split
  · rw [sw_sw]
  · exact hFs k hk
theorem mA.setLv (h : mA mo dk lv nb lvl row th d V rm dt hp) {LF : Nat → Option Nat} (hLF : hp lv = some (eQ 4 4 LF)) (hLs : ∀ i, i < 4 → LF i = some (lvl i)) {l q n : Nat} {rw2 : Nat → Nat} {g : Nat → Row} (hq : mQ hp q 3 n rw2) (hrs : ∀ r, r < n → mR hp (rw2 r) (g r) ∧ 0 < szR (g r)) (hn : n ≤ 3) :
    mA mo dk lv nb (fun l2 => if l2 = l then q else lvl l2) (fun l2 => if l2 = l then rw2 else row l2) th d (setL V l n g) rm dt (hput hp lv (eQ 4 4 (va_up LF l (some q)))) := by
  refine ⟨(hput_n _ _ (ne_OQ h.cmo h.clv)).trans h.cmo, h.cdk.put _ (ne_QR h.clv h.cdk).symm, ⟨_, hput_s _ _ _, fun i hi => ?_⟩, h.cnb.put _ (ne_NQ h.cnb h.clv), fun l2 hl => ?_, fun l2 r hl hr => ?_, fun l2 => ?_⟩
  · show (if i = l then some q else LF i) = some (if i = l then q else lvl i)
    by_cases e : i = l
    · rw [if_pos e, if_pos e]
    · rw [if_neg e, if_neg e]
      exact hLs i hi
  · show mQ _ (if l2 = l then q else lvl l2) 3 (if l2 = l then n else bN V l2) (if l2 = l then rw2 else row l2)
    by_cases e : l2 = l
    · rw [if_pos e, if_pos e, if_pos e]
      exact hq.put _ (ne_QQ h.clv hq).symm
    · rw [if_neg e, if_neg e, if_neg e]
      exact (h.clvl hl).put _ (ne_QQ h.clv (h.clvl hl)).symm
  · have hr2 : r < (if l2 = l then n else bN V l2) := hr
    show mR _ ((if l2 = l then rw2 else row l2) r) ((if l2 = l then g else bG V l2) r) ∧ 0 < szR ((if l2 = l then g else bG V l2) r)
    by_cases e : l2 = l
    · rw [if_pos e] at hr2
      rw [if_pos e, if_pos e]
      exact ⟨(hrs r hr2).1.put _ (ne_QR h.clv (hrs r hr2).1).symm, (hrs r hr2).2⟩
    · rw [if_neg e] at hr2
      rw [if_neg e, if_neg e]
      exact ⟨(h.crow hl hr2).put _ (ne_QR h.clv (h.crow hl hr2)).symm, h.pos hl hr2⟩
  · show (if l2 = l then n else bN V l2) ≤ 3
    split
    · exact hn
    · exact h.le l2
end MAW
/-! what binding and merging do to the levels -/
def cmB (V : BV) (l : Nat) (f : Row) : BV := setL (setM V (bM V + nI (szR f))) l (bN V l + 1) (fun r => if r = 0 then f else bG V l (r - 1))
def mkB (V : BV) (l : Nat) : Row := gaP (bN V l) (bG V l) (nbA (bN V) l) 64
def clB (V : BV) (l : Nat) : BV := setK (setL V l 0 (fun _ => emR)) (bK V + nI 1)
def mgB (V : BV) (l : Nat) : BV := if szR (mkB V l) = 0 then clB V l else cmB (clB V l) (min (l + 1) 3) (mkB V l)
def stB (V : BV) : Nat → BV
  | 0 => V
  | m + 1 => if 3 ≤ bN (stB V m) m then mgB (stB V m) m else stB V m
theorem stB_y {V : BV} {m : Nat} (h : ¬ bN (stB V m) m < 3) : stB V (m + 1) = mgB (stB V m) m := if_pos (by omega)
theorem stB_n {V : BV} {m : Nat} (h : bN (stB V m) m < 3) : stB V (m + 1) = stB V m := if_neg (by omega)
theorem bN_cmB (V : BV) (l : Nat) (f : Row) (l2 : Nat) : bN (cmB V l f) l2 = if l2 = l then bN V l + 1 else bN V l2 := rfl
theorem bN_clB (V : BV) (l l2 : Nat) : bN (clB V l) l2 = if l2 = l then 0 else bN V l2 := rfl
theorem bN_mgB_le (V : BV) (l l2 : Nat) (hl : l < 4) : bN (mgB V l) l2 ≤ if l2 = min (l + 1) 3 then (if l = 3 then 1 else bN V l2 + 1) else if l2 = l then 0 else bN V l2 := by
  unfold mgB
  by_cases hz : szR (mkB V l) = 0
  · rw [if_pos hz, bN_clB]
    by_cases h1 : l2 = min (l + 1) 3
    · rw [if_pos h1]
      by_cases h3 : l = 3
      · rw [if_pos h3, if_pos (by omega)]; omega
      · rw [if_neg h3, if_neg (by omega)]; omega
    · rw [if_neg h1]; exact Nat.le_refl _
  · rw [if_neg hz, bN_cmB]
    by_cases h1 : l2 = min (l + 1) 3
    · rw [if_pos h1, if_pos h1, bN_clB]
      by_cases h3 : l = 3
      · rw [if_pos h3, if_pos (by omega)]; omega
      · rw [if_neg h3, if_neg (by omega), h1]; omega
    · rw [if_neg h1, if_neg h1, bN_clB]; exact Nat.le_refl _
theorem mgB_one {V : BV} {l : Nat} (hl : l < 4) (h : oneB (bN V) l) : oneB (bN (mgB V l)) (l + 1) := by
  intro l2 h2 hne
  have h1 := bN_mgB_le V l l2 hl
  have h3 := h l2 h2
  by_cases e : l2 = min (l + 1) 3
  · by_cases e3 : l = 3
    · rw [if_pos e, if_pos e3] at h1; omega
    · omega
  · rw [if_neg e] at h1
    by_cases e2 : l2 = l
    · rw [if_pos e2] at h1; omega
    · rw [if_neg e2] at h1
      have := h3 e2
      omega
theorem stB_one {V : BV} {L : Nat} (h : oneB (bN V) L) : ∀ m, m ≤ 4 → ∃ L2, m ≤ L2 ∧ oneB (bN (stB V m)) L2
  | 0, _ => ⟨L, Nat.zero_le _, h⟩
  | m + 1, hm => by
    obtain ⟨L2, h1, h2⟩ := stB_one h m (by omega)
    unfold stB
    split
    · rename_i h3
      have e : L2 = m := by
        rcases Nat.lt_or_ge m L2 with q | q
        · have := h2 m (by omega) (by omega)
          omega
        · omega
      subst e
      exact ⟨L2 + 1, Nat.le_refl _, mgB_one (by omega) h2⟩
    · rename_i h3
      by_cases e : L2 = m
      · subst e
        exact ⟨L2 + 1, Nat.le_refl _, fun l hl hne => by
          by_cases e2 : l = L2
          · subst e2; omega
          · exact h2 l hl e2⟩
      · exact ⟨L2, by omega, h2⟩
theorem stB_two {V : BV} {L : Nat} (h : oneB (bN V) L) : ∀ l, l < 4 → bN (stB V 4) l ≤ 2 := by
  intro l hl
  obtain ⟨L2, h1, h2⟩ := stB_one h 4 (Nat.le_refl _)
  exact h2 l hl (by omega)
theorem stB_at {V : BV} {L m : Nat} (h : oneB (bN V) L) (hm : m < 4) (h3 : ¬ bN (stB V m) m < 3) : oneB (bN (stB V m)) m := by
  obtain ⟨L2, h1, h2⟩ := stB_one h m (by omega)
  have e : L2 = m := by
    rcases Nat.lt_or_ge m L2 with q | q
    · have := h2 m hm (by omega)
      omega
    · omega
  subst e
  exact h2
theorem mgB_pre {V : BV} {l : Nat} (hl : l < 4) (h : oneB (bN V) l) : bN (clB V l) (min (l + 1) 3) ≤ 2 := by
  rw [bN_clB]
  by_cases e : l = 3
  · rw [if_pos (by omega)]; omega
  · rw [if_neg (by omega)]
    have := h (l + 1) (by omega) (by omega)
    rw [show min (l + 1) 3 = l + 1 by omega]
    exact this
