/-! each step of both: what holds behind it, what it makes -/
section GG
variable {ad : Nat → Nat} {mo dk lv tb mb gb : Nat} {lvl : Nat → Nat} {row : Nat → Nat → Nat} {S : CS} {tm : Nat} {δ : TG} {ω : TS} {hp : HP}
theorem G_mono {tb2 mb2 gb2 : Nat} (h : gX ad mo lv tb mb gb S hp) (h1 : tb ≤ tb2) (h2 : mb ≤ mb2) (h3 : gb ≤ gb2) : gX ad mo lv tb2 mb2 gb2 S hp := by
  obtain ⟨tm, δ, ω, a, b⟩ := h
  exact ⟨tm, δ, ω, a.mono h1 h2 h3, b⟩
theorem G_same (hg : gI tb mb gb S tm δ ω) (hC : cW ad S hp) (hm : sA mo dk lv lvl row (sR S) tm (sD S) (sF S 0) δ (vw S 0) ω hp) : gX ad mo lv tb mb gb S hp := ⟨tm, δ, ω, hg, hC, _, _, _, hm⟩
theorem w_vw (S : CS) (x : Nat) (v : Int32) : vw (wrS S x v) 0 = vw S 0 := uF0_N S _
theorem w_sF (S : CS) (x : Nat) (v : Int32) : sF (wrS S x v) 0 = upd (sF S 0) x v := sF_uF _ _ _
theorem G_putN (hg : gI tb mb gb S tm δ ω) {x q : Nat} {v : Int32} (hv2 : v ≠ -2) (hC : cW ad (wrS S x v) hp) (hm : sA mo dk lv lvl row (sR S) (tm + 1) (sD S) (upd (sF S 0) x v) (putT δ x (tm + 1) q) (vw S 0) ω hp) : gX ad mo lv (tb + 1) mb gb (wrS S x v) hp := by
  refine ⟨tm + 1, _, ω, T_put hg (q := q) hv2, hC, dk, lvl, row, ?_⟩
  rw [w_vw, w_sF]
  exact hm
theorem G_bind (hg : gI tb mb gb S tm δ ω) (hn : nOk S) (hv : vOk (vw S 0)) (hok : okR (sF S 0)) (hz : 0 < szR (sF S 0)) (hC : cW ad (bfS S) hp) (hm : sA mo dk lv lvl row (sR S) tm (sD S) emR δ (stB (cmB (vw S 0) 0 (sF S 0)) 4) (stT (cmB (vw S 0) 0 (sF S 0)) (cmT ω 0 δ) 4) hp) : gX ad mo lv tb (mb + 320) (gb + 4) (bfS S) hp :=
  ⟨tm, δ, _, T_bind hg hn hv hok hz, hC, dk, lvl, row, sA.bf hn hg.1 hz hm⟩
theorem G_putB (hg : gI tb mb gb S tm δ ω) (hn : nOk S) (hv : vOk (vw S 0)) {x q : Nat} {v : Int32} (hv2 : v ≠ -2) (hx : x < 64) (hok : okR (upd (sF S 0) x v)) (hC : cW ad (bfS (wrS S x v)) hp) (hm : sA mo dk lv lvl row (sR S) (tm + 1) (sD S) emR (putT δ x (tm + 1) q) (stB (cmB (vw S 0) 0 (upd (sF S 0) x v)) 4) (stT (cmB (vw S 0) 0 (upd (sF S 0) x v)) (cmT ω 0 (putT δ x (tm + 1) q)) 4) hp) : gX ad mo lv (tb + 1) (mb + 320) (gb + 4) (bfS (wrS S x v)) hp := by
  have hz : 0 < szR (upd (sF S 0) x v) := szR_put hx hv2
  refine G_bind (S := wrS S x v) (T_put hg (q := q) hv2) hn (by rw [w_vw]; exact hv) (by rw [w_sF]; exact hok) (by rw [w_sF]; exact hz) hC ?_ (dk := dk) (lvl := lvl) (row := row)
  rw [w_vw, w_sF]
  exact hm
theorem G_merge (hg : gI tb mb gb S tm δ ω) (hn : nOk S) (hv : vOk (vw S 0)) {l : Nat} (hl : l < 4) (hC : cW ad (stS (mgS S 0 l) 0 4) hp) (hm : sA mo dk lv lvl row (sR S) tm (sD S) (sF S 0) δ (stB (mgB (vw S 0) l) 4) (stT (mgB (vw S 0) l) (mgT (vw S 0) ω l) 4) hp) : gX ad mo lv tb (mb + 320) (gb + 5) (stS (mgS S 0 l) 0 4) hp :=
  ⟨tm, δ, _, T_merge hg hn hv hl, hC, dk, lvl, row, sA.mgv hn hg.1 hl hm⟩
theorem G_room (hg : gI tb mb gb S tm δ ω) {r : Nat} (h1 : 1 ≤ r) (h2 : r ≤ 8) (hC : cW ad (uR S (nI r)) hp) (hm : sA mo dk lv lvl row (nI r) tm (sD S) (sF S 0) δ (vw S 0) ω hp) : gX ad mo lv tb mb gb (uR S (nI r)) hp := ⟨tm, δ, ω, T_room hg h1 h2, hC, dk, lvl, row, hm⟩
theorem G_roomB (hg : gI tb mb gb S tm δ ω) (hn : nOk S) (hv : vOk (vw S 0)) (hok : okR (sF S 0)) {r : Nat} (h1 : 1 ≤ r) (h2 : r ≤ 8) (hz : 0 < szR (sF S 0)) (hC : cW ad (bfS (uR S (nI r))) hp) (hm : sA mo dk lv lvl row (nI r) tm (sD S) emR δ (stB (cmB (vw S 0) 0 (sF S 0)) 4) (stT (cmB (vw S 0) 0 (sF S 0)) (cmT ω 0 δ) 4) hp) : gX ad mo lv tb (mb + 320) (gb + 4) (bfS (uR S (nI r))) hp :=
  G_bind (S := uR S (nI r)) (dk := dk) (lvl := lvl) (row := row) (T_room hg h1 h2) hn hv hok hz hC hm
theorem G_read (hg : gI tb mb gb S tm δ ω) {v : Int32} (hC : cW ad (uD S v) hp) (hm : sA mo dk lv lvl row (sR S) tm v (sF S 0) δ (vw S 0) ω hp) : gX ad mo lv tb mb gb (uD S v) hp := ⟨tm, δ, ω, T_read hg v, hC, dk, lvl, row, hm⟩
end GG
theorem K_putN {S : CS} {x : Nat} {v : Int32} (hx : x < 64) (hv : v ≠ -2) : 3 + gS (wrS S x v) ≤ gS S + 600 := by
  have := gS_put (S := S) hx hv
  omega
theorem K_putB {S : CS} {x : Nat} {v : Int32} (hn : nOk S) (hI : cI S) (hvk : vOk (vw S 0)) (hok : okR (upd (sF S 0) x v)) (hx : x < 64) (hv : v ≠ -2) : 5 + stC (cmB (vw S 0) 0 (upd (sF S 0) x v)) 4 + gS (bfS (wrS S x v)) ≤ gS S + 600 := by
  have h1 := gS_put (S := S) hx hv
  have h2 := gS_bf (S := wrS S x v) hn hI (by rw [w_vw]; exact hvk) (by rw [w_sF]; exact hok) (by rw [w_sF]; exact szR_put hx hv)
  rw [w_vw, w_sF] at h2
  omega
theorem gS_uR (S : CS) (v : Int32) : gS (uR S v) = gS S := rfl
theorem gS_uD (S : CS) (v : Int32) : gS (uD S v) = gS S := rfl
theorem K_roomB {S : CS} {v : Int32} (hn : nOk S) (hI : cI S) (hvk : vOk (vw S 0)) (hok : okR (sF S 0)) (hz : 0 < szR (sF S 0)) : 2 + stC (cmB (vw S 0) 0 (sF S 0)) 4 + gS (bfS (uR S v)) ≤ gS S + 262 := gS_bf (S := uR S v) hn hI hvk hok hz
theorem q_bind {S : CS} (hn : nOk S) (hI : cI S) (hz : 0 < szR (sF S 0)) : sV (bfS S) 0 - sV S 0 = bM (stB (cmB (vw S 0) 0 (sF S 0)) 4) - bM (vw S 0) := by
  rw [← (lk_bf hn hI (by omega)).2.1, vw_M, vw_M]
theorem q_merge {S : CS} (hn : nOk S) (hI : cI S) {l : Nat} (hl : l < 4) : sV (stS (mgS S 0 l) 0 4) 0 - sV S 0 = bM (stB (mgB (vw S 0) l) 4) - bM (vw S 0) := by
  rw [← (lk_mg hn hI hl).2.1, vw_M, vw_M]
theorem ge_pos {r z : Nat} (h1 : 1 ≤ r) (h2 : r ≤ 8) (hz : z ≤ 64) (h : ¬ nI z < nI r) : 0 < z := by
  have h3 : ¬ z < r := fun q => h ((nI_ltI (by omega) (by omega)).mpr q)
  omega
def numN (x : Int32) : Nat := if blN (x >>> (nI 5 &&& 31)) 3 = 0 then blN (x >>> (nI 1 &&& 31)) 64 else blN (x >>> (nI 1 &&& 31)) 13
theorem numN_lt (x : Int32) : numN x < 64 := by
  unfold numN
  split
  · exact bl_lt _ (by omega)
  · have := bl_lt (x >>> (nI 1 &&& 31)) (n := 13) (by omega)
    omega
