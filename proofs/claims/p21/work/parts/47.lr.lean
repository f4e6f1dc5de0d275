/-! the law: what it reads behind each step -/
theorem wv_m1 {S : CS} {x : Nat} (h : ¬ 0 ≤ wv S x) : wv S x = -1 := wd_m1 (d := sF S 0) (V := vw S 0) (x := x) h
set_option maxHeartbeats 2000000 in
set_option maxRecDepth 100000 in
theorem lw_490 {p : Program} {l : Launch} {e : Env} {s : State} {m : MethodId} {below : List Frame} {meth : Method} {c : Code} {b L : Nat} {xs : Nat → Int32} (hL : L ≤ 260) (C0 : lw_At p s m meth c b L xs) {G : hG} (hK0 : hK G s) {A : Nat → Prop} (hA : ∀ q : Nat, s.heap.size ≤ q → A q) (hbA : ¬ A b) {ad : Nat → Nat} {mo lv tb mb gb : Nat} {wa : Nat} {t : Nat} (ht : t < 30) {Q : State → Prop} {S : CS} {hp : HP} (hG9 : gX ad mo lv tb mb gb S hp) {F9 : Nat → Int32} (hw9 : hp wa = some (eI 64 F9)) (hF9 : ∀ n, n < 64 → F9 n = wv S n) {H : Heap} {locs : List Loc} {cells slots : Nat} (hcl : cells ≤ 600130) (hsl : slots ≤ 7301080) (hV0 : hV G hp H) {ls : Array Slot} (hl : lv_has ls 15 [(3, .int (nI t)), (5, .ref wa), (2, .ref mo), (1, .ref (aX ad)), (0, .ref b)]) (kk : ∀ ls : Array Slot, lv_has ls 15 [(3, .int (nI (t + 1))), (2, .ref mo), (1, .ref (aX ad)), (0, .ref b)] → W p l e room_1 s m #[Value.ref b] below meth c H locs cells slots Q (F0 m 22 ls [])) : W p l e room_1 s m #[Value.ref b] below meth c H locs cells slots Q (F0 m 490 ls []) := by
  obtain ⟨hx, hb, hr, hml, hown, hts, hX, hbl, hlocks, hgv⟩ := id C0
  have hF : CallFix p m c cL_law 15 s #[Value.ref b] wsLw RL := ⟨hx, hb, hml, hown, fun w h => hts w (wsLw_in w h)⟩
  obtain ⟨tm, δ, ω, hg, hC, dk, lvl, row, hm⟩ := hG9
  obtain ⟨hI, hoT, hoD, -⟩ := id hg
  have hokd : okR (sF S 0) := hC.ok.1 0
  have hrn : snA (sN S 0) 4 ≤ 4 * 2 := snA_le (fun i hi => hI i hi)
  have hzd := szR_le (sF S 0)
  refine lv_iconst (v := nI 0) hx hb dL_law_490 (by decide) ?_
  refine lv_istore (lv' := [(9, .int (nI 0)), (3, .int (nI t)), (5, .ref wa), (2, .ref mo), (1, .ref (aX ad)), (0, .ref b)]) hx hb dL_law_491 hl (by decide) rfl (fun ls hl => ?_)
  refine lv_iconst (v := nI 0) hx hb dL_law_493 (by decide) ?_
  refine lv_istore (lv' := [(10, .int (nI 0)), (9, .int (nI 0)), (3, .int (nI t)), (5, .ref wa), (2, .ref mo), (1, .ref (aX ad)), (0, .ref b)]) hx hb dL_law_494 hl (by decide) rfl (fun ls hl => ?_)
  refine lv_iconst (v := nI 0) hx hb dL_law_496 (by decide) ?_
  refine lv_istore (lv' := [(11, .int (nI 0)), (10, .int (nI 0)), (9, .int (nI 0)), (3, .int (nI t)), (5, .ref wa), (2, .ref mo), (1, .ref (aX ad)), (0, .ref b)]) hx hb dL_law_497 hl (by decide) rfl (fun ls hl => ?_)
  replace hl : lv_has ls 15 [(11, .int (nI 0)), (10, .int (nI (snA (fun lz => snA (fun r => sdS (sF S 0) (sN S 0) (gC S 0) lz r) (sN S 0 lz)) 0))), (9, .int (nI (snA (sN S 0) 0))), (3, .int (nI t)), (5, .ref wa), (2, .ref mo), (1, .ref (aX ad)), (0, .ref b)] := lv_sub hl [0, 1, 2, 3, 4, 5, 6, 7] rfl
  revert ls
  refine h_loop 4 (fun lz => [(11, .int (nI lz)), (10, .int (nI (snA (fun lz => snA (fun r => sdS (sF S 0) (sN S 0) (gC S 0) lz r) (sN S 0 lz)) lz))), (9, .int (nI (snA (sN S 0) lz))), (3, .int (nI t)), (5, .ref wa), (2, .ref mo), (1, .ref (aX ad)), (0, .ref b)]) (fun _ => True) (fun lz hi499 hI499 ih499 ls hl => ?_) 0 (Nat.zero_le _) trivial
  refine lv_iload hx hb dL_law_499 (lv_at hl 0 rfl) ?_
  refine lv_iconst (v := nI 4) hx hb dL_law_501 (by decide) ?_
  refine h_icmp_ge (a := lz) (b := 4) (tgt := 627) hx hb dL_law_502 (by decide) (by omega) (by omega) (fun c_502 => ?_) (fun c_502 => ?_)
  · obtain rfl : lz = 4 := by omega
    replace hl : lv_has ls 15 [(10, .int (nI (snA (fun lz => snA (fun r => sdS (sF S 0) (sN S 0) (gC S 0) lz r) (sN S 0 lz)) 4))), (9, .int (nI (snA (sN S 0) 4))), (3, .int (nI t)), (5, .ref wa), (2, .ref mo), (1, .ref (aX ad)), (0, .ref b)] := lv_sub hl [1, 2, 3, 4, 5, 6, 7] rfl
    refine lv_iconst (v := nI 0) hx hb dL_law_627 (by decide) ?_
    refine lv_istore (lv' := [(11, .int (nI 0)), (10, .int (nI (snA (fun lz => snA (fun r => sdS (sF S 0) (sN S 0) (gC S 0) lz r) (sN S 0 lz)) 4))), (9, .int (nI (snA (sN S 0) 4))), (3, .int (nI t)), (5, .ref wa), (2, .ref mo), (1, .ref (aX ad)), (0, .ref b)]) hx hb dL_law_628 hl (by decide) rfl (fun ls hl => ?_)
    refine lv_iconst (v := nI 0) hx hb dL_law_630 (by decide) ?_
    refine lv_istore (lv' := [(12, .int (nI 0)), (11, .int (nI 0)), (10, .int (nI (snA (fun lz => snA (fun r => sdS (sF S 0) (sN S 0) (gC S 0) lz r) (sN S 0 lz)) 4))), (9, .int (nI (snA (sN S 0) 4))), (3, .int (nI t)), (5, .ref wa), (2, .ref mo), (1, .ref (aX ad)), (0, .ref b)]) hx hb dL_law_631 hl (by decide) rfl (fun ls hl => ?_)
    refine lv_iconst (v := nI 0) hx hb dL_law_633 (by decide) ?_
    refine lv_istore (lv' := [(13, .int (nI 0)), (12, .int (nI 0)), (11, .int (nI 0)), (10, .int (nI (snA (fun lz => snA (fun r => sdS (sF S 0) (sN S 0) (gC S 0) lz r) (sN S 0 lz)) 4))), (9, .int (nI (snA (sN S 0) 4))), (3, .int (nI t)), (5, .ref wa), (2, .ref mo), (1, .ref (aX ad)), (0, .ref b)]) hx hb dL_law_634 hl (by decide) rfl (fun ls hl => ?_)
    replace hl : lv_has ls 15 [(13, .int (nI 0)), (12, .int (nI (ftW (wv S) 0))), (11, .int (nI (cntB (anyB (sF S 0) (vw S 0)) 0))), (10, .int (nI (snA (fun lz => snA (fun r => sdS (sF S 0) (sN S 0) (gC S 0) lz r) (sN S 0 lz)) 4))), (9, .int (nI (snA (sN S 0) 4))), (3, .int (nI t)), (5, .ref wa), (2, .ref mo), (1, .ref (aX ad)), (0, .ref b)] := lv_sub hl [0, 1, 2, 3, 4, 5, 6, 7, 8, 9] rfl
    revert ls
    refine h_loop 64 (fun n9 => [(13, .int (nI n9)), (12, .int (nI (ftW (wv S) n9))), (11, .int (nI (cntB (anyB (sF S 0) (vw S 0)) n9))), (10, .int (nI (snA (fun lz => snA (fun r => sdS (sF S 0) (sN S 0) (gC S 0) lz r) (sN S 0 lz)) 4))), (9, .int (nI (snA (sN S 0) 4))), (3, .int (nI t)), (5, .ref wa), (2, .ref mo), (1, .ref (aX ad)), (0, .ref b)]) (fun _ => True) (fun n9 hi636 hI636 ih636 ls hl => ?_) 0 (Nat.zero_le _) trivial
    refine lv_iload hx hb dL_law_636 (lv_at hl 0 rfl) ?_
    refine lv_bipush (v := nI 64) hx hb dL_law_638 (by decide) ?_
    refine h_icmp_ge (a := n9) (b := 64) (tgt := 763) hx hb dL_law_640 (by decide) (by omega) (by omega) (fun c_640 => ?_) (fun c_640 => ?_)
    · obtain rfl : n9 = 64 := by omega
      have hst : snA (fun lz => snA (fun r => sdS (sF S 0) (sN S 0) (gC S 0) lz r) (sN S 0 lz)) 4 + szR (sF S 0) = cntB (anyB (sF S 0) (vw S 0)) 64 := stand_all (sF S 0) (vw S 0)
      have hcb := cntB_le (anyB (sF S 0) (vw S 0)) 64
      refine lv_iload hx hb dL_law_763 (lv_at hl 3 rfl) ?_
      refine lv_aload_n hx hb dL_law_765 rfl (lv_at hl 8 rfl) ?_
      refine lv_iconst (v := nI 0) hx hb dL_law_766 (by decide) ?_
      refine h_rdV (As := [.int (nI 0)]) (rest := [.int (nI (snA (fun lz => snA (fun r => sdS (sF S 0) (sN S 0) (gC S 0) lz r) (sN S 0 lz)) 4))]) hF (c_X2_cnt l G hp ad S hC 0 (by omega) (nI (szR (sF S 0))) rfl) 1 (gZl gL_law_X2_count) rfl (by decide +kernel) ⟨Nat.le_of_ble_eq_true rfl, Nat.le_of_ble_eq_true rfl⟩ hK0 hV0 hC.xo rfl rfl rfl hl.1 rfl (Nat.le_of_ble_eq_true rfl) (by show _ ≤ 600130; omega) (by show _ ≤ 7301080; omega) dL_law_767 ?_
      refine h_iaddN hx hb dL_law_770 ?_
      refine lv_iload hx hb dL_law_771 (lv_at hl 2 rfl) ?_
      refine h_icmp_eq (a := snA (fun lz => snA (fun r => sdS (sF S 0) (sN S 0) (gC S 0) lz r) (sN S 0 lz)) 4 + szR (sF S 0)) (b := cntB (anyB (sF S 0) (vw S 0)) 64) (tgt := 778) hx hb dL_law_773 (by decide) (by omega) (by omega) (fun c_773 => ?_) (fun c_773 => absurd hst c_773)
      refine lv_iinc (v := nI (t + 1)) (lv' := [(3, .int (nI (t + 1))), (13, .int (nI 64)), (12, .int (nI (ftW (wv S) 64))), (11, .int (nI (cntB (anyB (sF S 0) (vw S 0)) 64))), (10, .int (nI (snA (fun lz => snA (fun r => sdS (sF S 0) (sN S 0) (gC S 0) lz r) (sN S 0 lz)) 4))), (9, .int (nI (snA (sN S 0) 4))), (5, .ref wa), (2, .ref mo), (1, .ref (aX ad)), (0, .ref b)]) hx hb dL_law_778 hl (k := 5) rfl (nI_add (t) 1) (by decide) rfl (fun ls hl => ?_)
      refine lv_goto (tgt := 22) hx hb dL_law_781 (by decide) ?_
      exact kk ls (lv_sub hl [0, 7, 8, 9] rfl)
    · have hft := ft_le (wv S) n9
      refine lv_aload_n hx hb dL_law_643 rfl (lv_at hl 7 rfl) ?_
      refine lv_iload hx hb dL_law_644 (lv_at hl 0 rfl) ?_
      refine h_rdV (As := [.int (nI n9)]) (rest := []) hF (c_X3_word l G hp mo dk lv lvl row (sR S) tm (sD S) (sF S 0) δ (vw S 0) ω hm hoT hoD hokd n9 (by omega)) 1 (gZl gL_law_X3_word) rfl (by decide +kernel) ⟨Nat.le_of_ble_eq_true rfl, Nat.le_of_ble_eq_true rfl⟩ hK0 hV0 hm.cmo rfl rfl rfl hl.1 rfl (Nat.le_of_ble_eq_true rfl) (by show _ ≤ 600130; omega) (by show _ ≤ 7301080; omega) dL_law_646 ?_
      refine lv_aload hx hb dL_law_649 (lv_at hl 6 rfl) ?_
      refine lv_iload hx hb dL_law_651 (lv_at hl 0 rfl) ?_
      refine h_ialdS (i := n9) (x := (wv S n9)) (hF9 n9 (by omega)) hx hb hK0 hV0 hw9 (by omega) (by omega) dL_law_653 ?_
      refine lv_icmp_ne (tgt := 668) hx hb dL_law_654 (by decide) (fun c_654 => absurd rfl c_654) (fun c_654 => ?_)
      have hdr : dtS (sF S 0) (sN S 0) (gC S 0) n9 ≤ snA (sN S 0) 4 := dt_runs _ _ _ _
      refine lv_aload_n hx hb dL_law_657 rfl (lv_at hl 8 rfl) ?_
      refine lv_iload hx hb dL_law_658 (lv_at hl 0 rfl) ?_
      refine h_rdV (As := [.int (nI n9)]) (rest := []) hF (c_X2_dts l G hp ad S hC n9 (by omega) (dtS (sF S 0) (sN S 0) (gC S 0) n9) rfl) 1 (gZl gL_law_X2_detours) rfl (by decide +kernel) ⟨Nat.le_of_ble_eq_true rfl, Nat.le_of_ble_eq_true rfl⟩ hK0 hV0 hC.xo rfl rfl rfl hl.1 rfl (Nat.le_of_ble_eq_true rfl) (by show _ ≤ 600130; omega) (by show _ ≤ 7301080; omega) dL_law_660 ?_
      refine lv_iload hx hb dL_law_663 (lv_at hl 4 rfl) ?_
      refine h_icmp_le (a := dtS (sF S 0) (sN S 0) (gC S 0) n9) (b := snA (sN S 0) 4) (tgt := 670) hx hb dL_law_665 (by decide) (by omega) (by omega) (fun c_665 => ?_) (fun c_665 => absurd hdr c_665)
      refine lv_iload hx hb dL_law_670 (lv_at hl 2 rfl) ?_
      refine lv_aload_n hx hb dL_law_672 rfl (lv_at hl 7 rfl) ?_
      refine lv_iload hx hb dL_law_673 (lv_at hl 0 rfl) ?_
      refine h_rdV (As := [.int (nI n9)]) (rest := [.int (nI (cntB (anyB (sF S 0) (vw S 0)) n9))]) hF (c_X3_latest l G hp mo dk lv lvl row (sR S) tm (sD S) (sF S 0) δ (vw S 0) ω hm hoT hoD hokd n9 (by omega)) 1 (gZl gL_law_X3_latest) rfl (by decide +kernel) ⟨Nat.le_of_ble_eq_true rfl, Nat.le_of_ble_eq_true rfl⟩ hK0 hV0 hm.cmo rfl rfl rfl hl.1 rfl (Nat.le_of_ble_eq_true rfl) (by show _ ≤ 600130; omega) (by show _ ≤ 7301080; omega) dL_law_675 ?_
      rcases hS9 : laS (sF S 0) δ (vw S 0) ω n9 with _ | t9
      · refine lv_ifnonnullN hx hb dL_law_678 ?_
        refine lv_iconst (v := nI 0) hx hb dL_law_681 (by decide) ?_
        refine lv_goto (tgt := 686) hx hb dL_law_682 (by decide) ?_
        refine h_iaddN hx hb dL_law_686 ?_
        refine lv_istore (lv' := [(11, .int (nI (cntB (anyB (sF S 0) (vw S 0)) n9 + 0))), (13, .int (nI n9)), (12, .int (nI (ftW (wv S) n9))), (10, .int (nI (snA (fun lz => snA (fun r => sdS (sF S 0) (sN S 0) (gC S 0) lz r) (sN S 0 lz)) 4))), (9, .int (nI (snA (sN S 0) 4))), (3, .int (nI t)), (5, .ref wa), (2, .ref mo), (1, .ref (aX ad)), (0, .ref b)]) hx hb dL_law_687 hl (by decide) rfl (fun ls hl => ?_)
        refine lv_aload hx hb dL_law_689 (lv_at hl 6 rfl) ?_
        refine lv_iload hx hb dL_law_691 (lv_at hl 1 rfl) ?_
        refine h_ialdS (i := n9) (x := (wv S n9)) (hF9 n9 (by omega)) hx hb hK0 hV0 hw9 (by omega) (by omega) dL_law_693 ?_
        refine lv_if_lt (tgt := 710) hx hb dL_law_694 (by decide) (fun c_694 => ?_) (fun c_694 => ?_)
        · have hneg : ¬ 0 ≤ wv S n9 := Int32.not_le.mpr c_694
          refine lv_aload hx hb dL_law_710 (lv_at hl 6 rfl) ?_
          refine lv_iload hx hb dL_law_712 (lv_at hl 1 rfl) ?_
          refine h_ialdS (i := n9) (x := (wv S n9)) (hF9 n9 (by omega)) hx hb hK0 hV0 hw9 (by omega) (by omega) dL_law_714 ?_
          refine lv_if_lt (tgt := 724) hx hb dL_law_715 (by decide) (fun c_715 => ?_) (fun c_715 => absurd c_694 c_715)
          refine lv_aload hx hb dL_law_724 (lv_at hl 6 rfl) ?_
          refine lv_iload hx hb dL_law_726 (lv_at hl 1 rfl) ?_
          refine h_ialdS (i := n9) (x := (wv S n9)) (hF9 n9 (by omega)) hx hb hK0 hV0 hw9 (by omega) (by omega) dL_law_728 ?_
          refine lv_aload_n hx hb dL_law_729 rfl (lv_at hl 8 rfl) ?_
          refine lv_iload hx hb dL_law_730 (lv_at hl 1 rfl) ?_
          refine h_rdV (As := [.int (nI n9)]) (rest := [.int (wv S n9)]) hF (c_X2_nx l G hp ad S hC n9 (by omega) (nxS (wv S) n9) rfl) 1 (gZl gL_law_X2_next) rfl (by decide +kernel) ⟨Nat.le_of_ble_eq_true rfl, Nat.le_of_ble_eq_true rfl⟩ hK0 hV0 hC.xo rfl rfl rfl hl.1 rfl (Nat.le_of_ble_eq_true rfl) (by show _ ≤ 600130; omega) (by show _ ≤ 7301080; omega) dL_law_732 ?_
          refine lv_iload hx hb dL_law_735 (lv_at hl 1 rfl) ?_
          refine lv_icmp_ne (tgt := 751) hx hb dL_law_737 (by decide) (fun c_737 => ?_) (fun c_737 => absurd c_737 (nx_self (by omega) hneg))
          refine lv_iconst (v := (-1)) hx hb dL_law_751 (by decide) ?_
          refine lv_icmp_eq (tgt := 757) hx hb dL_law_752 (by decide) (fun c_752 => ?_) (fun c_752 => absurd (wv_m1 hneg) c_752)
          refine lv_iinc (v := nI (n9 + 1)) (lv' := [(13, .int (nI (n9 + 1))), (11, .int (nI (cntB (anyB (sF S 0) (vw S 0)) n9 + 0))), (12, .int (nI (ftW (wv S) n9))), (10, .int (nI (snA (fun lz => snA (fun r => sdS (sF S 0) (sN S 0) (gC S 0) lz r) (sN S 0 lz)) 4))), (9, .int (nI (snA (sN S 0) 4))), (3, .int (nI t)), (5, .ref wa), (2, .ref mo), (1, .ref (aX ad)), (0, .ref b)]) hx hb dL_law_757 hl (k := 1) rfl (nI_add (n9) 1) (by decide) rfl (fun ls hl => ?_)
          refine lv_goto (tgt := 636) hx hb dL_law_760 (by decide) ?_
          have ef : ftW (wv S) (n9 + 1) = ftW (wv S) n9 := ft_n hneg
          have ec : cntB (anyB (sF S 0) (vw S 0)) (n9 + 1) = cntB (anyB (sF S 0) (vw S 0)) n9 + 0 := cb_n (la_non hS9)
          exact ih636 (by omega) trivial ls (by show lv_has ls 15 [(13, .int (nI (n9 + 1))), (12, .int (nI (ftW (wv S) (n9 + 1)))), (11, .int (nI (cntB (anyB (sF S 0) (vw S 0)) (n9 + 1)))), (10, .int (nI (snA (fun lz => snA (fun r => sdS (sF S 0) (sN S 0) (gC S 0) lz r) (sN S 0 lz)) 4))), (9, .int (nI (snA (sN S 0) 4))), (3, .int (nI t)), (5, .ref wa), (2, .ref mo), (1, .ref (aX ad)), (0, .ref b)]; rw [ef, ec]; exact lv_sub hl [0, 2, 1, 3, 4, 5, 6, 7, 8, 9] rfl)
        · have hpos : 0 ≤ wv S n9 := Int32.not_lt.mp c_694
          refine lv_aload_n hx hb dL_law_697 rfl (lv_at hl 8 rfl) ?_
          refine lv_iload hx hb dL_law_698 (lv_at hl 2 rfl) ?_
          refine h_rdV (As := [.int (nI (ftW (wv S) n9))]) (rest := []) hF (c_X2_nx l G hp ad S hC (ftW (wv S) n9) (by omega) (nI n9) (ft_nx (by omega) hpos)) 1 (gZl gL_law_X2_next) rfl (by decide +kernel) ⟨Nat.le_of_ble_eq_true rfl, Nat.le_of_ble_eq_true rfl⟩ hK0 hV0 hC.xo rfl rfl rfl hl.1 rfl (Nat.le_of_ble_eq_true rfl) (by show _ ≤ 600130; omega) (by show _ ≤ 7301080; omega) dL_law_700 ?_
          refine lv_iload hx hb dL_law_703 (lv_at hl 1 rfl) ?_
          refine h_icmp_eq (a := n9) (b := n9) (tgt := 710) hx hb dL_law_705 (by decide) (by omega) (by omega) (fun c_705 => ?_) (fun c_705 => absurd rfl c_705)
          refine lv_aload hx hb dL_law_710 (lv_at hl 6 rfl) ?_
          refine lv_iload hx hb dL_law_712 (lv_at hl 1 rfl) ?_
          refine h_ialdS (i := n9) (x := (wv S n9)) (hF9 n9 (by omega)) hx hb hK0 hV0 hw9 (by omega) (by omega) dL_law_714 ?_
          refine lv_if_lt (tgt := 724) hx hb dL_law_715 (by decide) (fun c_715 => absurd c_715 c_694) (fun c_715 => ?_)
          refine lv_iload hx hb dL_law_718 (lv_at hl 1 rfl) ?_
          refine lv_iconst (v := nI 1) hx hb dL_law_720 (by decide) ?_
          refine h_iaddN hx hb dL_law_721 ?_
          refine lv_istore (lv' := [(12, .int (nI (n9 + 1))), (11, .int (nI (cntB (anyB (sF S 0) (vw S 0)) n9 + 0))), (13, .int (nI n9)), (10, .int (nI (snA (fun lz => snA (fun r => sdS (sF S 0) (sN S 0) (gC S 0) lz r) (sN S 0 lz)) 4))), (9, .int (nI (snA (sN S 0) 4))), (3, .int (nI t)), (5, .ref wa), (2, .ref mo), (1, .ref (aX ad)), (0, .ref b)]) hx hb dL_law_722 hl (by decide) rfl (fun ls hl => ?_)
          refine lv_aload hx hb dL_law_724 (lv_at hl 6 rfl) ?_
          refine lv_iload hx hb dL_law_726 (lv_at hl 2 rfl) ?_
          refine h_ialdS (i := n9) (x := (wv S n9)) (hF9 n9 (by omega)) hx hb hK0 hV0 hw9 (by omega) (by omega) dL_law_728 ?_
          refine lv_aload_n hx hb dL_law_729 rfl (lv_at hl 8 rfl) ?_
          refine lv_iload hx hb dL_law_730 (lv_at hl 2 rfl) ?_
          refine h_rdV (As := [.int (nI n9)]) (rest := [.int (wv S n9)]) hF (c_X2_nx l G hp ad S hC n9 (by omega) (nI n9) (sf_nx (by omega) hpos)) 1 (gZl gL_law_X2_next) rfl (by decide +kernel) ⟨Nat.le_of_ble_eq_true rfl, Nat.le_of_ble_eq_true rfl⟩ hK0 hV0 hC.xo rfl rfl rfl hl.1 rfl (Nat.le_of_ble_eq_true rfl) (by show _ ≤ 600130; omega) (by show _ ≤ 7301080; omega) dL_law_732 ?_
          refine lv_iload hx hb dL_law_735 (lv_at hl 2 rfl) ?_
          refine h_icmp_ne (a := n9) (b := n9) (tgt := 751) hx hb dL_law_737 (by decide) (by omega) (by omega) (fun c_737 => absurd rfl c_737) (fun c_737 => ?_)
          refine lv_aload_n hx hb dL_law_740 rfl (lv_at hl 8 rfl) ?_
          refine lv_iload hx hb dL_law_741 (lv_at hl 2 rfl) ?_
          refine lv_iload hx hb dL_law_743 (lv_at hl 2 rfl) ?_
          refine h_rdV (As := [.int (nI n9), .int (nI n9)]) (rest := [.int (wv S n9)]) hF (c_X2_sm l G hp ad S hC n9 n9 (Nat.le_refl _) (by omega) (wv S n9) (sm_self hpos)) 2 (gZl gL_law_X2_sum) rfl (by decide +kernel) ⟨Nat.le_of_ble_eq_true rfl, Nat.le_of_ble_eq_true rfl⟩ hK0 hV0 hC.xo rfl rfl rfl hl.1 rfl (Nat.le_of_ble_eq_true rfl) (by show _ ≤ 600130; omega) (by show _ ≤ 7301080; omega) dL_law_745 ?_
          refine lv_goto (tgt := 752) hx hb dL_law_748 (by decide) ?_
          refine lv_icmp_eq (tgt := 757) hx hb dL_law_752 (by decide) (fun c_752 => ?_) (fun c_752 => absurd rfl c_752)
          refine lv_iinc (v := nI (n9 + 1)) (lv' := [(13, .int (nI (n9 + 1))), (12, .int (nI (n9 + 1))), (11, .int (nI (cntB (anyB (sF S 0) (vw S 0)) n9 + 0))), (10, .int (nI (snA (fun lz => snA (fun r => sdS (sF S 0) (sN S 0) (gC S 0) lz r) (sN S 0 lz)) 4))), (9, .int (nI (snA (sN S 0) 4))), (3, .int (nI t)), (5, .ref wa), (2, .ref mo), (1, .ref (aX ad)), (0, .ref b)]) hx hb dL_law_757 hl (k := 2) rfl (nI_add (n9) 1) (by decide) rfl (fun ls hl => ?_)
          refine lv_goto (tgt := 636) hx hb dL_law_760 (by decide) ?_
          have ef : ftW (wv S) (n9 + 1) = n9 + 1 := ft_y hpos
          have ec : cntB (anyB (sF S 0) (vw S 0)) (n9 + 1) = cntB (anyB (sF S 0) (vw S 0)) n9 + 0 := cb_n (la_non hS9)
          exact ih636 (by omega) trivial ls (by show lv_has ls 15 [(13, .int (nI (n9 + 1))), (12, .int (nI (ftW (wv S) (n9 + 1)))), (11, .int (nI (cntB (anyB (sF S 0) (vw S 0)) (n9 + 1)))), (10, .int (nI (snA (fun lz => snA (fun r => sdS (sF S 0) (sN S 0) (gC S 0) lz r) (sN S 0 lz)) 4))), (9, .int (nI (snA (sN S 0) 4))), (3, .int (nI t)), (5, .ref wa), (2, .ref mo), (1, .ref (aX ad)), (0, .ref b)]; rw [ef, ec]; exact lv_sub hl [0, 1, 2, 3, 4, 5, 6, 7, 8, 9] rfl)
      · refine lv_ifnonnull (tgt := 685) hx hb dL_law_678 (by decide) ?_
        refine lv_iconst (v := nI 1) hx hb dL_law_685 (by decide) ?_
        refine h_iaddN hx hb dL_law_686 ?_
        refine lv_istore (lv' := [(11, .int (nI (cntB (anyB (sF S 0) (vw S 0)) n9 + 1))), (13, .int (nI n9)), (12, .int (nI (ftW (wv S) n9))), (10, .int (nI (snA (fun lz => snA (fun r => sdS (sF S 0) (sN S 0) (gC S 0) lz r) (sN S 0 lz)) 4))), (9, .int (nI (snA (sN S 0) 4))), (3, .int (nI t)), (5, .ref wa), (2, .ref mo), (1, .ref (aX ad)), (0, .ref b)]) hx hb dL_law_687 hl (by decide) rfl (fun ls hl => ?_)
        refine lv_aload hx hb dL_law_689 (lv_at hl 6 rfl) ?_
        refine lv_iload hx hb dL_law_691 (lv_at hl 1 rfl) ?_
        refine h_ialdS (i := n9) (x := (wv S n9)) (hF9 n9 (by omega)) hx hb hK0 hV0 hw9 (by omega) (by omega) dL_law_693 ?_
        refine lv_if_lt (tgt := 710) hx hb dL_law_694 (by decide) (fun c_694 => ?_) (fun c_694 => ?_)
        · have hneg : ¬ 0 ≤ wv S n9 := Int32.not_le.mpr c_694
          refine lv_aload hx hb dL_law_710 (lv_at hl 6 rfl) ?_
          refine lv_iload hx hb dL_law_712 (lv_at hl 1 rfl) ?_
          refine h_ialdS (i := n9) (x := (wv S n9)) (hF9 n9 (by omega)) hx hb hK0 hV0 hw9 (by omega) (by omega) dL_law_714 ?_
          refine lv_if_lt (tgt := 724) hx hb dL_law_715 (by decide) (fun c_715 => ?_) (fun c_715 => absurd c_694 c_715)
          refine lv_aload hx hb dL_law_724 (lv_at hl 6 rfl) ?_
          refine lv_iload hx hb dL_law_726 (lv_at hl 1 rfl) ?_
          refine h_ialdS (i := n9) (x := (wv S n9)) (hF9 n9 (by omega)) hx hb hK0 hV0 hw9 (by omega) (by omega) dL_law_728 ?_
          refine lv_aload_n hx hb dL_law_729 rfl (lv_at hl 8 rfl) ?_
          refine lv_iload hx hb dL_law_730 (lv_at hl 1 rfl) ?_
          refine h_rdV (As := [.int (nI n9)]) (rest := [.int (wv S n9)]) hF (c_X2_nx l G hp ad S hC n9 (by omega) (nxS (wv S) n9) rfl) 1 (gZl gL_law_X2_next) rfl (by decide +kernel) ⟨Nat.le_of_ble_eq_true rfl, Nat.le_of_ble_eq_true rfl⟩ hK0 hV0 hC.xo rfl rfl rfl hl.1 rfl (Nat.le_of_ble_eq_true rfl) (by show _ ≤ 600130; omega) (by show _ ≤ 7301080; omega) dL_law_732 ?_
          refine lv_iload hx hb dL_law_735 (lv_at hl 1 rfl) ?_
          refine lv_icmp_ne (tgt := 751) hx hb dL_law_737 (by decide) (fun c_737 => ?_) (fun c_737 => absurd c_737 (nx_self (by omega) hneg))
          refine lv_iconst (v := (-1)) hx hb dL_law_751 (by decide) ?_
          refine lv_icmp_eq (tgt := 757) hx hb dL_law_752 (by decide) (fun c_752 => ?_) (fun c_752 => absurd (wv_m1 hneg) c_752)
          refine lv_iinc (v := nI (n9 + 1)) (lv' := [(13, .int (nI (n9 + 1))), (11, .int (nI (cntB (anyB (sF S 0) (vw S 0)) n9 + 1))), (12, .int (nI (ftW (wv S) n9))), (10, .int (nI (snA (fun lz => snA (fun r => sdS (sF S 0) (sN S 0) (gC S 0) lz r) (sN S 0 lz)) 4))), (9, .int (nI (snA (sN S 0) 4))), (3, .int (nI t)), (5, .ref wa), (2, .ref mo), (1, .ref (aX ad)), (0, .ref b)]) hx hb dL_law_757 hl (k := 1) rfl (nI_add (n9) 1) (by decide) rfl (fun ls hl => ?_)
          refine lv_goto (tgt := 636) hx hb dL_law_760 (by decide) ?_
          have ef : ftW (wv S) (n9 + 1) = ftW (wv S) n9 := ft_n hneg
          have ec : cntB (anyB (sF S 0) (vw S 0)) (n9 + 1) = cntB (anyB (sF S 0) (vw S 0)) n9 + 1 := cb_y (la_any hS9)
          exact ih636 (by omega) trivial ls (by show lv_has ls 15 [(13, .int (nI (n9 + 1))), (12, .int (nI (ftW (wv S) (n9 + 1)))), (11, .int (nI (cntB (anyB (sF S 0) (vw S 0)) (n9 + 1)))), (10, .int (nI (snA (fun lz => snA (fun r => sdS (sF S 0) (sN S 0) (gC S 0) lz r) (sN S 0 lz)) 4))), (9, .int (nI (snA (sN S 0) 4))), (3, .int (nI t)), (5, .ref wa), (2, .ref mo), (1, .ref (aX ad)), (0, .ref b)]; rw [ef, ec]; exact lv_sub hl [0, 2, 1, 3, 4, 5, 6, 7, 8, 9] rfl)
        · have hpos : 0 ≤ wv S n9 := Int32.not_lt.mp c_694
          refine lv_aload_n hx hb dL_law_697 rfl (lv_at hl 8 rfl) ?_
          refine lv_iload hx hb dL_law_698 (lv_at hl 2 rfl) ?_
          refine h_rdV (As := [.int (nI (ftW (wv S) n9))]) (rest := []) hF (c_X2_nx l G hp ad S hC (ftW (wv S) n9) (by omega) (nI n9) (ft_nx (by omega) hpos)) 1 (gZl gL_law_X2_next) rfl (by decide +kernel) ⟨Nat.le_of_ble_eq_true rfl, Nat.le_of_ble_eq_true rfl⟩ hK0 hV0 hC.xo rfl rfl rfl hl.1 rfl (Nat.le_of_ble_eq_true rfl) (by show _ ≤ 600130; omega) (by show _ ≤ 7301080; omega) dL_law_700 ?_
          refine lv_iload hx hb dL_law_703 (lv_at hl 1 rfl) ?_
          refine h_icmp_eq (a := n9) (b := n9) (tgt := 710) hx hb dL_law_705 (by decide) (by omega) (by omega) (fun c_705 => ?_) (fun c_705 => absurd rfl c_705)
          refine lv_aload hx hb dL_law_710 (lv_at hl 6 rfl) ?_
          refine lv_iload hx hb dL_law_712 (lv_at hl 1 rfl) ?_
          refine h_ialdS (i := n9) (x := (wv S n9)) (hF9 n9 (by omega)) hx hb hK0 hV0 hw9 (by omega) (by omega) dL_law_714 ?_
          refine lv_if_lt (tgt := 724) hx hb dL_law_715 (by decide) (fun c_715 => absurd c_715 c_694) (fun c_715 => ?_)
          refine lv_iload hx hb dL_law_718 (lv_at hl 1 rfl) ?_
          refine lv_iconst (v := nI 1) hx hb dL_law_720 (by decide) ?_
          refine h_iaddN hx hb dL_law_721 ?_
          refine lv_istore (lv' := [(12, .int (nI (n9 + 1))), (11, .int (nI (cntB (anyB (sF S 0) (vw S 0)) n9 + 1))), (13, .int (nI n9)), (10, .int (nI (snA (fun lz => snA (fun r => sdS (sF S 0) (sN S 0) (gC S 0) lz r) (sN S 0 lz)) 4))), (9, .int (nI (snA (sN S 0) 4))), (3, .int (nI t)), (5, .ref wa), (2, .ref mo), (1, .ref (aX ad)), (0, .ref b)]) hx hb dL_law_722 hl (by decide) rfl (fun ls hl => ?_)
          refine lv_aload hx hb dL_law_724 (lv_at hl 6 rfl) ?_
          refine lv_iload hx hb dL_law_726 (lv_at hl 2 rfl) ?_
          refine h_ialdS (i := n9) (x := (wv S n9)) (hF9 n9 (by omega)) hx hb hK0 hV0 hw9 (by omega) (by omega) dL_law_728 ?_
          refine lv_aload_n hx hb dL_law_729 rfl (lv_at hl 8 rfl) ?_
          refine lv_iload hx hb dL_law_730 (lv_at hl 2 rfl) ?_
          refine h_rdV (As := [.int (nI n9)]) (rest := [.int (wv S n9)]) hF (c_X2_nx l G hp ad S hC n9 (by omega) (nI n9) (sf_nx (by omega) hpos)) 1 (gZl gL_law_X2_next) rfl (by decide +kernel) ⟨Nat.le_of_ble_eq_true rfl, Nat.le_of_ble_eq_true rfl⟩ hK0 hV0 hC.xo rfl rfl rfl hl.1 rfl (Nat.le_of_ble_eq_true rfl) (by show _ ≤ 600130; omega) (by show _ ≤ 7301080; omega) dL_law_732 ?_
          refine lv_iload hx hb dL_law_735 (lv_at hl 2 rfl) ?_
          refine h_icmp_ne (a := n9) (b := n9) (tgt := 751) hx hb dL_law_737 (by decide) (by omega) (by omega) (fun c_737 => absurd rfl c_737) (fun c_737 => ?_)
          refine lv_aload_n hx hb dL_law_740 rfl (lv_at hl 8 rfl) ?_
          refine lv_iload hx hb dL_law_741 (lv_at hl 2 rfl) ?_
          refine lv_iload hx hb dL_law_743 (lv_at hl 2 rfl) ?_
          refine h_rdV (As := [.int (nI n9), .int (nI n9)]) (rest := [.int (wv S n9)]) hF (c_X2_sm l G hp ad S hC n9 n9 (Nat.le_refl _) (by omega) (wv S n9) (sm_self hpos)) 2 (gZl gL_law_X2_sum) rfl (by decide +kernel) ⟨Nat.le_of_ble_eq_true rfl, Nat.le_of_ble_eq_true rfl⟩ hK0 hV0 hC.xo rfl rfl rfl hl.1 rfl (Nat.le_of_ble_eq_true rfl) (by show _ ≤ 600130; omega) (by show _ ≤ 7301080; omega) dL_law_745 ?_
          refine lv_goto (tgt := 752) hx hb dL_law_748 (by decide) ?_
          refine lv_icmp_eq (tgt := 757) hx hb dL_law_752 (by decide) (fun c_752 => ?_) (fun c_752 => absurd rfl c_752)
          refine lv_iinc (v := nI (n9 + 1)) (lv' := [(13, .int (nI (n9 + 1))), (12, .int (nI (n9 + 1))), (11, .int (nI (cntB (anyB (sF S 0) (vw S 0)) n9 + 1))), (10, .int (nI (snA (fun lz => snA (fun r => sdS (sF S 0) (sN S 0) (gC S 0) lz r) (sN S 0 lz)) 4))), (9, .int (nI (snA (sN S 0) 4))), (3, .int (nI t)), (5, .ref wa), (2, .ref mo), (1, .ref (aX ad)), (0, .ref b)]) hx hb dL_law_757 hl (k := 2) rfl (nI_add (n9) 1) (by decide) rfl (fun ls hl => ?_)
          refine lv_goto (tgt := 636) hx hb dL_law_760 (by decide) ?_
          have ef : ftW (wv S) (n9 + 1) = n9 + 1 := ft_y hpos
          have ec : cntB (anyB (sF S 0) (vw S 0)) (n9 + 1) = cntB (anyB (sF S 0) (vw S 0)) n9 + 1 := cb_y (la_any hS9)
          exact ih636 (by omega) trivial ls (by show lv_has ls 15 [(13, .int (nI (n9 + 1))), (12, .int (nI (ftW (wv S) (n9 + 1)))), (11, .int (nI (cntB (anyB (sF S 0) (vw S 0)) (n9 + 1)))), (10, .int (nI (snA (fun lz => snA (fun r => sdS (sF S 0) (sN S 0) (gC S 0) lz r) (sN S 0 lz)) 4))), (9, .int (nI (snA (sN S 0) 4))), (3, .int (nI t)), (5, .ref wa), (2, .ref mo), (1, .ref (aX ad)), (0, .ref b)]; rw [ef, ec]; exact lv_sub hl [0, 1, 2, 3, 4, 5, 6, 7, 8, 9] rfl)
  · have hIl := hI lz (by omega)
    refine lv_aload_n hx hb dL_law_505 rfl (lv_at hl 6 rfl) ?_
    refine lv_iload hx hb dL_law_506 (lv_at hl 0 rfl) ?_
    refine lv_iconst (v := nI 0) hx hb dL_law_508 (by decide) ?_
    refine h_rdV (As := [.int (nI lz), .int (nI 0)]) (rest := []) hF (c_X2_lvl l G hp ad S hC lz (by omega) (sN S 0 lz) rfl) 2 (gZl gL_law_X2_level) rfl (by decide +kernel) ⟨Nat.le_of_ble_eq_true rfl, Nat.le_of_ble_eq_true rfl⟩ hK0 hV0 hC.xo rfl rfl rfl hl.1 rfl (Nat.le_of_ble_eq_true rfl) (by show _ ≤ 600130; omega) (by show _ ≤ 7301080; omega) dL_law_509 ?_
    refine lv_istore (lv' := [(12, .int (nI (sN S 0 lz))), (11, .int (nI lz)), (10, .int (nI (snA (fun lz => snA (fun r => sdS (sF S 0) (sN S 0) (gC S 0) lz r) (sN S 0 lz)) lz))), (9, .int (nI (snA (sN S 0) lz))), (3, .int (nI t)), (5, .ref wa), (2, .ref mo), (1, .ref (aX ad)), (0, .ref b)]) hx hb dL_law_512 hl (by decide) rfl (fun ls hl => ?_)
    refine lv_iload hx hb dL_law_514 (lv_at hl 0 rfl) ?_
    refine lv_iconst (v := nI 2) hx hb dL_law_516 (by decide) ?_
    refine h_icmp_le (a := sN S 0 lz) (b := 2) (tgt := 522) hx hb dL_law_517 (by decide) (by omega) (by omega) (fun c_517 => ?_) (fun c_517 => absurd hIl c_517)
    refine lv_iload hx hb dL_law_522 (lv_at hl 3 rfl) ?_
    refine lv_iload hx hb dL_law_524 (lv_at hl 0 rfl) ?_
    refine h_iaddN hx hb dL_law_526 ?_
    refine lv_istore (lv' := [(9, .int (nI (snA (sN S 0) lz + sN S 0 lz))), (12, .int (nI (sN S 0 lz))), (11, .int (nI lz)), (10, .int (nI (snA (fun lz => snA (fun r => sdS (sF S 0) (sN S 0) (gC S 0) lz r) (sN S 0 lz)) lz))), (3, .int (nI t)), (5, .ref wa), (2, .ref mo), (1, .ref (aX ad)), (0, .ref b)]) hx hb dL_law_527 hl (by decide) rfl (fun ls hl => ?_)
    refine lv_iconst (v := nI 0) hx hb dL_law_529 (by decide) ?_
    refine lv_istore (lv' := [(13, .int (nI 0)), (9, .int (nI (snA (sN S 0) lz + sN S 0 lz))), (12, .int (nI (sN S 0 lz))), (11, .int (nI lz)), (10, .int (nI (snA (fun lz => snA (fun r => sdS (sF S 0) (sN S 0) (gC S 0) lz r) (sN S 0 lz)) lz))), (3, .int (nI t)), (5, .ref wa), (2, .ref mo), (1, .ref (aX ad)), (0, .ref b)]) hx hb dL_law_530 hl (by decide) rfl (fun ls hl => ?_)
    have e0 : snA (fun lz => snA (fun r => sdS (sF S 0) (sN S 0) (gC S 0) lz r) (sN S 0 lz)) lz + snA (fun r => sdS (sF S 0) (sN S 0) (gC S 0) lz r) 0 = snA (fun lz => snA (fun r => sdS (sF S 0) (sN S 0) (gC S 0) lz r) (sN S 0 lz)) lz := rfl
    replace hl : lv_has ls 15 [(13, .int (nI 0)), (10, .int (nI (snA (fun lz => snA (fun r => sdS (sF S 0) (sN S 0) (gC S 0) lz r) (sN S 0 lz)) lz + snA (fun r => sdS (sF S 0) (sN S 0) (gC S 0) lz r) 0))), (12, .int (nI (sN S 0 lz))), (11, .int (nI lz)), (9, .int (nI (snA (sN S 0) lz + sN S 0 lz))), (3, .int (nI t)), (5, .ref wa), (2, .ref mo), (1, .ref (aX ad)), (0, .ref b)] := by rw [e0]; exact lv_sub hl [0, 4, 2, 3, 1, 5, 6, 7, 8, 9] rfl
    revert ls
    refine h_loop (sN S 0 lz) (fun r => [(13, .int (nI r)), (10, .int (nI (snA (fun lz => snA (fun r => sdS (sF S 0) (sN S 0) (gC S 0) lz r) (sN S 0 lz)) lz + snA (fun r => sdS (sF S 0) (sN S 0) (gC S 0) lz r) r))), (12, .int (nI (sN S 0 lz))), (11, .int (nI lz)), (9, .int (nI (snA (sN S 0) lz + sN S 0 lz))), (3, .int (nI t)), (5, .ref wa), (2, .ref mo), (1, .ref (aX ad)), (0, .ref b)]) (fun _ => True) (fun r hi532 hI532 ih532 ls hl => ?_) 0 (Nat.zero_le _) trivial
    refine lv_iload hx hb dL_law_532 (lv_at hl 0 rfl) ?_
    refine lv_iload hx hb dL_law_534 (lv_at hl 2 rfl) ?_
    refine h_icmp_ge (a := r) (b := sN S 0 lz) (tgt := 621) hx hb dL_law_536 (by decide) (by omega) (by omega) (fun c_536 => ?_) (fun c_536 => ?_)
    · obtain rfl : r = sN S 0 lz := by omega
      have e9 : snA (fun lz => snA (fun r => sdS (sF S 0) (sN S 0) (gC S 0) lz r) (sN S 0 lz)) (lz + 1) = snA (fun lz => snA (fun r => sdS (sF S 0) (sN S 0) (gC S 0) lz r) (sN S 0 lz)) lz + snA (fun r => sdS (sF S 0) (sN S 0) (gC S 0) lz r) (sN S 0 lz) := rfl
      replace hl : lv_has ls 15 [(10, .int (nI (snA (fun lz => snA (fun r => sdS (sF S 0) (sN S 0) (gC S 0) lz r) (sN S 0 lz)) (lz + 1)))), (9, .int (nI (snA (sN S 0) (lz + 1)))), (11, .int (nI lz)), (3, .int (nI t)), (5, .ref wa), (2, .ref mo), (1, .ref (aX ad)), (0, .ref b)] := by rw [e9]; exact lv_sub hl [1, 4, 3, 5, 6, 7, 8, 9] rfl
      refine lv_iinc (v := nI (lz + 1)) (lv' := [(11, .int (nI (lz + 1))), (10, .int (nI (snA (fun lz => snA (fun r => sdS (sF S 0) (sN S 0) (gC S 0) lz r) (sN S 0 lz)) (lz + 1)))), (9, .int (nI (snA (sN S 0) (lz + 1)))), (3, .int (nI t)), (5, .ref wa), (2, .ref mo), (1, .ref (aX ad)), (0, .ref b)]) hx hb dL_law_621 hl (k := 2) rfl (nI_add (lz) 1) (by decide) rfl (fun ls hl => ?_)
      refine lv_goto (tgt := 499) hx hb dL_law_624 (by decide) ?_
      exact ih499 (by omega) trivial ls (lv_sub hl [0, 1, 2, 3, 4, 5, 6, 7] rfl)
    · have hps : 0 < szR (gC S 0 lz r) := hm.pos (l := lz) (r := r) (by omega) (show r < sN S 0 lz by omega)
      have hsd : sdS (sF S 0) (sN S 0) (gC S 0) lz r ≤ szR (gC S 0 lz r) := sd_le (sF S 0) (vw S 0) lz r
      have hsz := szR_le (gC S 0 lz r)
      have htb := tb_le (gC S 0 lz r)
      refine lv_aload_n hx hb dL_law_539 rfl (lv_at hl 8 rfl) ?_
      refine lv_iload hx hb dL_law_540 (lv_at hl 3 rfl) ?_
      refine lv_iload hx hb dL_law_542 (lv_at hl 0 rfl) ?_
      refine lv_iconst (v := nI 5) hx hb dL_law_544 (by decide) ?_
      refine h_rdV (As := [.int (nI lz), .int (nI r), .int (nI 5)]) (rest := []) hF (c_X2_rn l G hp ad S hC lz (by omega) r (by omega) 5 (by omega) (nI (sdS (sF S 0) (sN S 0) (gC S 0) lz r)) rfl) 3 (gZl gL_law_X2_run) rfl (by decide +kernel) ⟨Nat.le_of_ble_eq_true rfl, Nat.le_of_ble_eq_true rfl⟩ hK0 hV0 hC.xo rfl rfl rfl hl.1 rfl (Nat.le_of_ble_eq_true rfl) (by show _ ≤ 600130; omega) (by show _ ≤ 7301080; omega) dL_law_545 ?_
      refine lv_istore (lv' := [(14, .int (nI (sdS (sF S 0) (sN S 0) (gC S 0) lz r))), (13, .int (nI r)), (10, .int (nI (snA (fun lz => snA (fun r => sdS (sF S 0) (sN S 0) (gC S 0) lz r) (sN S 0 lz)) lz + snA (fun r => sdS (sF S 0) (sN S 0) (gC S 0) lz r) r))), (12, .int (nI (sN S 0 lz))), (11, .int (nI lz)), (9, .int (nI (snA (sN S 0) lz + sN S 0 lz))), (3, .int (nI t)), (5, .ref wa), (2, .ref mo), (1, .ref (aX ad)), (0, .ref b)]) hx hb dL_law_548 hl (by decide) rfl (fun ls hl => ?_)
      refine lv_iload hx hb dL_law_550 (lv_at hl 0 rfl) ?_
      refine lv_aload_n hx hb dL_law_552 rfl (lv_at hl 9 rfl) ?_
      refine lv_iload hx hb dL_law_553 (lv_at hl 4 rfl) ?_
      refine lv_iload hx hb dL_law_555 (lv_at hl 1 rfl) ?_
      refine lv_iconst (v := nI 0) hx hb dL_law_557 (by decide) ?_
      refine h_rdV (As := [.int (nI lz), .int (nI r), .int (nI 0)]) (rest := [.int (nI (sdS (sF S 0) (sN S 0) (gC S 0) lz r))]) hF (c_X2_rn l G hp ad S hC lz (by omega) r (by omega) 0 (by omega) (nI (szR (gC S 0 lz r))) rfl) 3 (gZl gL_law_X2_run) rfl (by decide +kernel) ⟨Nat.le_of_ble_eq_true rfl, Nat.le_of_ble_eq_true rfl⟩ hK0 hV0 hC.xo rfl rfl rfl hl.1 rfl (Nat.le_of_ble_eq_true rfl) (by show _ ≤ 600130; omega) (by show _ ≤ 7301080; omega) dL_law_558 ?_
      refine h_icmp_gt (a := sdS (sF S 0) (sN S 0) (gC S 0) lz r) (b := szR (gC S 0 lz r)) (tgt := 606) hx hb dL_law_561 (by decide) (by omega) (by omega) (fun c_561 => absurd hsd (by omega)) (fun c_561 => ?_)
      refine lv_aload_n hx hb dL_law_564 rfl (lv_at hl 9 rfl) ?_
      refine lv_iload hx hb dL_law_565 (lv_at hl 4 rfl) ?_
      refine lv_iload hx hb dL_law_567 (lv_at hl 1 rfl) ?_
      refine lv_iconst (v := nI 1) hx hb dL_law_569 (by decide) ?_
      refine h_rdV (As := [.int (nI lz), .int (nI r), .int (nI 1)]) (rest := []) hF (c_X2_rn l G hp ad S hC lz (by omega) r (by omega) 1 (by omega) (nI (lsR (gC S 0 lz r))) rfl) 3 (gZl gL_law_X2_run) rfl (by decide +kernel) ⟨Nat.le_of_ble_eq_true rfl, Nat.le_of_ble_eq_true rfl⟩ hK0 hV0 hC.xo rfl rfl rfl hl.1 rfl (Nat.le_of_ble_eq_true rfl) (by show _ ≤ 600130; omega) (by show _ ≤ 7301080; omega) dL_law_570 ?_
      refine lv_aload_n hx hb dL_law_573 rfl (lv_at hl 9 rfl) ?_
      refine lv_iload hx hb dL_law_574 (lv_at hl 4 rfl) ?_
      refine lv_iload hx hb dL_law_576 (lv_at hl 1 rfl) ?_
      refine lv_iconst (v := nI 2) hx hb dL_law_578 (by decide) ?_
      refine h_rdV (As := [.int (nI lz), .int (nI r), .int (nI 2)]) (rest := [.int (nI (lsR (gC S 0 lz r)))]) hF (c_X2_rn l G hp ad S hC lz (by omega) r (by omega) 2 (by omega) ((grR (gC S 0 lz r))) rfl) 3 (gZl gL_law_X2_run) rfl (by decide +kernel) ⟨Nat.le_of_ble_eq_true rfl, Nat.le_of_ble_eq_true rfl⟩ hK0 hV0 hC.xo rfl rfl rfl hl.1 rfl (Nat.le_of_ble_eq_true rfl) (by show _ ≤ 600130; omega) (by show _ ≤ 7301080; omega) dL_law_579 ?_
      refine lv_icmp_gt (tgt := 606) hx hb dL_law_582 (by decide) (fun c_582 => absurd c_582 (ls_gr2 hps)) (fun c_582 => ?_)
      refine lv_aload_n hx hb dL_law_585 rfl (lv_at hl 9 rfl) ?_
      refine lv_iload hx hb dL_law_586 (lv_at hl 4 rfl) ?_
      refine lv_iload hx hb dL_law_588 (lv_at hl 1 rfl) ?_
      refine lv_iconst (v := nI 4) hx hb dL_law_590 (by decide) ?_
      refine h_rdV (As := [.int (nI lz), .int (nI r), .int (nI 4)]) (rest := []) hF (c_X2_rn l G hp ad S hC lz (by omega) r (by omega) 4 (by omega) (nI (tbR (gC S 0 lz r))) rfl) 3 (gZl gL_law_X2_run) rfl (by decide +kernel) ⟨Nat.le_of_ble_eq_true rfl, Nat.le_of_ble_eq_true rfl⟩ hK0 hV0 hC.xo rfl rfl rfl hl.1 rfl (Nat.le_of_ble_eq_true rfl) (by show _ ≤ 600130; omega) (by show _ ≤ 7301080; omega) dL_law_591 ?_
      refine lv_aload_n hx hb dL_law_594 rfl (lv_at hl 9 rfl) ?_
      refine lv_iload hx hb dL_law_595 (lv_at hl 4 rfl) ?_
      refine lv_iload hx hb dL_law_597 (lv_at hl 1 rfl) ?_
      refine lv_iconst (v := nI 0) hx hb dL_law_599 (by decide) ?_
      refine h_rdV (As := [.int (nI lz), .int (nI r), .int (nI 0)]) (rest := [.int (nI (tbR (gC S 0 lz r)))]) hF (c_X2_rn l G hp ad S hC lz (by omega) r (by omega) 0 (by omega) (nI (szR (gC S 0 lz r))) rfl) 3 (gZl gL_law_X2_run) rfl (by decide +kernel) ⟨Nat.le_of_ble_eq_true rfl, Nat.le_of_ble_eq_true rfl⟩ hK0 hV0 hC.xo rfl rfl rfl hl.1 rfl (Nat.le_of_ble_eq_true rfl) (by show _ ≤ 600130; omega) (by show _ ≤ 7301080; omega) dL_law_600 ?_
      refine h_icmp_le (a := tbR (gC S 0 lz r)) (b := szR (gC S 0 lz r)) (tgt := 608) hx hb dL_law_603 (by decide) (by omega) (by omega) (fun c_603 => ?_) (fun c_603 => absurd htb c_603)
      refine lv_iload hx hb dL_law_608 (lv_at hl 2 rfl) ?_
      refine lv_iload hx hb dL_law_610 (lv_at hl 0 rfl) ?_
      refine h_iaddN hx hb dL_law_612 ?_
      refine lv_istore (lv' := [(10, .int (nI (snA (fun lz => snA (fun r => sdS (sF S 0) (sN S 0) (gC S 0) lz r) (sN S 0 lz)) lz + snA (fun r => sdS (sF S 0) (sN S 0) (gC S 0) lz r) r + sdS (sF S 0) (sN S 0) (gC S 0) lz r))), (14, .int (nI (sdS (sF S 0) (sN S 0) (gC S 0) lz r))), (13, .int (nI r)), (12, .int (nI (sN S 0 lz))), (11, .int (nI lz)), (9, .int (nI (snA (sN S 0) lz + sN S 0 lz))), (3, .int (nI t)), (5, .ref wa), (2, .ref mo), (1, .ref (aX ad)), (0, .ref b)]) hx hb dL_law_613 hl (by decide) rfl (fun ls hl => ?_)
      refine lv_iinc (v := nI (r + 1)) (lv' := [(13, .int (nI (r + 1))), (10, .int (nI (snA (fun lz => snA (fun r => sdS (sF S 0) (sN S 0) (gC S 0) lz r) (sN S 0 lz)) lz + snA (fun r => sdS (sF S 0) (sN S 0) (gC S 0) lz r) r + sdS (sF S 0) (sN S 0) (gC S 0) lz r))), (14, .int (nI (sdS (sF S 0) (sN S 0) (gC S 0) lz r))), (12, .int (nI (sN S 0 lz))), (11, .int (nI lz)), (9, .int (nI (snA (sN S 0) lz + sN S 0 lz))), (3, .int (nI t)), (5, .ref wa), (2, .ref mo), (1, .ref (aX ad)), (0, .ref b)]) hx hb dL_law_615 hl (k := 2) rfl (nI_add (r) 1) (by decide) rfl (fun ls hl => ?_)
      refine lv_goto (tgt := 532) hx hb dL_law_618 (by decide) ?_
      have e9 : snA (fun lz => snA (fun r => sdS (sF S 0) (sN S 0) (gC S 0) lz r) (sN S 0 lz)) lz + snA (fun r => sdS (sF S 0) (sN S 0) (gC S 0) lz r) (r + 1) = snA (fun lz => snA (fun r => sdS (sF S 0) (sN S 0) (gC S 0) lz r) (sN S 0 lz)) lz + snA (fun r => sdS (sF S 0) (sN S 0) (gC S 0) lz r) r + sdS (sF S 0) (sN S 0) (gC S 0) lz r := (Nat.add_assoc _ _ _).symm
      exact ih532 (by omega) trivial ls (by show lv_has ls 15 [(13, .int (nI (r + 1))), (10, .int (nI (snA (fun lz => snA (fun r => sdS (sF S 0) (sN S 0) (gC S 0) lz r) (sN S 0 lz)) lz + snA (fun r => sdS (sF S 0) (sN S 0) (gC S 0) lz r) (r + 1)))), (12, .int (nI (sN S 0 lz))), (11, .int (nI lz)), (9, .int (nI (snA (sN S 0) lz + sN S 0 lz))), (3, .int (nI t)), (5, .ref wa), (2, .ref mo), (1, .ref (aX ad)), (0, .ref b)]; rw [e9]; exact lv_sub hl [0, 1, 3, 4, 5, 6, 7, 8, 9, 10] rfl)
