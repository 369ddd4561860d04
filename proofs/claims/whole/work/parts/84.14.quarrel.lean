set_option maxHeartbeats 4000000 in
set_option maxRecDepth 100000 in
theorem lc_quarrel {p : Program} {e : Env} {s : State} {m : MethodId} {below : List Frame} {meth : Method} {c : Code} {H : Heap} {locs : List Loc} {cells slots : Nat} {Q : State → Prop} {ls : Array Slot} {κ : KK} {Γ : GG} {A : Nat → Prop} {b L i xo mo : Nat} {xs : Nat → Int32} (l : Launch) (S0 : CallFix p m c cL_law 4 s #[Value.ref b] BG RL) (hX : va_X b L xs s s.heap) (hbl : b < s.heap.size) (hbA : ¬ A b) (hl : lv_has ls 4 [(0, .ref b), (1, .ref xo), (2, .ref mo), (3, .int (iI ((i : Nat) : Int)))]) (hi : i + 9 ≤ L) (hL0 : L ≤ 4608) (hcs : cells + 2 ≤ 600000 ∧ slots + 22 ≤ 7302250) (X : LWd κ Γ A s xo mo H locs) (kk : ∀ (H1 : Heap) (locs1 : List Loc), LWd κ Γ A s xo mo H1 locs1 → W p l e room_1 s m #[Value.ref b] below meth c H1 locs1 (cells + 2) (slots + 22) Q (F0 m 740 ls [])) : W p l e room_1 s m #[Value.ref b] below meth c H locs cells slots Q (F0 m 618 ls []) := by
  obtain ⟨ad, ed, cap, sa, ad9, n, S, wt, nw, th, ho, be, tn, tb, mn, M, pn, P, yc, Y, dr, o, q, fk, fp, f, g, f9, g9, ⟨rfl, rfl⟩, hIV, X⟩ := X
  have hIV0 := hIV
  obtain ⟨hn9, hc, hed, hB, hL, hLB, hT, hTB, hfk, hfp, hM, hMB, hP, hPB, hY, hYB, hYT, hyc, hD, hQ, hq0, sM, lM, tM, fkM, fpM, mM, pM, qM⟩ := hIV
  have hcap : n ≤ cap ∧ cap < 1000 := ⟨hc.2, by have := hc.1; omega⟩
  have hN : EN (EF κ) κ := fun _ _ _ h => h
  obtain ⟨z1, hz1, e1⟩ := iI_ex (xs (i + 1))
  obtain ⟨z2, hz2, e2⟩ := iI_ex (xs (i + 2))
  obtain ⟨z3, hz3, e3⟩ := iI_ex (xs (i + 3))
  obtain ⟨z4, hz4, e4⟩ := iI_ex (xs (i + 4))
  obtain ⟨z5, hz5, e5⟩ := iI_ex (xs (i + 5))
  obtain ⟨z6, hz6, e6⟩ := iI_ex (xs (i + 6))
  obtain ⟨z7, hz7, e7⟩ := iI_ex (xs (i + 7))
  obtain ⟨z8, hz8, e8⟩ := iI_ex (xs (i + 8))
  refine lv_aload_n S0.1 S0.2.1 dL_law_618 rfl (lv_at hl 1 rfl) ?_
  refine lv_aload_n S0.1 S0.2.1 dL_law_619 rfl (lv_at hl 0 rfl) ?_
  refine lv_iload_n S0.1 S0.2.1 dL_law_620 rfl (lv_at hl 3 rfl) ?_
  refine k_iconst S0 dL_law_621 ?_
  refine k_iadd S0 dL_law_622 ?_
  refine r_sld (j := i + 1) (x := iI z1) S0 hX hbl hbA X (by omega) (by omega) hL0 e1 dL_law_623 ?_
  refine lv_aload_n S0.1 S0.2.1 dL_law_624 rfl (lv_at hl 0 rfl) ?_
  refine lv_iload_n S0.1 S0.2.1 dL_law_625 rfl (lv_at hl 3 rfl) ?_
  refine k_iconst S0 dL_law_626 ?_
  refine k_iadd S0 dL_law_627 ?_
  refine r_sld (j := i + 2) (x := iI z2) S0 hX hbl hbA X (by omega) (by omega) hL0 e2 dL_law_628 ?_
  refine lv_aload_n S0.1 S0.2.1 dL_law_629 rfl (lv_at hl 0 rfl) ?_
  refine lv_iload_n S0.1 S0.2.1 dL_law_630 rfl (lv_at hl 3 rfl) ?_
  refine k_iconst S0 dL_law_631 ?_
  refine k_iadd S0 dL_law_632 ?_
  refine r_sld (j := i + 3) (x := iI z3) S0 hX hbl hbA X (by omega) (by omega) hL0 e3 dL_law_633 ?_
  refine lv_aload_n S0.1 S0.2.1 dL_law_634 rfl (lv_at hl 0 rfl) ?_
  refine lv_iload_n S0.1 S0.2.1 dL_law_635 rfl (lv_at hl 3 rfl) ?_
  refine k_iconst S0 dL_law_636 ?_
  refine k_iadd S0 dL_law_637 ?_
  refine r_sld (j := i + 4) (x := iI z4) S0 hX hbl hbA X (by omega) (by omega) hL0 e4 dL_law_638 ?_
  refine lv_aload_n S0.1 S0.2.1 dL_law_639 rfl (lv_at hl 0 rfl) ?_
  refine lv_iload_n S0.1 S0.2.1 dL_law_640 rfl (lv_at hl 3 rfl) ?_
  refine k_iconst S0 dL_law_641 ?_
  refine k_iadd S0 dL_law_642 ?_
  refine r_sld (j := i + 5) (x := iI z5) S0 hX hbl hbA X (by omega) (by omega) hL0 e5 dL_law_643 ?_
  refine lv_aload_n S0.1 S0.2.1 dL_law_644 rfl (lv_at hl 0 rfl) ?_
  refine lv_iload_n S0.1 S0.2.1 dL_law_645 rfl (lv_at hl 3 rfl) ?_
  refine k_bipush S0 dL_law_646 (by decide) ?_
  refine k_iadd S0 dL_law_648 ?_
  refine r_sld (j := i + 6) (x := iI z6) S0 hX hbl hbA X (by omega) (by omega) hL0 e6 dL_law_649 ?_
  refine lv_aload_n S0.1 S0.2.1 dL_law_650 rfl (lv_at hl 0 rfl) ?_
  refine lv_iload_n S0.1 S0.2.1 dL_law_651 rfl (lv_at hl 3 rfl) ?_
  refine k_bipush S0 dL_law_652 (by decide) ?_
  refine k_iadd S0 dL_law_654 ?_
  refine r_sld (j := i + 7) (x := iI z7) S0 hX hbl hbA X (by omega) (by omega) hL0 e7 dL_law_655 ?_
  refine lv_aload_n S0.1 S0.2.1 dL_law_656 rfl (lv_at hl 0 rfl) ?_
  refine lv_iload_n S0.1 S0.2.1 dL_law_657 rfl (lv_at hl 3 rfl) ?_
  refine k_bipush S0 dL_law_658 (by decide) ?_
  refine k_iadd S0 dL_law_660 ?_
  refine r_sld (j := i + 8) (x := iI z8) S0 hX hbl hbA X (by omega) (by omega) hL0 e8 dL_law_661 ?_
  refine r_callVF (As := [.int (iI z1), .int (iI z2), .int (iI z3), .int (iI z4), .int (iI z5), .int (iI z6), .int (iI z7), .int (iI z8)]) (rest := []) (EFs κ) S0 X (c_X9_quarrel (EFs κ) l hN hz1 hz2 hz3 hz4 hz5 hz6 hz7 hz8) cV_L_78 (recC_0 X.left) rfl rfl (Nat.le_of_ble_eq_true rfl) (rmL (by decide) (by decide) (by show cells + 0 ≤ 600000; omega) (by show slots + 0 ≤ 7302250; omega)) hl.1 dL_law_662 (fun v9 w9 H locs hq X => ?_)
  rcases hq with ⟨hok, rfl, f1, g1, rfl, hQ2, hf, hg⟩ | ⟨hno, rfl, rfl⟩
  · have X := X.comm
    refine lv_aload_n S0.1 S0.2.1 dL_law_665 rfl (lv_at hl 2 rfl) ?_
    refine lv_aload_n S0.1 S0.2.1 dL_law_666 rfl (lv_at hl 0 rfl) ?_
    refine lv_iload_n S0.1 S0.2.1 dL_law_667 rfl (lv_at hl 3 rfl) ?_
    refine k_iconst S0 dL_law_668 ?_
    refine k_iadd S0 dL_law_669 ?_
    refine r_sld (j := i + 1) (x := iI z1) S0 hX hbl hbA X (by omega) (by omega) hL0 e1 dL_law_670 ?_
    refine lv_aload_n S0.1 S0.2.1 dL_law_671 rfl (lv_at hl 0 rfl) ?_
    refine lv_iload_n S0.1 S0.2.1 dL_law_672 rfl (lv_at hl 3 rfl) ?_
    refine k_iconst S0 dL_law_673 ?_
    refine k_iadd S0 dL_law_674 ?_
    refine r_sld (j := i + 2) (x := iI z2) S0 hX hbl hbA X (by omega) (by omega) hL0 e2 dL_law_675 ?_
    refine lv_aload_n S0.1 S0.2.1 dL_law_676 rfl (lv_at hl 0 rfl) ?_
    refine lv_iload_n S0.1 S0.2.1 dL_law_677 rfl (lv_at hl 3 rfl) ?_
    refine k_iconst S0 dL_law_678 ?_
    refine k_iadd S0 dL_law_679 ?_
    refine r_sld (j := i + 3) (x := iI z3) S0 hX hbl hbA X (by omega) (by omega) hL0 e3 dL_law_680 ?_
    refine lv_aload_n S0.1 S0.2.1 dL_law_681 rfl (lv_at hl 0 rfl) ?_
    refine lv_iload_n S0.1 S0.2.1 dL_law_682 rfl (lv_at hl 3 rfl) ?_
    refine k_iconst S0 dL_law_683 ?_
    refine k_iadd S0 dL_law_684 ?_
    refine r_sld (j := i + 4) (x := iI z4) S0 hX hbl hbA X (by omega) (by omega) hL0 e4 dL_law_685 ?_
    refine lv_aload_n S0.1 S0.2.1 dL_law_686 rfl (lv_at hl 0 rfl) ?_
    refine lv_iload_n S0.1 S0.2.1 dL_law_687 rfl (lv_at hl 3 rfl) ?_
    refine k_iconst S0 dL_law_688 ?_
    refine k_iadd S0 dL_law_689 ?_
    refine r_sld (j := i + 5) (x := iI z5) S0 hX hbl hbA X (by omega) (by omega) hL0 e5 dL_law_690 ?_
    refine lv_aload_n S0.1 S0.2.1 dL_law_691 rfl (lv_at hl 0 rfl) ?_
    refine lv_iload_n S0.1 S0.2.1 dL_law_692 rfl (lv_at hl 3 rfl) ?_
    refine k_bipush S0 dL_law_693 (by decide) ?_
    refine k_iadd S0 dL_law_695 ?_
    refine r_sld (j := i + 6) (x := iI z6) S0 hX hbl hbA X (by omega) (by omega) hL0 e6 dL_law_696 ?_
    refine lv_aload_n S0.1 S0.2.1 dL_law_697 rfl (lv_at hl 0 rfl) ?_
    refine lv_iload_n S0.1 S0.2.1 dL_law_698 rfl (lv_at hl 3 rfl) ?_
    refine k_bipush S0 dL_law_699 (by decide) ?_
    refine k_iadd S0 dL_law_701 ?_
    refine r_sld (j := i + 7) (x := iI z7) S0 hX hbl hbA X (by omega) (by omega) hL0 e7 dL_law_702 ?_
    refine lv_aload_n S0.1 S0.2.1 dL_law_703 rfl (lv_at hl 0 rfl) ?_
    refine lv_iload_n S0.1 S0.2.1 dL_law_704 rfl (lv_at hl 3 rfl) ?_
    refine k_bipush S0 dL_law_705 (by decide) ?_
    refine k_iadd S0 dL_law_707 ?_
    refine r_sld (j := i + 8) (x := iI z8) S0 hX hbl hbA X (by omega) (by omega) hL0 e8 dL_law_708 ?_
    refine r_callVF (As := [.int (iI z1), .int (iI z2), .int (iI z3), .int (iI z4), .int (iI z5), .int (iI z6), .int (iI z7), .int (iI z8)]) (rest := [.int (bI True)]) (EFs κ) S0 X (c_X10_quarrel (EFs κ) l hz1 hz2 hz3 hz4 hz5 hz6 hz7 hz8) cV_L_82 (recM X.left) rfl rfl (Nat.le_of_ble_eq_true rfl) (rmL (by decide) (by decide) (by show cells + 0 + 0 ≤ 600000; omega) (by show slots + 0 + 0 ≤ 7302250; omega)) hl.1 dL_law_709 (fun v9 w9 H locs hq X => ?_)
    rcases hq with ⟨hok2, rfl, f8, rfl, qM2, hf8⟩ | ⟨hno2, rfl, rfl⟩
    · refine lv_icmp_eq (tgt := 740) S0.1 S0.2.1 dL_law_712 (by decide) (fun _ => ?_) (fun c9 => absurd rfl c9)
      refine W.widen (k := cells + 2) (n := slots + 22) (by show cells + 0 + 0 ≤ cells + 2; omega) (by show slots + 0 + 0 ≤ slots + 22; omega) (kk _ _ ⟨ad, ed, cap, sa, ad9, n, S, wt, nw, th, ho, be, tn, tb, mn, M, pn, P, yc, Y, dr, (True), (fun j => if j = 0 then z1 else if j = 1 then z2 else if j = 2 then z3 else if j = 3 then z4 else if j = 4 then z5 else if j = 5 then z6 else if j = 6 then z7 else z8), fk, fp, (f1), (g1), (f8), g9, ⟨rfl, rfl⟩, ⟨(hf 1 2 (by omega)).trans hn9, hc, hed, hB, LawC_t (hf 9 2 (by omega)) (hf 9 3 (by omega)) (hf 9 4 (by omega)) (hg 28 (by omega)) (hg 29 (by omega)) hL, hLB, TapC_t (hf 2 1 (by omega)) (hg 11 (by omega)) hT, hTB, (hf 3 0 (by omega)).trans hfk, (hf 3 1 (by omega)).trans hfp, MowC_t (hf 5 0 (by omega)) (hg 15 (by omega)) (hg 16 (by omega)) (hg 17 (by omega)) (hg 18 (by omega)) (hg 19 (by omega)) hM, hMB, ProC_t (hf 6 2 (by omega)) (hg 20 (by omega)) (hg 21 (by omega)) hP, hPB, YrC_t (hf 5 2 (by omega)) (hg 14 (by omega)) hY, hYB, hYT, hyc, DrC_t (hf 0 10 (by omega)) (hf 4 1 (by omega)) (hg 12 (by omega)) hD, hQ2, fun _ => hok, SayM_t (hf8 0 (by omega)) (rfl) (rfl) (rfl) (rfl) (rfl) (rfl) (rfl) sM, LawM_t (hf8 10 (by omega)) (hf8 11 (by omega)) (hf8 12 (by omega)) (rfl) (rfl) lM, TapM_t (hf8 17 (by omega)) (rfl) tM, (hf8 24 (by omega)).trans fkM, (hf8 26 (by omega)).trans fpM, MowM_t (hf8 1 (by omega)) (rfl) (rfl) (rfl) (rfl) (rfl) mM, ProM_t (hf8 2 (by omega)) (rfl) (rfl) pM, qM2⟩, X.comm⟩)
    · exact absurd hok hno2
  · have X := X.comm
    refine lv_aload_n S0.1 S0.2.1 dL_law_665 rfl (lv_at hl 2 rfl) ?_
    refine lv_aload_n S0.1 S0.2.1 dL_law_666 rfl (lv_at hl 0 rfl) ?_
    refine lv_iload_n S0.1 S0.2.1 dL_law_667 rfl (lv_at hl 3 rfl) ?_
    refine k_iconst S0 dL_law_668 ?_
    refine k_iadd S0 dL_law_669 ?_
    refine r_sld (j := i + 1) (x := iI z1) S0 hX hbl hbA X (by omega) (by omega) hL0 e1 dL_law_670 ?_
    refine lv_aload_n S0.1 S0.2.1 dL_law_671 rfl (lv_at hl 0 rfl) ?_
    refine lv_iload_n S0.1 S0.2.1 dL_law_672 rfl (lv_at hl 3 rfl) ?_
    refine k_iconst S0 dL_law_673 ?_
    refine k_iadd S0 dL_law_674 ?_
    refine r_sld (j := i + 2) (x := iI z2) S0 hX hbl hbA X (by omega) (by omega) hL0 e2 dL_law_675 ?_
    refine lv_aload_n S0.1 S0.2.1 dL_law_676 rfl (lv_at hl 0 rfl) ?_
    refine lv_iload_n S0.1 S0.2.1 dL_law_677 rfl (lv_at hl 3 rfl) ?_
    refine k_iconst S0 dL_law_678 ?_
    refine k_iadd S0 dL_law_679 ?_
    refine r_sld (j := i + 3) (x := iI z3) S0 hX hbl hbA X (by omega) (by omega) hL0 e3 dL_law_680 ?_
    refine lv_aload_n S0.1 S0.2.1 dL_law_681 rfl (lv_at hl 0 rfl) ?_
    refine lv_iload_n S0.1 S0.2.1 dL_law_682 rfl (lv_at hl 3 rfl) ?_
    refine k_iconst S0 dL_law_683 ?_
    refine k_iadd S0 dL_law_684 ?_
    refine r_sld (j := i + 4) (x := iI z4) S0 hX hbl hbA X (by omega) (by omega) hL0 e4 dL_law_685 ?_
    refine lv_aload_n S0.1 S0.2.1 dL_law_686 rfl (lv_at hl 0 rfl) ?_
    refine lv_iload_n S0.1 S0.2.1 dL_law_687 rfl (lv_at hl 3 rfl) ?_
    refine k_iconst S0 dL_law_688 ?_
    refine k_iadd S0 dL_law_689 ?_
    refine r_sld (j := i + 5) (x := iI z5) S0 hX hbl hbA X (by omega) (by omega) hL0 e5 dL_law_690 ?_
    refine lv_aload_n S0.1 S0.2.1 dL_law_691 rfl (lv_at hl 0 rfl) ?_
    refine lv_iload_n S0.1 S0.2.1 dL_law_692 rfl (lv_at hl 3 rfl) ?_
    refine k_bipush S0 dL_law_693 (by decide) ?_
    refine k_iadd S0 dL_law_695 ?_
    refine r_sld (j := i + 6) (x := iI z6) S0 hX hbl hbA X (by omega) (by omega) hL0 e6 dL_law_696 ?_
    refine lv_aload_n S0.1 S0.2.1 dL_law_697 rfl (lv_at hl 0 rfl) ?_
    refine lv_iload_n S0.1 S0.2.1 dL_law_698 rfl (lv_at hl 3 rfl) ?_
    refine k_bipush S0 dL_law_699 (by decide) ?_
    refine k_iadd S0 dL_law_701 ?_
    refine r_sld (j := i + 7) (x := iI z7) S0 hX hbl hbA X (by omega) (by omega) hL0 e7 dL_law_702 ?_
    refine lv_aload_n S0.1 S0.2.1 dL_law_703 rfl (lv_at hl 0 rfl) ?_
    refine lv_iload_n S0.1 S0.2.1 dL_law_704 rfl (lv_at hl 3 rfl) ?_
    refine k_bipush S0 dL_law_705 (by decide) ?_
    refine k_iadd S0 dL_law_707 ?_
    refine r_sld (j := i + 8) (x := iI z8) S0 hX hbl hbA X (by omega) (by omega) hL0 e8 dL_law_708 ?_
    refine r_callVF (As := [.int (iI z1), .int (iI z2), .int (iI z3), .int (iI z4), .int (iI z5), .int (iI z6), .int (iI z7), .int (iI z8)]) (rest := [.int (bI False)]) (EFs κ) S0 X (c_X10_quarrel (EFs κ) l hz1 hz2 hz3 hz4 hz5 hz6 hz7 hz8) cV_L_82 (recM X.left) rfl rfl (Nat.le_of_ble_eq_true rfl) (rmL (by decide) (by decide) (by show cells + 0 + 0 ≤ 600000; omega) (by show slots + 0 + 0 ≤ 7302250; omega)) hl.1 dL_law_709 (fun v9 w9 H locs hq X => ?_)
    rcases hq with ⟨hok2, rfl, f8, rfl, qM2, hf8⟩ | ⟨hno2, rfl, rfl⟩
    · exact absurd hok2 hno
    · refine lv_icmp_eq (tgt := 740) S0.1 S0.2.1 dL_law_712 (by decide) (fun _ => ?_) (fun c9 => absurd rfl c9)
      refine W.widen (k := cells + 2) (n := slots + 22) (by show cells + 0 + 0 ≤ cells + 2; omega) (by show slots + 0 + 0 ≤ slots + 22; omega) (kk _ _ ⟨ad, ed, cap, sa, ad9, n, S, wt, nw, th, ho, be, tn, tb, mn, M, pn, P, yc, Y, dr, o, q, fk, fp, f, g, f9, g9, ⟨rfl, rfl⟩, hIV0, X.comm⟩)
