set_option maxHeartbeats 4000000 in
set_option maxRecDepth 100000 in
theorem lc_mow {p : Program} {e : Env} {s : State} {m : MethodId} {below : List Frame} {meth : Method} {c : Code} {H : Heap} {locs : List Loc} {cells slots : Nat} {Q : State → Prop} {ls : Array Slot} {κ : KK} {Γ : GG} {A : Nat → Prop} {b L i xo mo : Nat} {xs : Nat → Int32} (l : Launch) (S0 : CallFix p m c cL_law 4 s #[Value.ref b] BG RL) (hX : va_X b L xs s s.heap) (hbl : b < s.heap.size) (hbA : ¬ A b) (hl : lv_has ls 4 [(0, .ref b), (1, .ref xo), (2, .ref mo), (3, .int (iI ((i : Nat) : Int)))]) (hi : i + 9 ≤ L) (hL0 : L ≤ 4608) (hcs : cells + 2 ≤ 600000 ∧ slots + 22 ≤ 7302250) (X : LWd κ Γ A s xo mo H locs) (kk : ∀ (H1 : Heap) (locs1 : List Loc), LWd κ Γ A s xo mo H1 locs1 → W p l e room_1 s m #[Value.ref b] below meth c H1 locs1 (cells + 2) (slots + 22) Q (F0 m 740 ls [])) : W p l e room_1 s m #[Value.ref b] below meth c H locs cells slots Q (F0 m 423 ls []) := by
  obtain ⟨ad, ed, cap, sa, ad9, n, S, wt, nw, th, ho, be, tn, tb, mn, M, pn, P, yc, Y, dr, o, q, fk, fp, f, g, f9, g9, ⟨rfl, rfl⟩, hIV, X⟩ := X
  have hIV0 := hIV
  obtain ⟨hn9, hc, hed, hB, hL, hLB, hT, hTB, hfk, hfp, hM, hMB, hP, hPB, hY, hYB, hYT, hyc, hD, hQ, hq0, sM, lM, tM, fkM, fpM, mM, pM, qM⟩ := hIV
  have hcap : n ≤ cap ∧ cap < 1000 := ⟨hc.2, by have := hc.1; omega⟩
  have hN : EN (EF κ) κ := fun _ _ _ h => h
  obtain ⟨z1, hz1, e1⟩ := iI_ex (xs (i + 1))
  obtain ⟨z2, hz2, e2⟩ := iI_ex (xs (i + 2))
  obtain ⟨z3, hz3, e3⟩ := iI_ex (xs (i + 3))
  obtain ⟨z4, hz4, e4⟩ := iI_ex (xs (i + 4))
  obtain ⟨z5, hz5, e5⟩ := iI_ex (xs (i + 5))
  refine lv_aload_n S0.1 S0.2.1 dL_law_423 rfl (lv_at hl 1 rfl) ?_
  refine lv_aload_n S0.1 S0.2.1 dL_law_424 rfl (lv_at hl 0 rfl) ?_
  refine lv_iload_n S0.1 S0.2.1 dL_law_425 rfl (lv_at hl 3 rfl) ?_
  refine k_iconst S0 dL_law_426 ?_
  refine k_iadd S0 dL_law_427 ?_
  refine r_sld (j := i + 1) (x := iI z1) S0 hX hbl hbA X (by omega) (by omega) hL0 e1 dL_law_428 ?_
  refine lv_aload_n S0.1 S0.2.1 dL_law_429 rfl (lv_at hl 0 rfl) ?_
  refine lv_iload_n S0.1 S0.2.1 dL_law_430 rfl (lv_at hl 3 rfl) ?_
  refine k_iconst S0 dL_law_431 ?_
  refine k_iadd S0 dL_law_432 ?_
  refine r_sld (j := i + 2) (x := iI z2) S0 hX hbl hbA X (by omega) (by omega) hL0 e2 dL_law_433 ?_
  refine lv_aload_n S0.1 S0.2.1 dL_law_434 rfl (lv_at hl 0 rfl) ?_
  refine lv_iload_n S0.1 S0.2.1 dL_law_435 rfl (lv_at hl 3 rfl) ?_
  refine k_iconst S0 dL_law_436 ?_
  refine k_iadd S0 dL_law_437 ?_
  refine r_sld (j := i + 3) (x := iI z3) S0 hX hbl hbA X (by omega) (by omega) hL0 e3 dL_law_438 ?_
  refine lv_aload_n S0.1 S0.2.1 dL_law_439 rfl (lv_at hl 0 rfl) ?_
  refine lv_iload_n S0.1 S0.2.1 dL_law_440 rfl (lv_at hl 3 rfl) ?_
  refine k_iconst S0 dL_law_441 ?_
  refine k_iadd S0 dL_law_442 ?_
  refine r_sld (j := i + 4) (x := iI z4) S0 hX hbl hbA X (by omega) (by omega) hL0 e4 dL_law_443 ?_
  refine lv_aload_n S0.1 S0.2.1 dL_law_444 rfl (lv_at hl 0 rfl) ?_
  refine lv_iload_n S0.1 S0.2.1 dL_law_445 rfl (lv_at hl 3 rfl) ?_
  refine k_iconst S0 dL_law_446 ?_
  refine k_iadd S0 dL_law_447 ?_
  refine r_sld (j := i + 5) (x := iI z5) S0 hX hbl hbA X (by omega) (by omega) hL0 e5 dL_law_448 ?_
  refine r_callVF (As := [.int (iI z1), .int (iI z2), .int (iI z3), .int (iI z4), .int (iI z5)]) (rest := []) (EFs κ) S0 X (c_X9_mow (EFs κ) l hM hMB hY hYB hYT hyc hz1 hz2 hz3 hz4 hz5) cV_L_55 (recC_0 X.left) rfl rfl (Nat.le_of_ble_eq_true rfl) (rmL (by decide) (by decide) (by show cells + 0 ≤ 600000; omega) (by show slots + 0 ≤ 7302250; omega)) hl.1 dL_law_449 (fun v9 w9 H locs hq X => ?_)
  rcases hq with ⟨hok, rfl, f1, g1, yc2, Y2, rfl, hM2, hY2, hYB2, hYT2, hyc2, hf, hg⟩ | ⟨hno, rfl, rfl⟩
  · have X := X.comm
    refine lv_aload_n S0.1 S0.2.1 dL_law_452 rfl (lv_at hl 2 rfl) ?_
    refine lv_aload_n S0.1 S0.2.1 dL_law_453 rfl (lv_at hl 0 rfl) ?_
    refine lv_iload_n S0.1 S0.2.1 dL_law_454 rfl (lv_at hl 3 rfl) ?_
    refine k_iconst S0 dL_law_455 ?_
    refine k_iadd S0 dL_law_456 ?_
    refine r_sld (j := i + 1) (x := iI z1) S0 hX hbl hbA X (by omega) (by omega) hL0 e1 dL_law_457 ?_
    refine lv_aload_n S0.1 S0.2.1 dL_law_458 rfl (lv_at hl 0 rfl) ?_
    refine lv_iload_n S0.1 S0.2.1 dL_law_459 rfl (lv_at hl 3 rfl) ?_
    refine k_iconst S0 dL_law_460 ?_
    refine k_iadd S0 dL_law_461 ?_
    refine r_sld (j := i + 2) (x := iI z2) S0 hX hbl hbA X (by omega) (by omega) hL0 e2 dL_law_462 ?_
    refine lv_aload_n S0.1 S0.2.1 dL_law_463 rfl (lv_at hl 0 rfl) ?_
    refine lv_iload_n S0.1 S0.2.1 dL_law_464 rfl (lv_at hl 3 rfl) ?_
    refine k_iconst S0 dL_law_465 ?_
    refine k_iadd S0 dL_law_466 ?_
    refine r_sld (j := i + 3) (x := iI z3) S0 hX hbl hbA X (by omega) (by omega) hL0 e3 dL_law_467 ?_
    refine lv_aload_n S0.1 S0.2.1 dL_law_468 rfl (lv_at hl 0 rfl) ?_
    refine lv_iload_n S0.1 S0.2.1 dL_law_469 rfl (lv_at hl 3 rfl) ?_
    refine k_iconst S0 dL_law_470 ?_
    refine k_iadd S0 dL_law_471 ?_
    refine r_sld (j := i + 4) (x := iI z4) S0 hX hbl hbA X (by omega) (by omega) hL0 e4 dL_law_472 ?_
    refine lv_aload_n S0.1 S0.2.1 dL_law_473 rfl (lv_at hl 0 rfl) ?_
    refine lv_iload_n S0.1 S0.2.1 dL_law_474 rfl (lv_at hl 3 rfl) ?_
    refine k_iconst S0 dL_law_475 ?_
    refine k_iadd S0 dL_law_476 ?_
    refine r_sld (j := i + 5) (x := iI z5) S0 hX hbl hbA X (by omega) (by omega) hL0 e5 dL_law_477 ?_
    refine r_callVF (As := [.int (iI z1), .int (iI z2), .int (iI z3), .int (iI z4), .int (iI z5)]) (rest := [.int (bI True)]) (EFs κ) S0 X (c_X10_mow (EFs κ) l mM hMB hz1 hz2 hz3 hz4 hz5) cV_L_59 (recM X.left) rfl rfl (Nat.le_of_ble_eq_true rfl) (rmL (by decide) (by decide) (by show cells + 0 + 0 ≤ 600000; omega) (by show slots + 0 + 0 ≤ 7302250; omega)) hl.1 dL_law_478 (fun v9 w9 H locs hq X => ?_)
    rcases hq with ⟨hok2, rfl, f8, g8, rfl, mM2, hf8, hg8⟩ | ⟨hno2, rfl, rfl⟩
    · refine lv_icmp_eq (tgt := 740) S0.1 S0.2.1 dL_law_481 (by decide) (fun _ => ?_) (fun c9 => absurd rfl c9)
      refine W.widen (k := cells + 2) (n := slots + 22) (by show cells + 0 + 0 ≤ cells + 2; omega) (by show slots + 0 + 0 ≤ slots + 22; omega) (kk _ _ ⟨ad, ed, cap, sa, ad9, n, S, wt, nw, th, ho, be, tn, tb, (mn + 1), (mPut M mn z1 z2 z3 z4 z5), pn, P, (yc2), (Y2), dr, o, q, fk, fp, (f1), (g1), (f8), (g8), ⟨rfl, rfl⟩, ⟨(hf 1 2 (by omega) (by omega)).trans hn9, hc, hed, hB, LawC_t (hf 9 2 (by omega) (by omega)) (hf 9 3 (by omega) (by omega)) (hf 9 4 (by omega) (by omega)) (hg 28 (by omega)) (hg 29 (by omega)) hL, hLB, TapC_t (hf 2 1 (by omega) (by omega)) (hg 11 (by omega)) hT, hTB, (hf 3 0 (by omega) (by omega)).trans hfk, (hf 3 1 (by omega) (by omega)).trans hfp, hM2, mPut_B hMB hok.2 hok.1, ProC_t (hf 6 2 (by omega) (by omega)) (hg 20 (by omega)) (hg 21 (by omega)) hP, hPB, hY2, hYB2, hYT2, hyc2, DrC_t (hf 0 10 (by omega) (by omega)) (hf 4 1 (by omega) (by omega)) (hg 12 (by omega)) hD, QuaC_t (fun j => hf 8 j (by omega) (by omega)) hQ, hq0, SayM_t (hf8 0 (by omega)) (hg8 3 (by omega)) (hg8 4 (by omega)) (hg8 5 (by omega)) (hg8 6 (by omega)) (hg8 7 (by omega)) (hg8 8 (by omega)) (hg8 9 (by omega)) sM, LawM_t (hf8 10 (by omega)) (hf8 11 (by omega)) (hf8 12 (by omega)) (hg8 13 (by omega)) (hg8 14 (by omega)) lM, TapM_t (hf8 17 (by omega)) (hg8 15 (by omega)) tM, (hf8 24 (by omega)).trans fkM, (hf8 26 (by omega)).trans fpM, mM2, ProM_t (hf8 2 (by omega)) (hg8 34 (by omega)) (hg8 35 (by omega)) pM, QuaM_t (hf8 41 (by omega)) (hf8 42 (by omega)) (hf8 43 (by omega)) (hf8 44 (by omega)) (hf8 45 (by omega)) (hf8 46 (by omega)) (hf8 47 (by omega)) (hf8 48 (by omega)) (hf8 49 (by omega)) qM⟩, X.comm⟩)
    · exact absurd hok hno2
  · have X := X.comm
    refine lv_aload_n S0.1 S0.2.1 dL_law_452 rfl (lv_at hl 2 rfl) ?_
    refine lv_aload_n S0.1 S0.2.1 dL_law_453 rfl (lv_at hl 0 rfl) ?_
    refine lv_iload_n S0.1 S0.2.1 dL_law_454 rfl (lv_at hl 3 rfl) ?_
    refine k_iconst S0 dL_law_455 ?_
    refine k_iadd S0 dL_law_456 ?_
    refine r_sld (j := i + 1) (x := iI z1) S0 hX hbl hbA X (by omega) (by omega) hL0 e1 dL_law_457 ?_
    refine lv_aload_n S0.1 S0.2.1 dL_law_458 rfl (lv_at hl 0 rfl) ?_
    refine lv_iload_n S0.1 S0.2.1 dL_law_459 rfl (lv_at hl 3 rfl) ?_
    refine k_iconst S0 dL_law_460 ?_
    refine k_iadd S0 dL_law_461 ?_
    refine r_sld (j := i + 2) (x := iI z2) S0 hX hbl hbA X (by omega) (by omega) hL0 e2 dL_law_462 ?_
    refine lv_aload_n S0.1 S0.2.1 dL_law_463 rfl (lv_at hl 0 rfl) ?_
    refine lv_iload_n S0.1 S0.2.1 dL_law_464 rfl (lv_at hl 3 rfl) ?_
    refine k_iconst S0 dL_law_465 ?_
    refine k_iadd S0 dL_law_466 ?_
    refine r_sld (j := i + 3) (x := iI z3) S0 hX hbl hbA X (by omega) (by omega) hL0 e3 dL_law_467 ?_
    refine lv_aload_n S0.1 S0.2.1 dL_law_468 rfl (lv_at hl 0 rfl) ?_
    refine lv_iload_n S0.1 S0.2.1 dL_law_469 rfl (lv_at hl 3 rfl) ?_
    refine k_iconst S0 dL_law_470 ?_
    refine k_iadd S0 dL_law_471 ?_
    refine r_sld (j := i + 4) (x := iI z4) S0 hX hbl hbA X (by omega) (by omega) hL0 e4 dL_law_472 ?_
    refine lv_aload_n S0.1 S0.2.1 dL_law_473 rfl (lv_at hl 0 rfl) ?_
    refine lv_iload_n S0.1 S0.2.1 dL_law_474 rfl (lv_at hl 3 rfl) ?_
    refine k_iconst S0 dL_law_475 ?_
    refine k_iadd S0 dL_law_476 ?_
    refine r_sld (j := i + 5) (x := iI z5) S0 hX hbl hbA X (by omega) (by omega) hL0 e5 dL_law_477 ?_
    refine r_callVF (As := [.int (iI z1), .int (iI z2), .int (iI z3), .int (iI z4), .int (iI z5)]) (rest := [.int (bI False)]) (EFs κ) S0 X (c_X10_mow (EFs κ) l mM hMB hz1 hz2 hz3 hz4 hz5) cV_L_59 (recM X.left) rfl rfl (Nat.le_of_ble_eq_true rfl) (rmL (by decide) (by decide) (by show cells + 0 + 0 ≤ 600000; omega) (by show slots + 0 + 0 ≤ 7302250; omega)) hl.1 dL_law_478 (fun v9 w9 H locs hq X => ?_)
    rcases hq with ⟨hok2, rfl, f8, g8, rfl, mM2, hf8, hg8⟩ | ⟨hno2, rfl, rfl⟩
    · exact absurd hok2 hno
    · refine lv_icmp_eq (tgt := 740) S0.1 S0.2.1 dL_law_481 (by decide) (fun _ => ?_) (fun c9 => absurd rfl c9)
      refine W.widen (k := cells + 2) (n := slots + 22) (by show cells + 0 + 0 ≤ cells + 2; omega) (by show slots + 0 + 0 ≤ slots + 22; omega) (kk _ _ ⟨ad, ed, cap, sa, ad9, n, S, wt, nw, th, ho, be, tn, tb, mn, M, pn, P, yc, Y, dr, o, q, fk, fp, f, g, f9, g9, ⟨rfl, rfl⟩, hIV0, X.comm⟩)
