set_option maxHeartbeats 4000000 in
set_option maxRecDepth 100000 in
theorem lc_protest {p : Program} {e : Env} {s : State} {m : MethodId} {below : List Frame} {meth : Method} {c : Code} {H : Heap} {locs : List Loc} {cells slots : Nat} {Q : State → Prop} {ls : Array Slot} {κ : KK} {Γ : GG} {A : Nat → Prop} {b L i xo mo : Nat} {xs : Nat → Int32} (l : Launch) (S0 : CallFix p m c cL_law 4 s #[Value.ref b] BG RL) (hX : va_X b L xs s s.heap) (hbl : b < s.heap.size) (hbA : ¬ A b) (hl : lv_has ls 4 [(0, .ref b), (1, .ref xo), (2, .ref mo), (3, .int (iI ((i : Nat) : Int)))]) (hi : i + 9 ≤ L) (hL0 : L ≤ 4608) (hcs : cells + 2 ≤ 600000 ∧ slots + 22 ≤ 7302250) (X : LWd κ Γ A s xo mo H locs) (kk : ∀ (H1 : Heap) (locs1 : List Loc), LWd κ Γ A s xo mo H1 locs1 → W p l e room_1 s m #[Value.ref b] below meth c H1 locs1 (cells + 2) (slots + 22) Q (F0 m 740 ls [])) : W p l e room_1 s m #[Value.ref b] below meth c H locs cells slots Q (F0 m 486 ls []) := by
  obtain ⟨ad, ed, cap, sa, ad9, n, S, wt, nw, th, ho, be, tn, tb, mn, M, pn, P, yc, Y, dr, o, q, fk, fp, f, g, f9, g9, ⟨rfl, rfl⟩, hIV, X⟩ := X
  have hIV0 := hIV
  obtain ⟨hn9, hc, hed, hB, hL, hLB, hT, hTB, hfk, hfp, hM, hMB, hP, hPB, hY, hYB, hYT, hyc, hD, hQ, hq0, sM, lM, tM, fkM, fpM, mM, pM, qM⟩ := hIV
  have hcap : n ≤ cap ∧ cap < 1000 := ⟨hc.2, by have := hc.1; omega⟩
  have hN : EN (EF κ) κ := fun _ _ _ h => h
  obtain ⟨z1, hz1, e1⟩ := iI_ex (xs (i + 1))
  obtain ⟨z2, hz2, e2⟩ := iI_ex (xs (i + 2))
  refine lv_aload_n S0.1 S0.2.1 dL_law_486 rfl (lv_at hl 1 rfl) ?_
  refine lv_aload_n S0.1 S0.2.1 dL_law_487 rfl (lv_at hl 0 rfl) ?_
  refine lv_iload_n S0.1 S0.2.1 dL_law_488 rfl (lv_at hl 3 rfl) ?_
  refine k_iconst S0 dL_law_489 ?_
  refine k_iadd S0 dL_law_490 ?_
  refine r_sld (j := i + 1) (x := iI z1) S0 hX hbl hbA X (by omega) (by omega) hL0 e1 dL_law_491 ?_
  refine lv_aload_n S0.1 S0.2.1 dL_law_492 rfl (lv_at hl 0 rfl) ?_
  refine lv_iload_n S0.1 S0.2.1 dL_law_493 rfl (lv_at hl 3 rfl) ?_
  refine k_iconst S0 dL_law_494 ?_
  refine k_iadd S0 dL_law_495 ?_
  refine r_sld (j := i + 2) (x := iI z2) S0 hX hbl hbA X (by omega) (by omega) hL0 e2 dL_law_496 ?_
  refine r_callVF (As := [.int (iI z1), .int (iI z2)]) (rest := []) (EFs κ) S0 X (c_X9_protest (EFs κ) l hP hPB hz1 hz2) cV_L_60 (recC_0 X.left) rfl rfl (Nat.le_of_ble_eq_true rfl) (rmL (by decide) (by decide) (by show cells + 0 ≤ 600000; omega) (by show slots + 0 ≤ 7302250; omega)) hl.1 dL_law_497 (fun v9 w9 H locs hq X => ?_)
  rcases hq with ⟨hok, rfl, f1, g1, rfl, hP2, hf, hg⟩ | ⟨hno, rfl, rfl⟩
  · have X := X.comm
    refine lv_aload_n S0.1 S0.2.1 dL_law_500 rfl (lv_at hl 2 rfl) ?_
    refine lv_aload_n S0.1 S0.2.1 dL_law_501 rfl (lv_at hl 0 rfl) ?_
    refine lv_iload_n S0.1 S0.2.1 dL_law_502 rfl (lv_at hl 3 rfl) ?_
    refine k_iconst S0 dL_law_503 ?_
    refine k_iadd S0 dL_law_504 ?_
    refine r_sld (j := i + 1) (x := iI z1) S0 hX hbl hbA X (by omega) (by omega) hL0 e1 dL_law_505 ?_
    refine lv_aload_n S0.1 S0.2.1 dL_law_506 rfl (lv_at hl 0 rfl) ?_
    refine lv_iload_n S0.1 S0.2.1 dL_law_507 rfl (lv_at hl 3 rfl) ?_
    refine k_iconst S0 dL_law_508 ?_
    refine k_iadd S0 dL_law_509 ?_
    refine r_sld (j := i + 2) (x := iI z2) S0 hX hbl hbA X (by omega) (by omega) hL0 e2 dL_law_510 ?_
    refine r_callVF (As := [.int (iI z1), .int (iI z2)]) (rest := [.int (bI True)]) (EFs κ) S0 X (c_X10_protest (EFs κ) l pM hPB hz1 hz2) cV_L_64 (recM X.left) rfl rfl (Nat.le_of_ble_eq_true rfl) (rmL (by decide) (by decide) (by show cells + 0 + 0 ≤ 600000; omega) (by show slots + 0 + 0 ≤ 7302250; omega)) hl.1 dL_law_511 (fun v9 w9 H locs hq X => ?_)
    rcases hq with ⟨hok2, rfl, f8, g8, rfl, pM2, hf8, hg8⟩ | ⟨hno2, rfl, rfl⟩
    · refine lv_icmp_eq (tgt := 740) S0.1 S0.2.1 dL_law_514 (by decide) (fun _ => ?_) (fun c9 => absurd rfl c9)
      refine W.widen (k := cells + 2) (n := slots + 22) (by show cells + 0 + 0 ≤ cells + 2; omega) (by show slots + 0 + 0 ≤ slots + 22; omega) (kk _ _ ⟨ad, ed, cap, sa, ad9, n, S, wt, nw, th, ho, be, tn, tb, mn, M, (pn + 1), (pPut P pn z1 z2), yc, Y, dr, o, q, fk, fp, (f1), (g1), (f8), (g8), ⟨rfl, rfl⟩, ⟨(hf 1 2 (by omega)).trans hn9, hc, hed, hB, LawC_t (hf 9 2 (by omega)) (hf 9 3 (by omega)) (hf 9 4 (by omega)) (hg 28 (by omega) (by omega)) (hg 29 (by omega) (by omega)) hL, hLB, TapC_t (hf 2 1 (by omega)) (hg 11 (by omega) (by omega)) hT, hTB, (hf 3 0 (by omega)).trans hfk, (hf 3 1 (by omega)).trans hfp, MowC_t (hf 5 0 (by omega)) (hg 15 (by omega) (by omega)) (hg 16 (by omega) (by omega)) (hg 17 (by omega) (by omega)) (hg 18 (by omega) (by omega)) (hg 19 (by omega) (by omega)) hM, hMB, hP2, pPut_B hPB hok.2.2.2 hok.1 hok.2.1, YrC_t (hf 5 2 (by omega)) (hg 14 (by omega) (by omega)) hY, hYB, hYT, hyc, DrC_t (hf 0 10 (by omega)) (hf 4 1 (by omega)) (hg 12 (by omega) (by omega)) hD, QuaC_t (fun j => hf 8 j (by omega)) hQ, hq0, SayM_t (hf8 0 (by omega)) (hg8 3 (by omega)) (hg8 4 (by omega)) (hg8 5 (by omega)) (hg8 6 (by omega)) (hg8 7 (by omega)) (hg8 8 (by omega)) (hg8 9 (by omega)) sM, LawM_t (hf8 10 (by omega)) (hf8 11 (by omega)) (hf8 12 (by omega)) (hg8 13 (by omega)) (hg8 14 (by omega)) lM, TapM_t (hf8 17 (by omega)) (hg8 15 (by omega)) tM, (hf8 24 (by omega)).trans fkM, (hf8 26 (by omega)).trans fpM, MowM_t (hf8 1 (by omega)) (hg8 29 (by omega)) (hg8 30 (by omega)) (hg8 31 (by omega)) (hg8 32 (by omega)) (hg8 33 (by omega)) mM, pM2, QuaM_t (hf8 41 (by omega)) (hf8 42 (by omega)) (hf8 43 (by omega)) (hf8 44 (by omega)) (hf8 45 (by omega)) (hf8 46 (by omega)) (hf8 47 (by omega)) (hf8 48 (by omega)) (hf8 49 (by omega)) qM⟩, X.comm⟩)
    · exact absurd hok hno2
  · have X := X.comm
    refine lv_aload_n S0.1 S0.2.1 dL_law_500 rfl (lv_at hl 2 rfl) ?_
    refine lv_aload_n S0.1 S0.2.1 dL_law_501 rfl (lv_at hl 0 rfl) ?_
    refine lv_iload_n S0.1 S0.2.1 dL_law_502 rfl (lv_at hl 3 rfl) ?_
    refine k_iconst S0 dL_law_503 ?_
    refine k_iadd S0 dL_law_504 ?_
    refine r_sld (j := i + 1) (x := iI z1) S0 hX hbl hbA X (by omega) (by omega) hL0 e1 dL_law_505 ?_
    refine lv_aload_n S0.1 S0.2.1 dL_law_506 rfl (lv_at hl 0 rfl) ?_
    refine lv_iload_n S0.1 S0.2.1 dL_law_507 rfl (lv_at hl 3 rfl) ?_
    refine k_iconst S0 dL_law_508 ?_
    refine k_iadd S0 dL_law_509 ?_
    refine r_sld (j := i + 2) (x := iI z2) S0 hX hbl hbA X (by omega) (by omega) hL0 e2 dL_law_510 ?_
    refine r_callVF (As := [.int (iI z1), .int (iI z2)]) (rest := [.int (bI False)]) (EFs κ) S0 X (c_X10_protest (EFs κ) l pM hPB hz1 hz2) cV_L_64 (recM X.left) rfl rfl (Nat.le_of_ble_eq_true rfl) (rmL (by decide) (by decide) (by show cells + 0 + 0 ≤ 600000; omega) (by show slots + 0 + 0 ≤ 7302250; omega)) hl.1 dL_law_511 (fun v9 w9 H locs hq X => ?_)
    rcases hq with ⟨hok2, rfl, f8, g8, rfl, pM2, hf8, hg8⟩ | ⟨hno2, rfl, rfl⟩
    · exact absurd hok2 hno
    · refine lv_icmp_eq (tgt := 740) S0.1 S0.2.1 dL_law_514 (by decide) (fun _ => ?_) (fun c9 => absurd rfl c9)
      refine W.widen (k := cells + 2) (n := slots + 22) (by show cells + 0 + 0 ≤ cells + 2; omega) (by show slots + 0 + 0 ≤ slots + 22; omega) (kk _ _ ⟨ad, ed, cap, sa, ad9, n, S, wt, nw, th, ho, be, tn, tb, mn, M, pn, P, yc, Y, dr, o, q, fk, fp, f, g, f9, g9, ⟨rfl, rfl⟩, hIV0, X.comm⟩)
