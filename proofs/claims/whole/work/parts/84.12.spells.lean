set_option maxHeartbeats 4000000 in
set_option maxRecDepth 100000 in
theorem lc_spells {p : Program} {e : Env} {s : State} {m : MethodId} {below : List Frame} {meth : Method} {c : Code} {H : Heap} {locs : List Loc} {cells slots : Nat} {Q : State → Prop} {ls : Array Slot} {κ : KK} {Γ : GG} {A : Nat → Prop} {b L i xo mo : Nat} {xs : Nat → Int32} (l : Launch) (S0 : CallFix p m c cL_law 4 s #[Value.ref b] BG RL) (hX : va_X b L xs s s.heap) (hbl : b < s.heap.size) (hbA : ¬ A b) (hl : lv_has ls 4 [(0, .ref b), (1, .ref xo), (2, .ref mo), (3, .int (iI ((i : Nat) : Int)))]) (hi : i + 9 ≤ L) (hL0 : L ≤ 4608) (hcs : cells + 2 ≤ 600000 ∧ slots + 22 ≤ 7302250) (X : LWd κ Γ A s xo mo H locs) (kk : ∀ (H1 : Heap) (locs1 : List Loc), LWd κ Γ A s xo mo H1 locs1 → W p l e room_1 s m #[Value.ref b] below meth c H1 locs1 (cells + 2) (slots + 22) Q (F0 m 740 ls [])) : W p l e room_1 s m #[Value.ref b] below meth c H locs cells slots Q (F0 m 562 ls []) := by
  obtain ⟨ad, ed, cap, sa, ad9, n, S, wt, nw, th, ho, be, tn, tb, mn, M, pn, P, yc, Y, dr, o, q, fk, fp, f, g, f9, g9, ⟨rfl, rfl⟩, hIV, X⟩ := X
  have hIV0 := hIV
  obtain ⟨hn9, hc, hed, hB, hL, hLB, hT, hTB, hfk, hfp, hM, hMB, hP, hPB, hY, hYB, hYT, hyc, hD, hQ, hq0, sM, lM, tM, fkM, fpM, mM, pM, qM⟩ := hIV
  have hcap : n ≤ cap ∧ cap < 1000 := ⟨hc.2, by have := hc.1; omega⟩
  have hN : EN (EF κ) κ := fun _ _ _ h => h
  obtain ⟨z1, hz1, e1⟩ := iI_ex (xs (i + 1))
  obtain ⟨z2, hz2, e2⟩ := iI_ex (xs (i + 2))
  have hyc60 : yc ≤ 60 := by have := hMB.1; omega
  refine lv_aload_n S0.1 S0.2.1 dL_law_562 rfl (lv_at hl 1 rfl) ?_
  refine lv_aload_n S0.1 S0.2.1 dL_law_563 rfl (lv_at hl 0 rfl) ?_
  refine lv_iload_n S0.1 S0.2.1 dL_law_564 rfl (lv_at hl 3 rfl) ?_
  refine k_iconst S0 dL_law_565 ?_
  refine k_iadd S0 dL_law_566 ?_
  refine r_sld (j := i + 1) (x := iI z1) S0 hX hbl hbA X (by omega) (by omega) hL0 e1 dL_law_567 ?_
  refine lv_aload_n S0.1 S0.2.1 dL_law_568 rfl (lv_at hl 0 rfl) ?_
  refine lv_iload_n S0.1 S0.2.1 dL_law_569 rfl (lv_at hl 3 rfl) ?_
  refine k_iconst S0 dL_law_570 ?_
  refine k_iadd S0 dL_law_571 ?_
  refine r_sld (j := i + 2) (x := iI z2) S0 hX hbl hbA X (by omega) (by omega) hL0 e2 dL_law_572 ?_
  refine r_callVF (As := [.int (iI z1), .int (iI z2)]) (rest := []) (EFs κ) S0 X (c_X9_spells (EFs κ) l hN hn9 hcap hB hL hLB hD hM hMB hP hPB hY hYB hYT hyc60 hz1 hz2) cV_L_70 (recC_0 X.left) rfl rfl (Nat.le_of_ble_eq_true rfl) (rmL (by decide) (by decide) (by show cells + 0 ≤ 600000; omega) (by show slots + 0 ≤ 7302250; omega)) hl.1 dL_law_573 (fun v9 w9 H locs hq X => ?_)
  obtain ⟨dr2, f1, g1, rfl, rfl, hD2, hF⟩ := hq
  have X := X.comm
  refine lv_aload_n S0.1 S0.2.1 dL_law_576 rfl (lv_at hl 2 rfl) ?_
  refine lv_aload_n S0.1 S0.2.1 dL_law_577 rfl (lv_at hl 0 rfl) ?_
  refine lv_iload_n S0.1 S0.2.1 dL_law_578 rfl (lv_at hl 3 rfl) ?_
  refine k_iconst S0 dL_law_579 ?_
  refine k_iadd S0 dL_law_580 ?_
  refine r_sld (j := i + 1) (x := iI z1) S0 hX hbl hbA X (by omega) (by omega) hL0 e1 dL_law_581 ?_
  refine lv_aload_n S0.1 S0.2.1 dL_law_582 rfl (lv_at hl 0 rfl) ?_
  refine lv_iload_n S0.1 S0.2.1 dL_law_583 rfl (lv_at hl 3 rfl) ?_
  refine k_iconst S0 dL_law_584 ?_
  refine k_iadd S0 dL_law_585 ?_
  refine r_sld (j := i + 2) (x := iI z2) S0 hX hbl hbA X (by omega) (by omega) hL0 e2 dL_law_586 ?_
  refine r_callVF (As := [.int (iI z1), .int (iI z2)]) (rest := [.int (iI (aSpe n S wt nw th be ho mn M pn P z1 z2))]) (EFs κ) S0 X (c_X10_spells_ (EFs κ) l sM hB lM hLB mM hMB pM hPB hz1 hz2) cV_L_73 (recM X.left) rfl rfl (Nat.le_of_ble_eq_true rfl) (rmL (by decide) (by decide) (by show cells + 0 + 0 ≤ 600000; omega) (by show slots + 0 + 0 ≤ 7302250; omega)) hl.1 dL_law_587 (fun v9 w9 H locs hq X => ?_)
  obtain ⟨f8, g8, rfl, rfl, hf8, hg8⟩ := hq
  refine lv_icmp_eq (tgt := 740) S0.1 S0.2.1 dL_law_590 (by decide) (fun _ => ?_) (fun c9 => absurd rfl c9)
  refine W.widen (k := cells + 2) (n := slots + 22) (by show cells + 0 + 0 ≤ cells + 2; omega) (by show slots + 0 + 0 ≤ slots + 22; omega) (kk _ _ ⟨ad, ed, cap, sa, ad9, n, S, wt, nw, th, ho, be, tn, tb, mn, M, pn, P, yc, Y, (dr2), o, q, fk, fp, (f1), (g1), (f8), (g8), ⟨rfl, rfl⟩, ⟨(hF.1 1 2 (by omega) (by omega) (by omega)).trans hn9, hc, hed, hB, LawC_t (hF.1 9 2 (by omega) (by omega) (by omega)) (hF.1 9 3 (by omega) (by omega) (by omega)) (hF.1 9 4 (by omega) (by omega) (by omega)) (hF.2 28 (by omega)) (hF.2 29 (by omega)) hL, hLB, TapC_t (hF.1 2 1 (by omega) (by omega) (by omega)) (hF.2 11 (by omega)) hT, hTB, (hF.1 3 0 (by omega) (by omega) (by omega)).trans hfk, (hF.1 3 1 (by omega) (by omega) (by omega)).trans hfp, MowC_t (hF.1 5 0 (by omega) (by omega) (by omega)) (hF.2 15 (by omega)) (hF.2 16 (by omega)) (hF.2 17 (by omega)) (hF.2 18 (by omega)) (hF.2 19 (by omega)) hM, hMB, ProC_t (hF.1 6 2 (by omega) (by omega) (by omega)) (hF.2 20 (by omega)) (hF.2 21 (by omega)) hP, hPB, YrC_t (hF.1 5 2 (by omega) (by omega) (by omega)) (hF.2 14 (by omega)) hY, hYB, hYT, hyc, hD2, QuaC_t (fun j => hF.1 8 j (by omega) (by omega) (by omega)) hQ, hq0, SayM_t (hf8 0 (by omega) (by omega)) (hg8 3 (by omega) (by omega) (by omega) (by omega) (by omega)) (hg8 4 (by omega) (by omega) (by omega) (by omega) (by omega)) (hg8 5 (by omega) (by omega) (by omega) (by omega) (by omega)) (hg8 6 (by omega) (by omega) (by omega) (by omega) (by omega)) (hg8 7 (by omega) (by omega) (by omega) (by omega) (by omega)) (hg8 8 (by omega) (by omega) (by omega) (by omega) (by omega)) (hg8 9 (by omega) (by omega) (by omega) (by omega) (by omega)) sM, LawM_t (hf8 10 (by omega) (by omega)) (hf8 11 (by omega) (by omega)) (hf8 12 (by omega) (by omega)) (hg8 13 (by omega) (by omega) (by omega) (by omega) (by omega)) (hg8 14 (by omega) (by omega) (by omega) (by omega) (by omega)) lM, TapM_t (hf8 17 (by omega) (by omega)) (hg8 15 (by omega) (by omega) (by omega) (by omega) (by omega)) tM, (hf8 24 (by omega) (by omega)).trans fkM, (hf8 26 (by omega) (by omega)).trans fpM, MowM_t (hf8 1 (by omega) (by omega)) (hg8 29 (by omega) (by omega) (by omega) (by omega) (by omega)) (hg8 30 (by omega) (by omega) (by omega) (by omega) (by omega)) (hg8 31 (by omega) (by omega) (by omega) (by omega) (by omega)) (hg8 32 (by omega) (by omega) (by omega) (by omega) (by omega)) (hg8 33 (by omega) (by omega) (by omega) (by omega) (by omega)) mM, ProM_t (hf8 2 (by omega) (by omega)) (hg8 34 (by omega) (by omega) (by omega) (by omega) (by omega)) (hg8 35 (by omega) (by omega) (by omega) (by omega) (by omega)) pM, QuaM_t (hf8 41 (by omega) (by omega)) (hf8 42 (by omega) (by omega)) (hf8 43 (by omega) (by omega)) (hf8 44 (by omega) (by omega)) (hf8 45 (by omega) (by omega)) (hf8 46 (by omega) (by omega)) (hf8 47 (by omega) (by omega)) (hf8 48 (by omega) (by omega)) (hf8 49 (by omega) (by omega)) qM⟩, X.comm⟩)
