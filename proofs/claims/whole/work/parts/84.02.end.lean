set_option maxHeartbeats 4000000 in
set_option maxRecDepth 100000 in
theorem lc_end {p : Program} {e : Env} {s : State} {m : MethodId} {below : List Frame} {meth : Method} {c : Code} {H : Heap} {locs : List Loc} {cells slots : Nat} {Q : State → Prop} {ls : Array Slot} {κ : KK} {Γ : GG} {A : Nat → Prop} {b L i xo mo : Nat} {xs : Nat → Int32} (l : Launch) (S0 : CallFix p m c cL_law 4 s #[Value.ref b] BG RL) (hX : va_X b L xs s s.heap) (hbl : b < s.heap.size) (hbA : ¬ A b) (hl : lv_has ls 4 [(0, .ref b), (1, .ref xo), (2, .ref mo), (3, .int (iI ((i : Nat) : Int)))]) (hi : i + 9 ≤ L) (hL0 : L ≤ 4608) (hcs : cells + 2 ≤ 600000 ∧ slots + 22 ≤ 7302250) (X : LWd κ Γ A s xo mo H locs) (kk : ∀ (H1 : Heap) (locs1 : List Loc), LWd κ Γ A s xo mo H1 locs1 → W p l e room_1 s m #[Value.ref b] below meth c H1 locs1 (cells + 2) (slots + 22) Q (F0 m 740 ls [])) : W p l e room_1 s m #[Value.ref b] below meth c H locs cells slots Q (F0 m 262 ls []) := by
  obtain ⟨ad, ed, cap, sa, ad9, n, S, wt, nw, th, ho, be, tn, tb, mn, M, pn, P, yc, Y, dr, o, q, fk, fp, f, g, f9, g9, ⟨rfl, rfl⟩, hIV, X⟩ := X
  have hIV0 := hIV
  obtain ⟨hn9, hc, hed, hB, hL, hLB, hT, hTB, hfk, hfp, hM, hMB, hP, hPB, hY, hYB, hYT, hyc, hD, hQ, hq0, sM, lM, tM, fkM, fpM, mM, pM, qM⟩ := hIV
  have hcap : n ≤ cap ∧ cap < 1000 := ⟨hc.2, by have := hc.1; omega⟩
  have hN : EN (EF κ) κ := fun _ _ _ h => h
  obtain ⟨z1, hz1, e1⟩ := iI_ex (xs (i + 1))
  refine lv_aload_n S0.1 S0.2.1 dL_law_262 rfl (lv_at hl 1 rfl) ?_
  refine lv_aload_n S0.1 S0.2.1 dL_law_263 rfl (lv_at hl 0 rfl) ?_
  refine lv_iload_n S0.1 S0.2.1 dL_law_264 rfl (lv_at hl 3 rfl) ?_
  refine k_iconst S0 dL_law_265 ?_
  refine k_iadd S0 dL_law_266 ?_
  refine r_sld (j := i + 1) (x := iI z1) S0 hX hbl hbA X (by omega) (by omega) hL0 e1 dL_law_267 ?_
  refine r_callVF (As := [.int (iI z1)]) (rest := []) (EFs κ) S0 X (c_X9_end (EFs κ) l hT.1 hTB.1 hz1) cV_L_23 (recC_0 X.left) rfl rfl (Nat.le_of_ble_eq_true rfl) (rmL (by decide) (by decide) (by show cells + 0 ≤ 600000; omega) (by show slots + 0 ≤ 7302250; omega)) hl.1 dL_law_268 (fun v9 w9 H locs hq X => ?_)
  rcases hq with ⟨hok, rfl, rfl⟩ | ⟨hno, rfl, rfl⟩
  · have X := X.comm
    refine lv_aload_n S0.1 S0.2.1 dL_law_271 rfl (lv_at hl 2 rfl) ?_
    refine lv_aload_n S0.1 S0.2.1 dL_law_272 rfl (lv_at hl 0 rfl) ?_
    refine lv_iload_n S0.1 S0.2.1 dL_law_273 rfl (lv_at hl 3 rfl) ?_
    refine k_iconst S0 dL_law_274 ?_
    refine k_iadd S0 dL_law_275 ?_
    refine r_sld (j := i + 1) (x := iI z1) S0 hX hbl hbA X (by omega) (by omega) hL0 e1 dL_law_276 ?_
    refine r_callVF (As := [.int (iI z1)]) (rest := [.int (bI True)]) (EFs κ) S0 X (c_X10_end (EFs κ) l tM.1 hTB.1 hz1) cV_L_27 (recM X.left) rfl rfl (Nat.le_of_ble_eq_true rfl) (rmL (by decide) (by decide) (by show cells + 0 + 0 ≤ 600000; omega) (by show slots + 0 + 0 ≤ 7302250; omega)) hl.1 dL_law_277 (fun v9 w9 H locs hq X => ?_)
    rcases hq with ⟨hok2, rfl, rfl⟩ | ⟨hno2, rfl, rfl⟩
    · refine lv_icmp_eq (tgt := 740) S0.1 S0.2.1 dL_law_280 (by decide) (fun _ => ?_) (fun c9 => absurd rfl c9)
      refine W.widen (k := cells + 2) (n := slots + 22) (by show cells + 0 + 0 ≤ cells + 2; omega) (by show slots + 0 + 0 ≤ slots + 22; omega) (kk _ _ ⟨ad, ed, cap, sa, ad9, n, S, wt, nw, th, ho, be, (z1.toNat), tb, mn, M, pn, P, yc, Y, dr, o, q, fk, fp, (updA f 2 (upd (f 2) 1 (iI z1))), g, (upd f9 17 (iI z1)), g9, ⟨rfl, rfl⟩, ⟨(frF (by omega)).trans hn9, hc, hed, hB, LawC_t (frF (by omega)) (frF (by omega)) (frF (by omega)) (rfl) (rfl) hL, hLB, ⟨(show updA f 2 (upd (f 2) 1 (iI z1)) 2 1 = _ by rw [updA_s, upd_s, Int.toNat_of_nonneg hok.1]), hT.2⟩, ⟨by have := hTB.1; omega, hTB.2⟩, (frF (by omega)).trans hfk, (frF (by omega)).trans hfp, MowC_t (frF (by omega)) (rfl) (rfl) (rfl) (rfl) (rfl) hM, hMB, ProC_t (frF (by omega)) (rfl) (rfl) hP, hPB, YrC_t (frF (by omega)) (rfl) hY, hYB, hYT, hyc, DrC_t (frF (by omega)) (frF (by omega)) (rfl) hD, QuaC_t (fun j => frF (by omega)) hQ, hq0, SayM_t (upd_n (by omega)) (rfl) (rfl) (rfl) (rfl) (rfl) (rfl) (rfl) sM, LawM_t (upd_n (by omega)) (upd_n (by omega)) (upd_n (by omega)) (rfl) (rfl) lM, ⟨(show upd f9 17 (iI z1) 17 = _ by rw [upd_s, Int.toNat_of_nonneg hok.1]), tM.2⟩, (upd_n (by omega)).trans fkM, (upd_n (by omega)).trans fpM, MowM_t (upd_n (by omega)) (rfl) (rfl) (rfl) (rfl) (rfl) mM, ProM_t (upd_n (by omega)) (rfl) (rfl) pM, QuaM_t (upd_n (by omega)) (upd_n (by omega)) (upd_n (by omega)) (upd_n (by omega)) (upd_n (by omega)) (upd_n (by omega)) (upd_n (by omega)) (upd_n (by omega)) (upd_n (by omega)) qM⟩, X.comm⟩)
    · exact absurd hok hno2
  · have X := X.comm
    refine lv_aload_n S0.1 S0.2.1 dL_law_271 rfl (lv_at hl 2 rfl) ?_
    refine lv_aload_n S0.1 S0.2.1 dL_law_272 rfl (lv_at hl 0 rfl) ?_
    refine lv_iload_n S0.1 S0.2.1 dL_law_273 rfl (lv_at hl 3 rfl) ?_
    refine k_iconst S0 dL_law_274 ?_
    refine k_iadd S0 dL_law_275 ?_
    refine r_sld (j := i + 1) (x := iI z1) S0 hX hbl hbA X (by omega) (by omega) hL0 e1 dL_law_276 ?_
    refine r_callVF (As := [.int (iI z1)]) (rest := [.int (bI False)]) (EFs κ) S0 X (c_X10_end (EFs κ) l tM.1 hTB.1 hz1) cV_L_27 (recM X.left) rfl rfl (Nat.le_of_ble_eq_true rfl) (rmL (by decide) (by decide) (by show cells + 0 + 0 ≤ 600000; omega) (by show slots + 0 + 0 ≤ 7302250; omega)) hl.1 dL_law_277 (fun v9 w9 H locs hq X => ?_)
    rcases hq with ⟨hok2, rfl, rfl⟩ | ⟨hno2, rfl, rfl⟩
    · exact absurd hok2 hno
    · refine lv_icmp_eq (tgt := 740) S0.1 S0.2.1 dL_law_280 (by decide) (fun _ => ?_) (fun c9 => absurd rfl c9)
      refine W.widen (k := cells + 2) (n := slots + 22) (by show cells + 0 + 0 ≤ cells + 2; omega) (by show slots + 0 + 0 ≤ slots + 22; omega) (kk _ _ ⟨ad, ed, cap, sa, ad9, n, S, wt, nw, th, ho, be, tn, tb, mn, M, pn, P, yc, Y, dr, o, q, fk, fp, f, g, f9, g9, ⟨rfl, rfl⟩, hIV0, X.comm⟩)
