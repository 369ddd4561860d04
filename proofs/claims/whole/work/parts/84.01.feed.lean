set_option maxHeartbeats 4000000 in
set_option maxRecDepth 100000 in
theorem lc_feed {p : Program} {e : Env} {s : State} {m : MethodId} {below : List Frame} {meth : Method} {c : Code} {H : Heap} {locs : List Loc} {cells slots : Nat} {Q : State → Prop} {ls : Array Slot} {κ : KK} {Γ : GG} {A : Nat → Prop} {b L i xo mo : Nat} {xs : Nat → Int32} (l : Launch) (S0 : CallFix p m c cL_law 4 s #[Value.ref b] BG RL) (hX : va_X b L xs s s.heap) (hbl : b < s.heap.size) (hbA : ¬ A b) (hl : lv_has ls 4 [(0, .ref b), (1, .ref xo), (2, .ref mo), (3, .int (iI ((i : Nat) : Int)))]) (hi : i + 9 ≤ L) (hL0 : L ≤ 4608) (hcs : cells + 2 ≤ 600000 ∧ slots + 22 ≤ 7302250) (X : LWd κ Γ A s xo mo H locs) (kk : ∀ (H1 : Heap) (locs1 : List Loc), LWd κ Γ A s xo mo H1 locs1 → W p l e room_1 s m #[Value.ref b] below meth c H1 locs1 (cells + 2) (slots + 22) Q (F0 m 740 ls [])) : W p l e room_1 s m #[Value.ref b] below meth c H locs cells slots Q (F0 m 199 ls []) := by
  obtain ⟨ad, ed, cap, sa, ad9, n, S, wt, nw, th, ho, be, tn, tb, mn, M, pn, P, yc, Y, dr, o, q, fk, fp, f, g, f9, g9, ⟨rfl, rfl⟩, hIV, X⟩ := X
  have hIV0 := hIV
  obtain ⟨hn9, hc, hed, hB, hL, hLB, hT, hTB, hfk, hfp, hM, hMB, hP, hPB, hY, hYB, hYT, hyc, hD, hQ, hq0, sM, lM, tM, fkM, fpM, mM, pM, qM⟩ := hIV
  have hcap : n ≤ cap ∧ cap < 1000 := ⟨hc.2, by have := hc.1; omega⟩
  have hN : EN (EF κ) κ := fun _ _ _ h => h
  refine lv_aload_n S0.1 S0.2.1 dL_law_199 rfl (lv_at hl 1 rfl) ?_
  refine lv_aload_n S0.1 S0.2.1 dL_law_200 rfl (lv_at hl 0 rfl) ?_
  refine lv_iload_n S0.1 S0.2.1 dL_law_201 rfl (lv_at hl 3 rfl) ?_
  refine k_iconst S0 dL_law_202 ?_
  refine k_iadd S0 dL_law_203 ?_
  refine r_sld (j := i + 1) (x := xs (i + 1)) S0 hX hbl hbA X (by omega) (by omega) hL0 rfl dL_law_204 ?_
  refine lv_aload_n S0.1 S0.2.1 dL_law_205 rfl (lv_at hl 0 rfl) ?_
  refine lv_iload_n S0.1 S0.2.1 dL_law_206 rfl (lv_at hl 3 rfl) ?_
  refine k_iconst S0 dL_law_207 ?_
  refine k_iadd S0 dL_law_208 ?_
  refine r_sld (j := i + 2) (x := xs (i + 2)) S0 hX hbl hbA X (by omega) (by omega) hL0 rfl dL_law_209 ?_
  refine lv_aload_n S0.1 S0.2.1 dL_law_210 rfl (lv_at hl 0 rfl) ?_
  refine lv_iload_n S0.1 S0.2.1 dL_law_211 rfl (lv_at hl 3 rfl) ?_
  refine k_iconst S0 dL_law_212 ?_
  refine k_iadd S0 dL_law_213 ?_
  refine r_sld (j := i + 3) (x := xs (i + 3)) S0 hX hbl hbA X (by omega) (by omega) hL0 rfl dL_law_214 ?_
  refine lv_aload_n S0.1 S0.2.1 dL_law_215 rfl (lv_at hl 0 rfl) ?_
  refine lv_iload_n S0.1 S0.2.1 dL_law_216 rfl (lv_at hl 3 rfl) ?_
  refine k_iconst S0 dL_law_217 ?_
  refine k_iadd S0 dL_law_218 ?_
  refine r_sld (j := i + 4) (x := xs (i + 4)) S0 hX hbl hbA X (by omega) (by omega) hL0 rfl dL_law_219 ?_
  refine lv_aload_n S0.1 S0.2.1 dL_law_220 rfl (lv_at hl 0 rfl) ?_
  refine lv_iload_n S0.1 S0.2.1 dL_law_221 rfl (lv_at hl 3 rfl) ?_
  refine k_iconst S0 dL_law_222 ?_
  refine k_iadd S0 dL_law_223 ?_
  refine r_sld (j := i + 5) (x := xs (i + 5)) S0 hX hbl hbA X (by omega) (by omega) hL0 rfl dL_law_224 ?_
  refine r_callVF (As := [.int (xs (i + 1)), .int (xs (i + 2)), .int (xs (i + 3)), .int (xs (i + 4)), .int (xs (i + 5))]) (rest := []) (EFs κ) S0 X (c_X9_feed (EFs κ) l hT hTB) cV_L_18 (recC_0 X.left) rfl rfl (Nat.le_of_ble_eq_true rfl) (rmL (by decide) (by decide) (by show cells + 0 ≤ 600000; omega) (by show slots + 0 ≤ 7302250; omega)) hl.1 dL_law_225 (fun v9 w9 H locs hq X => ?_)
  rcases hq with ⟨hok, rfl, f1, g1, rfl, hT2, hf, hg⟩ | ⟨hno, rfl, rfl⟩
  · have X := X.comm
    refine lv_aload_n S0.1 S0.2.1 dL_law_228 rfl (lv_at hl 2 rfl) ?_
    refine lv_aload_n S0.1 S0.2.1 dL_law_229 rfl (lv_at hl 0 rfl) ?_
    refine lv_iload_n S0.1 S0.2.1 dL_law_230 rfl (lv_at hl 3 rfl) ?_
    refine k_iconst S0 dL_law_231 ?_
    refine k_iadd S0 dL_law_232 ?_
    refine r_sld (j := i + 1) (x := xs (i + 1)) S0 hX hbl hbA X (by omega) (by omega) hL0 rfl dL_law_233 ?_
    refine lv_aload_n S0.1 S0.2.1 dL_law_234 rfl (lv_at hl 0 rfl) ?_
    refine lv_iload_n S0.1 S0.2.1 dL_law_235 rfl (lv_at hl 3 rfl) ?_
    refine k_iconst S0 dL_law_236 ?_
    refine k_iadd S0 dL_law_237 ?_
    refine r_sld (j := i + 2) (x := xs (i + 2)) S0 hX hbl hbA X (by omega) (by omega) hL0 rfl dL_law_238 ?_
    refine lv_aload_n S0.1 S0.2.1 dL_law_239 rfl (lv_at hl 0 rfl) ?_
    refine lv_iload_n S0.1 S0.2.1 dL_law_240 rfl (lv_at hl 3 rfl) ?_
    refine k_iconst S0 dL_law_241 ?_
    refine k_iadd S0 dL_law_242 ?_
    refine r_sld (j := i + 3) (x := xs (i + 3)) S0 hX hbl hbA X (by omega) (by omega) hL0 rfl dL_law_243 ?_
    refine lv_aload_n S0.1 S0.2.1 dL_law_244 rfl (lv_at hl 0 rfl) ?_
    refine lv_iload_n S0.1 S0.2.1 dL_law_245 rfl (lv_at hl 3 rfl) ?_
    refine k_iconst S0 dL_law_246 ?_
    refine k_iadd S0 dL_law_247 ?_
    refine r_sld (j := i + 4) (x := xs (i + 4)) S0 hX hbl hbA X (by omega) (by omega) hL0 rfl dL_law_248 ?_
    refine lv_aload_n S0.1 S0.2.1 dL_law_249 rfl (lv_at hl 0 rfl) ?_
    refine lv_iload_n S0.1 S0.2.1 dL_law_250 rfl (lv_at hl 3 rfl) ?_
    refine k_iconst S0 dL_law_251 ?_
    refine k_iadd S0 dL_law_252 ?_
    refine r_sld (j := i + 5) (x := xs (i + 5)) S0 hX hbl hbA X (by omega) (by omega) hL0 rfl dL_law_253 ?_
    refine r_callVF (As := [.int (xs (i + 1)), .int (xs (i + 2)), .int (xs (i + 3)), .int (xs (i + 4)), .int (xs (i + 5))]) (rest := [.int (iI ((tn + 20 : Nat) : Int))]) (EFs κ) S0 X (c_X10_feed (EFs κ) l tM hTB) cV_L_22 (recM X.left) rfl rfl (Nat.le_of_ble_eq_true rfl) (rmL (by decide) (by decide) (by show cells + 0 + 0 ≤ 600000; omega) (by show slots + 0 + 0 ≤ 7302250; omega)) hl.1 dL_law_254 (fun v9 w9 H locs hq X => ?_)
    rcases hq with ⟨hok2, rfl, f8, g8, rfl, tM2, hf8, hg8⟩ | ⟨hno2, rfl, rfl⟩
    · refine lv_icmp_eq (tgt := 740) S0.1 S0.2.1 dL_law_257 (by decide) (fun _ => ?_) (fun c9 => absurd rfl c9)
      refine W.widen (k := cells + 2) (n := slots + 22) (by show cells + 0 + 0 ≤ cells + 2; omega) (by show slots + 0 + 0 ≤ slots + 22; omega) (kk _ _ ⟨ad, ed, cap, sa, ad9, n, S, wt, nw, th, ho, be, (tn + 20), (tbF tb tn (xs (i + 1)) (xs (i + 2)) (xs (i + 3)) (xs (i + 4)) (xs (i + 5)) 20), mn, M, pn, P, yc, Y, dr, o, q, fk, fp, (f1), (g1), (f8), (g8), ⟨rfl, rfl⟩, ⟨(hf 1 2 (by omega)).trans hn9, hc, hed, hB, LawC_t (hf 9 2 (by omega)) (hf 9 3 (by omega)) (hf 9 4 (by omega)) (hg 28 (by omega)) (hg 29 (by omega)) hL, hLB, hT2, ⟨by omega, fun k => tbF_lt hTB.2 _ _ _ _ _ _ _ k⟩, (hf 3 0 (by omega)).trans hfk, (hf 3 1 (by omega)).trans hfp, MowC_t (hf 5 0 (by omega)) (hg 15 (by omega)) (hg 16 (by omega)) (hg 17 (by omega)) (hg 18 (by omega)) (hg 19 (by omega)) hM, hMB, ProC_t (hf 6 2 (by omega)) (hg 20 (by omega)) (hg 21 (by omega)) hP, hPB, YrC_t (hf 5 2 (by omega)) (hg 14 (by omega)) hY, hYB, hYT, hyc, DrC_t (hf 0 10 (by omega)) (hf 4 1 (by omega)) (hg 12 (by omega)) hD, QuaC_t (fun j => hf 8 j (by omega)) hQ, hq0, SayM_t (hf8 0 (by omega)) (hg8 3 (by omega)) (hg8 4 (by omega)) (hg8 5 (by omega)) (hg8 6 (by omega)) (hg8 7 (by omega)) (hg8 8 (by omega)) (hg8 9 (by omega)) sM, LawM_t (hf8 10 (by omega)) (hf8 11 (by omega)) (hf8 12 (by omega)) (hg8 13 (by omega)) (hg8 14 (by omega)) lM, tM2, (hf8 24 (by omega)).trans fkM, (hf8 26 (by omega)).trans fpM, MowM_t (hf8 1 (by omega)) (hg8 29 (by omega)) (hg8 30 (by omega)) (hg8 31 (by omega)) (hg8 32 (by omega)) (hg8 33 (by omega)) mM, ProM_t (hf8 2 (by omega)) (hg8 34 (by omega)) (hg8 35 (by omega)) pM, QuaM_t (hf8 41 (by omega)) (hf8 42 (by omega)) (hf8 43 (by omega)) (hf8 44 (by omega)) (hf8 45 (by omega)) (hf8 46 (by omega)) (hf8 47 (by omega)) (hf8 48 (by omega)) (hf8 49 (by omega)) qM⟩, X.comm⟩)
    · exact absurd (show tn + 20 ≤ 400 by omega) hno2
  · have X := X.comm
    refine lv_aload_n S0.1 S0.2.1 dL_law_228 rfl (lv_at hl 2 rfl) ?_
    refine lv_aload_n S0.1 S0.2.1 dL_law_229 rfl (lv_at hl 0 rfl) ?_
    refine lv_iload_n S0.1 S0.2.1 dL_law_230 rfl (lv_at hl 3 rfl) ?_
    refine k_iconst S0 dL_law_231 ?_
    refine k_iadd S0 dL_law_232 ?_
    refine r_sld (j := i + 1) (x := xs (i + 1)) S0 hX hbl hbA X (by omega) (by omega) hL0 rfl dL_law_233 ?_
    refine lv_aload_n S0.1 S0.2.1 dL_law_234 rfl (lv_at hl 0 rfl) ?_
    refine lv_iload_n S0.1 S0.2.1 dL_law_235 rfl (lv_at hl 3 rfl) ?_
    refine k_iconst S0 dL_law_236 ?_
    refine k_iadd S0 dL_law_237 ?_
    refine r_sld (j := i + 2) (x := xs (i + 2)) S0 hX hbl hbA X (by omega) (by omega) hL0 rfl dL_law_238 ?_
    refine lv_aload_n S0.1 S0.2.1 dL_law_239 rfl (lv_at hl 0 rfl) ?_
    refine lv_iload_n S0.1 S0.2.1 dL_law_240 rfl (lv_at hl 3 rfl) ?_
    refine k_iconst S0 dL_law_241 ?_
    refine k_iadd S0 dL_law_242 ?_
    refine r_sld (j := i + 3) (x := xs (i + 3)) S0 hX hbl hbA X (by omega) (by omega) hL0 rfl dL_law_243 ?_
    refine lv_aload_n S0.1 S0.2.1 dL_law_244 rfl (lv_at hl 0 rfl) ?_
    refine lv_iload_n S0.1 S0.2.1 dL_law_245 rfl (lv_at hl 3 rfl) ?_
    refine k_iconst S0 dL_law_246 ?_
    refine k_iadd S0 dL_law_247 ?_
    refine r_sld (j := i + 4) (x := xs (i + 4)) S0 hX hbl hbA X (by omega) (by omega) hL0 rfl dL_law_248 ?_
    refine lv_aload_n S0.1 S0.2.1 dL_law_249 rfl (lv_at hl 0 rfl) ?_
    refine lv_iload_n S0.1 S0.2.1 dL_law_250 rfl (lv_at hl 3 rfl) ?_
    refine k_iconst S0 dL_law_251 ?_
    refine k_iadd S0 dL_law_252 ?_
    refine r_sld (j := i + 5) (x := xs (i + 5)) S0 hX hbl hbA X (by omega) (by omega) hL0 rfl dL_law_253 ?_
    refine r_callVF (As := [.int (xs (i + 1)), .int (xs (i + 2)), .int (xs (i + 3)), .int (xs (i + 4)), .int (xs (i + 5))]) (rest := [.int (iI (-1))]) (EFs κ) S0 X (c_X10_feed (EFs κ) l tM hTB) cV_L_22 (recM X.left) rfl rfl (Nat.le_of_ble_eq_true rfl) (rmL (by decide) (by decide) (by show cells + 0 + 0 ≤ 600000; omega) (by show slots + 0 + 0 ≤ 7302250; omega)) hl.1 dL_law_254 (fun v9 w9 H locs hq X => ?_)
    rcases hq with ⟨hok2, rfl, f8, g8, rfl, tM2, hf8, hg8⟩ | ⟨hno2, rfl, rfl⟩
    · exact absurd (show tn ≤ 380 by omega) hno
    · refine lv_icmp_eq (tgt := 740) S0.1 S0.2.1 dL_law_257 (by decide) (fun _ => ?_) (fun c9 => absurd rfl c9)
      refine W.widen (k := cells + 2) (n := slots + 22) (by show cells + 0 + 0 ≤ cells + 2; omega) (by show slots + 0 + 0 ≤ slots + 22; omega) (kk _ _ ⟨ad, ed, cap, sa, ad9, n, S, wt, nw, th, ho, be, tn, tb, mn, M, pn, P, yc, Y, dr, o, q, fk, fp, f, g, f9, g9, ⟨rfl, rfl⟩, hIV0, X.comm⟩)
