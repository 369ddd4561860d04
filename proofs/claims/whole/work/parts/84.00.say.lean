set_option maxHeartbeats 4000000 in
set_option maxRecDepth 100000 in
theorem lc_say {p : Program} {e : Env} {s : State} {m : MethodId} {below : List Frame} {meth : Method} {c : Code} {H : Heap} {locs : List Loc} {cells slots : Nat} {Q : State → Prop} {ls : Array Slot} {κ : KK} {Γ : GG} {A : Nat → Prop} {b L i xo mo : Nat} {xs : Nat → Int32} (l : Launch) (S0 : CallFix p m c cL_law 4 s #[Value.ref b] BG RL) (hX : va_X b L xs s s.heap) (hbl : b < s.heap.size) (hbA : ¬ A b) (hl : lv_has ls 4 [(0, .ref b), (1, .ref xo), (2, .ref mo), (3, .int (iI ((i : Nat) : Int)))]) (hi : i + 9 ≤ L) (hL0 : L ≤ 4608) (hcs : cells + 2 ≤ 600000 ∧ slots + 22 ≤ 7302250) (X : LWd κ Γ A s xo mo H locs) (kk : ∀ (H1 : Heap) (locs1 : List Loc), LWd κ Γ A s xo mo H1 locs1 → W p l e room_1 s m #[Value.ref b] below meth c H1 locs1 (cells + 2) (slots + 22) Q (F0 m 740 ls [])) : W p l e room_1 s m #[Value.ref b] below meth c H locs cells slots Q (F0 m 112 ls []) := by
  obtain ⟨ad, ed, cap, sa, ad9, n, S, wt, nw, th, ho, be, tn, tb, mn, M, pn, P, yc, Y, dr, o, q, fk, fp, f, g, f9, g9, ⟨rfl, rfl⟩, hIV, X⟩ := X
  have hIV0 := hIV
  obtain ⟨hn9, hc, hed, hB, hL, hLB, hT, hTB, hfk, hfp, hM, hMB, hP, hPB, hY, hYB, hYT, hyc, hD, hQ, hq0, sM, lM, tM, fkM, fpM, mM, pM, qM⟩ := hIV
  have hcap : n ≤ cap ∧ cap < 1000 := ⟨hc.2, by have := hc.1; omega⟩
  have hN : EN (EF κ) κ := fun _ _ _ h => h
  obtain ⟨z1, hz1, e1⟩ := iI_ex (xs (i + 1))
  obtain ⟨z2, hz2, e2⟩ := iI_ex (xs (i + 2))
  obtain ⟨z3, hz3, e3⟩ := iI_ex (xs (i + 3))
  obtain ⟨z4, hz4, e4⟩ := iI_ex (xs (i + 4))
  obtain ⟨z5, hz5, e5⟩ := iI_ex (xs (i + 5))
  obtain ⟨z6, hz6, e6⟩ := iI_ex (xs (i + 6))
  obtain ⟨z7, hz7, e7⟩ := iI_ex (xs (i + 7))
  refine lv_aload_n S0.1 S0.2.1 dL_law_112 rfl (lv_at hl 1 rfl) ?_
  refine lv_aload_n S0.1 S0.2.1 dL_law_113 rfl (lv_at hl 0 rfl) ?_
  refine lv_iload_n S0.1 S0.2.1 dL_law_114 rfl (lv_at hl 3 rfl) ?_
  refine k_iconst S0 dL_law_115 ?_
  refine k_iadd S0 dL_law_116 ?_
  refine r_sld (j := i + 1) (x := iI z1) S0 hX hbl hbA X (by omega) (by omega) hL0 e1 dL_law_117 ?_
  refine lv_aload_n S0.1 S0.2.1 dL_law_118 rfl (lv_at hl 0 rfl) ?_
  refine lv_iload_n S0.1 S0.2.1 dL_law_119 rfl (lv_at hl 3 rfl) ?_
  refine k_iconst S0 dL_law_120 ?_
  refine k_iadd S0 dL_law_121 ?_
  refine r_sld (j := i + 2) (x := iI z2) S0 hX hbl hbA X (by omega) (by omega) hL0 e2 dL_law_122 ?_
  refine lv_aload_n S0.1 S0.2.1 dL_law_123 rfl (lv_at hl 0 rfl) ?_
  refine lv_iload_n S0.1 S0.2.1 dL_law_124 rfl (lv_at hl 3 rfl) ?_
  refine k_iconst S0 dL_law_125 ?_
  refine k_iadd S0 dL_law_126 ?_
  refine r_sld (j := i + 3) (x := iI z3) S0 hX hbl hbA X (by omega) (by omega) hL0 e3 dL_law_127 ?_
  refine lv_aload_n S0.1 S0.2.1 dL_law_128 rfl (lv_at hl 0 rfl) ?_
  refine lv_iload_n S0.1 S0.2.1 dL_law_129 rfl (lv_at hl 3 rfl) ?_
  refine k_iconst S0 dL_law_130 ?_
  refine k_iadd S0 dL_law_131 ?_
  refine r_sld (j := i + 4) (x := iI z4) S0 hX hbl hbA X (by omega) (by omega) hL0 e4 dL_law_132 ?_
  refine lv_aload_n S0.1 S0.2.1 dL_law_133 rfl (lv_at hl 0 rfl) ?_
  refine lv_iload_n S0.1 S0.2.1 dL_law_134 rfl (lv_at hl 3 rfl) ?_
  refine k_iconst S0 dL_law_135 ?_
  refine k_iadd S0 dL_law_136 ?_
  refine r_sld (j := i + 5) (x := iI z5) S0 hX hbl hbA X (by omega) (by omega) hL0 e5 dL_law_137 ?_
  refine lv_aload_n S0.1 S0.2.1 dL_law_138 rfl (lv_at hl 0 rfl) ?_
  refine lv_iload_n S0.1 S0.2.1 dL_law_139 rfl (lv_at hl 3 rfl) ?_
  refine k_bipush S0 dL_law_140 (by decide) ?_
  refine k_iadd S0 dL_law_142 ?_
  refine r_sld (j := i + 6) (x := iI z6) S0 hX hbl hbA X (by omega) (by omega) hL0 e6 dL_law_143 ?_
  refine lv_aload_n S0.1 S0.2.1 dL_law_144 rfl (lv_at hl 0 rfl) ?_
  refine lv_iload_n S0.1 S0.2.1 dL_law_145 rfl (lv_at hl 3 rfl) ?_
  refine k_bipush S0 dL_law_146 (by decide) ?_
  refine k_iadd S0 dL_law_148 ?_
  refine r_sld (j := i + 7) (x := iI z7) S0 hX hbl hbA X (by omega) (by omega) hL0 e7 dL_law_149 ?_
  refine r_callVF (As := [.int (iI z1), .int (iI z2), .int (iI z3), .int (iI z4), .int (iI z5), .int (iI z6), .int (iI z7)]) (rest := []) (EFs κ) S0 X (c_X9_say (EFs κ) l hN hn9 hc hed hB hz1 hz2 hz3 hz4 hz5 hz6 hz7) cV_L_13 (recC_0 X.left) rfl rfl (Nat.le_of_ble_eq_true rfl) (rmL (by decide) (by decide) (by show cells + 2 ≤ 600000; omega) (by show slots + 22 ≤ 7302250; omega)) hl.1 dL_law_150 (fun v9 w9 H locs hq X => ?_)
  rcases hq with ⟨hok, rfl, ed2, cap2, sa2, f1, rfl, hc2, hn2, hd2, hf⟩ | ⟨hno, rfl, rfl⟩
  · have X := X.comm
    refine lv_aload_n S0.1 S0.2.1 dL_law_153 rfl (lv_at hl 2 rfl) ?_
    refine lv_aload_n S0.1 S0.2.1 dL_law_154 rfl (lv_at hl 0 rfl) ?_
    refine lv_iload_n S0.1 S0.2.1 dL_law_155 rfl (lv_at hl 3 rfl) ?_
    refine k_iconst S0 dL_law_156 ?_
    refine k_iadd S0 dL_law_157 ?_
    refine r_sld (j := i + 1) (x := iI z1) S0 hX hbl hbA X (by omega) (by omega) hL0 e1 dL_law_158 ?_
    refine lv_aload_n S0.1 S0.2.1 dL_law_159 rfl (lv_at hl 0 rfl) ?_
    refine lv_iload_n S0.1 S0.2.1 dL_law_160 rfl (lv_at hl 3 rfl) ?_
    refine k_iconst S0 dL_law_161 ?_
    refine k_iadd S0 dL_law_162 ?_
    refine r_sld (j := i + 2) (x := iI z2) S0 hX hbl hbA X (by omega) (by omega) hL0 e2 dL_law_163 ?_
    refine lv_aload_n S0.1 S0.2.1 dL_law_164 rfl (lv_at hl 0 rfl) ?_
    refine lv_iload_n S0.1 S0.2.1 dL_law_165 rfl (lv_at hl 3 rfl) ?_
    refine k_iconst S0 dL_law_166 ?_
    refine k_iadd S0 dL_law_167 ?_
    refine r_sld (j := i + 3) (x := iI z3) S0 hX hbl hbA X (by omega) (by omega) hL0 e3 dL_law_168 ?_
    refine lv_aload_n S0.1 S0.2.1 dL_law_169 rfl (lv_at hl 0 rfl) ?_
    refine lv_iload_n S0.1 S0.2.1 dL_law_170 rfl (lv_at hl 3 rfl) ?_
    refine k_iconst S0 dL_law_171 ?_
    refine k_iadd S0 dL_law_172 ?_
    refine r_sld (j := i + 4) (x := iI z4) S0 hX hbl hbA X (by omega) (by omega) hL0 e4 dL_law_173 ?_
    refine lv_aload_n S0.1 S0.2.1 dL_law_174 rfl (lv_at hl 0 rfl) ?_
    refine lv_iload_n S0.1 S0.2.1 dL_law_175 rfl (lv_at hl 3 rfl) ?_
    refine k_iconst S0 dL_law_176 ?_
    refine k_iadd S0 dL_law_177 ?_
    refine r_sld (j := i + 5) (x := iI z5) S0 hX hbl hbA X (by omega) (by omega) hL0 e5 dL_law_178 ?_
    refine lv_aload_n S0.1 S0.2.1 dL_law_179 rfl (lv_at hl 0 rfl) ?_
    refine lv_iload_n S0.1 S0.2.1 dL_law_180 rfl (lv_at hl 3 rfl) ?_
    refine k_bipush S0 dL_law_181 (by decide) ?_
    refine k_iadd S0 dL_law_183 ?_
    refine r_sld (j := i + 6) (x := iI z6) S0 hX hbl hbA X (by omega) (by omega) hL0 e6 dL_law_184 ?_
    refine lv_aload_n S0.1 S0.2.1 dL_law_185 rfl (lv_at hl 0 rfl) ?_
    refine lv_iload_n S0.1 S0.2.1 dL_law_186 rfl (lv_at hl 3 rfl) ?_
    refine k_bipush S0 dL_law_187 (by decide) ?_
    refine k_iadd S0 dL_law_189 ?_
    refine r_sld (j := i + 7) (x := iI z7) S0 hX hbl hbA X (by omega) (by omega) hL0 e7 dL_law_190 ?_
    refine r_callVF (As := [.int (iI z1), .int (iI z2), .int (iI z3), .int (iI z4), .int (iI z5), .int (iI z6), .int (iI z7)]) (rest := [.int (iI (n : Nat))]) (EFs κ) S0 X (c_X10_say (EFs κ) l sM hB hz1 hz2 hz3 hz4 hz5 hz6 hz7) cV_L_17 (recM X.left) rfl rfl (Nat.le_of_ble_eq_true rfl) (rmL (by decide) (by decide) (by show cells + 2 + 0 ≤ 600000; omega) (by show slots + 22 + 0 ≤ 7302250; omega)) hl.1 dL_law_191 (fun v9 w9 H locs hq X => ?_)
    rcases hq with ⟨hok2, rfl, f8, g8, rfl, sM2, hf8, hg8⟩ | ⟨hno2, rfl, rfl⟩
    · refine lv_icmp_eq (tgt := 740) S0.1 S0.2.1 dL_law_194 (by decide) (fun _ => ?_) (fun c9 => absurd rfl c9)
      refine W.widen (k := cells + 2) (n := slots + 22) (by show cells + 2 + 0 ≤ cells + 2; omega) (by show slots + 22 + 0 ≤ slots + 22; omega) (kk _ _ ⟨ad, (ed2), (cap2), (sa2), ad9, (n + 1), (sPut S n z1 z2 z3 z4 z5 z6 z7), wt, nw, th, ho, be, tn, tb, mn, M, pn, P, yc, Y, (False), o, q, fk, fp, (f1), g, (f8), (g8), ⟨rfl, rfl⟩, ⟨hn2, hc2, fun z => absurd hc2.2 (by omega), sPut_B hB hok.2 hok.1, LawC_t (hf 9 2 (by omega) (by omega)) (hf 9 3 (by omega) (by omega)) (hf 9 4 (by omega) (by omega)) (rfl) (rfl) hL, hLB, TapC_t (hf 2 1 (by omega) (by omega)) (rfl) hT, hTB, (hf 3 0 (by omega) (by omega)).trans hfk, (hf 3 1 (by omega) (by omega)).trans hfp, MowC_t (hf 5 0 (by omega) (by omega)) (rfl) (rfl) (rfl) (rfl) (rfl) hM, hMB, ProC_t (hf 6 2 (by omega) (by omega)) (rfl) (rfl) hP, hPB, YrC_t (hf 5 2 (by omega) (by omega)) (rfl) hY, hYB, hYT, hyc, ⟨hd2, fun z => absurd z id⟩, QuaC_t (fun j => hf 8 j (by omega) (by omega)) hQ, hq0, sM2, LawM_t (hf8 10 (by omega)) (hf8 11 (by omega)) (hf8 12 (by omega)) (hg8 13 (by omega)) (hg8 14 (by omega)) lM, TapM_t (hf8 17 (by omega)) (hg8 15 (by omega)) tM, (hf8 24 (by omega)).trans fkM, (hf8 26 (by omega)).trans fpM, MowM_t (hf8 1 (by omega)) (hg8 29 (by omega)) (hg8 30 (by omega)) (hg8 31 (by omega)) (hg8 32 (by omega)) (hg8 33 (by omega)) mM, ProM_t (hf8 2 (by omega)) (hg8 34 (by omega)) (hg8 35 (by omega)) pM, QuaM_t (hf8 41 (by omega)) (hf8 42 (by omega)) (hf8 43 (by omega)) (hf8 44 (by omega)) (hf8 45 (by omega)) (hf8 46 (by omega)) (hf8 47 (by omega)) (hf8 48 (by omega)) (hf8 49 (by omega)) qM⟩, X.comm⟩)
    · exact absurd hok hno2
  · have X := X.comm
    refine lv_aload_n S0.1 S0.2.1 dL_law_153 rfl (lv_at hl 2 rfl) ?_
    refine lv_aload_n S0.1 S0.2.1 dL_law_154 rfl (lv_at hl 0 rfl) ?_
    refine lv_iload_n S0.1 S0.2.1 dL_law_155 rfl (lv_at hl 3 rfl) ?_
    refine k_iconst S0 dL_law_156 ?_
    refine k_iadd S0 dL_law_157 ?_
    refine r_sld (j := i + 1) (x := iI z1) S0 hX hbl hbA X (by omega) (by omega) hL0 e1 dL_law_158 ?_
    refine lv_aload_n S0.1 S0.2.1 dL_law_159 rfl (lv_at hl 0 rfl) ?_
    refine lv_iload_n S0.1 S0.2.1 dL_law_160 rfl (lv_at hl 3 rfl) ?_
    refine k_iconst S0 dL_law_161 ?_
    refine k_iadd S0 dL_law_162 ?_
    refine r_sld (j := i + 2) (x := iI z2) S0 hX hbl hbA X (by omega) (by omega) hL0 e2 dL_law_163 ?_
    refine lv_aload_n S0.1 S0.2.1 dL_law_164 rfl (lv_at hl 0 rfl) ?_
    refine lv_iload_n S0.1 S0.2.1 dL_law_165 rfl (lv_at hl 3 rfl) ?_
    refine k_iconst S0 dL_law_166 ?_
    refine k_iadd S0 dL_law_167 ?_
    refine r_sld (j := i + 3) (x := iI z3) S0 hX hbl hbA X (by omega) (by omega) hL0 e3 dL_law_168 ?_
    refine lv_aload_n S0.1 S0.2.1 dL_law_169 rfl (lv_at hl 0 rfl) ?_
    refine lv_iload_n S0.1 S0.2.1 dL_law_170 rfl (lv_at hl 3 rfl) ?_
    refine k_iconst S0 dL_law_171 ?_
    refine k_iadd S0 dL_law_172 ?_
    refine r_sld (j := i + 4) (x := iI z4) S0 hX hbl hbA X (by omega) (by omega) hL0 e4 dL_law_173 ?_
    refine lv_aload_n S0.1 S0.2.1 dL_law_174 rfl (lv_at hl 0 rfl) ?_
    refine lv_iload_n S0.1 S0.2.1 dL_law_175 rfl (lv_at hl 3 rfl) ?_
    refine k_iconst S0 dL_law_176 ?_
    refine k_iadd S0 dL_law_177 ?_
    refine r_sld (j := i + 5) (x := iI z5) S0 hX hbl hbA X (by omega) (by omega) hL0 e5 dL_law_178 ?_
    refine lv_aload_n S0.1 S0.2.1 dL_law_179 rfl (lv_at hl 0 rfl) ?_
    refine lv_iload_n S0.1 S0.2.1 dL_law_180 rfl (lv_at hl 3 rfl) ?_
    refine k_bipush S0 dL_law_181 (by decide) ?_
    refine k_iadd S0 dL_law_183 ?_
    refine r_sld (j := i + 6) (x := iI z6) S0 hX hbl hbA X (by omega) (by omega) hL0 e6 dL_law_184 ?_
    refine lv_aload_n S0.1 S0.2.1 dL_law_185 rfl (lv_at hl 0 rfl) ?_
    refine lv_iload_n S0.1 S0.2.1 dL_law_186 rfl (lv_at hl 3 rfl) ?_
    refine k_bipush S0 dL_law_187 (by decide) ?_
    refine k_iadd S0 dL_law_189 ?_
    refine r_sld (j := i + 7) (x := iI z7) S0 hX hbl hbA X (by omega) (by omega) hL0 e7 dL_law_190 ?_
    refine r_callVF (As := [.int (iI z1), .int (iI z2), .int (iI z3), .int (iI z4), .int (iI z5), .int (iI z6), .int (iI z7)]) (rest := [.int (iI (-1))]) (EFs κ) S0 X (c_X10_say (EFs κ) l sM hB hz1 hz2 hz3 hz4 hz5 hz6 hz7) cV_L_17 (recM X.left) rfl rfl (Nat.le_of_ble_eq_true rfl) (rmL (by decide) (by decide) (by show cells + 2 + 0 ≤ 600000; omega) (by show slots + 22 + 0 ≤ 7302250; omega)) hl.1 dL_law_191 (fun v9 w9 H locs hq X => ?_)
    rcases hq with ⟨hok2, rfl, f8, g8, rfl, sM2, hf8, hg8⟩ | ⟨hno2, rfl, rfl⟩
    · exact absurd hok2 hno
    · refine lv_icmp_eq (tgt := 740) S0.1 S0.2.1 dL_law_194 (by decide) (fun _ => ?_) (fun c9 => absurd rfl c9)
      refine W.widen (k := cells + 2) (n := slots + 22) (by show cells + 2 + 0 ≤ cells + 2; omega) (by show slots + 22 + 0 ≤ slots + 22; omega) (kk _ _ ⟨ad, ed, cap, sa, ad9, n, S, wt, nw, th, ho, be, tn, tb, mn, M, pn, P, yc, Y, dr, o, q, fk, fp, f, g, f9, g9, ⟨rfl, rfl⟩, hIV0, X.comm⟩)
