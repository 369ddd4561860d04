set_option maxHeartbeats 4000000 in
set_option maxRecDepth 100000 in
theorem whole_start {p : Program} {e : Env} {s : State} {m : MethodId} {below : List Frame} {meth : Method} {c : Code} (l : Launch) {b L : Nat} {xs : Nat → Int32} (hL : L ≤ 4608) (C0 : lw_At p s m meth c b L xs) : W p l e room_1 s m #[Value.ref b] below meth c s.heap [] 0 0 (lw_Z below #[Value.ref b] s) (entryFrame m ([Value.ref b] : List Value).toArray 4) := by
  obtain ⟨hx, hb, hr, hml, hown, hts, hX, hbl, hlocks, hgv⟩ := id C0
  have S0 : CallFix p m c cL_law 4 s #[Value.ref b] BG RL := ⟨hx, hb, hml, hown, fun w h => hts w (BG_in w h)⟩
  obtain ⟨Γ, hK⟩ := kn_start hts
  obtain ⟨κ, hE⟩ := ef_start (A := fun q : Nat => s.heap.size ≤ q) hts hgv (fun a h => Nat.not_le.mpr h)
  have hN : EN (EF κ) κ := fun _ _ _ h => h
  have X : Wd (EF κ) Γ (fun q : Nat => s.heap.size ≤ q) s s.heap [] [] := ⟨hK, fun k q h => by simp at h, ⟨fun i j p q h => by simp at h, fun k q h => by simp at h⟩, va_S.rf, fun q h => h, hE⟩
  have hl := lv_entry ([.ref b]) (n := 4) (Nat.le_of_ble_eq_true rfl)
  rw [lg_entry_eq]
  generalize (lg_sl ([.ref b]) ++ List.replicate (4 - (lg_sl ([.ref b])).length) Slot.unset).toArray = ls at hl ⊢
  have hl : lv_has ls 4 [(0, .ref b)] := hl
  refine r_newL_X9 S0 X (by decide) (by decide) dL_law_0 (fun q H X => ?_)
  have X : Wd (EF κ) Γ (fun q : Nat => s.heap.size ≤ q) s H [] [(q, .inr (10, [.null, .null, .null, .null, .null, .null, .null, .null, .null, .null, .int 0]))] := X
  refine lv_dup S0.1 S0.2.1 dL_law_3 rfl ?_
  refine r_callI (As := []) (rest := [.ref q]) (EFs κ) S0 X (c_X9_init (EFs κ) l hN) cI_L_9 rfl rfl (Nat.le_of_ble_eq_true rfl) (by decide) hl.1 dL_law_4 (fun v9 w9 H2 locs2 hq X2 => ?_)
  obtain ⟨rfl, ad, F1, G1, F2, G2, rfl, had, hF1, hG1, hF2, hG2⟩ := hq
  subst had
  have X := X2
  refine lv_astore_n (lv' := [(1, .ref (ad 0)), (0, .ref b)]) S0.1 S0.2.1 dL_law_7 rfl hl (by decide) rfl (fun ls hl => ?_)
  refine r_newL_X10 S0 X (by decide) (by decide) dL_law_8 (fun q H3 X3 => ?_)
  refine lv_dup S0.1 S0.2.1 dL_law_11 rfl ?_
  have X := X3.comm
  refine r_callIF (As := []) (rest := [.ref q]) (EFs κ) S0 X (c_X10_init (EFs κ) l) cI_L_12 rfl rfl (Nat.le_of_ble_eq_true rfl) (by decide) hl.1 dL_law_12 (fun v9 w9 H4 locs4 hq X4 => ?_)
  obtain ⟨rfl, ad9, f9, g9, rfl, had9, ⟨h11, h12, h26, hf0⟩, hg0, hg13⟩ := hq
  subst had9
  have X := X4.comm
  refine lv_astore_n (lv' := [(2, .ref (ad9 0)), (1, .ref (ad 0)), (0, .ref b)]) S0.1 S0.2.1 dL_law_15 rfl hl (by decide) rfl (fun ls hl => ?_)
  refine k_iconst S0 dL_law_16 ?_
  refine lv_istore_n (lv' := [(3, .int (iI 0)), (2, .ref (ad9 0)), (1, .ref (ad 0)), (0, .ref b)]) S0.1 S0.2.1 dL_law_17 rfl hl (by decide) rfl (fun ls hl => ?_)
  have hl := lv_rp hl 0 rfl (show iI 0 = iI ((0 : Nat) : Int) from rfl)
  refine W.widen (k := 100 + 0) (n := 6000 + 3 * 0) (by decide) (by decide) ?_
  have hV : IV κ κ.2.2.1 0 0 (fun _ _ => 0) (fun _ => 1) (fun _ => False) 0 12 1 0 (fun _ => 0) 0 (fun _ _ => 0) 0 (fun _ _ => 0) 0 (fun _ => 0) False False (fun _ => 0) 0 (-1) fC0 (gC0 F1 G1 F2 G2) f9 g9 := ⟨rfl, ⟨Or.inl rfl, Nat.le_refl _⟩, fun _ => rfl, ⟨Nat.zero_le _, fun i => by show 0 < 6 ∧ 0 ≤ 0 ∧ 0 < 10 ∧ 0 ≤ 0 ∧ 0 < 80 ∧ 0 < 1000 ∧ 0 < 2; omega⟩, ⟨rfl, rfl, rfl, fun k hk => hF1 k hk, fun k hk => hG1 k hk⟩, ⟨fun _ => by show 1 ≤ 20; omega, by omega, by omega, by omega⟩, ⟨rfl, fun _ => rfl⟩, ⟨Nat.zero_le _, fun _ => by show 0 < 256; omega⟩, rfl, rfl, ⟨rfl, fun _ => rfl, fun _ => rfl, fun _ => rfl, fun _ => rfl, fun _ => rfl⟩, ⟨Nat.zero_le _, fun i => by show 0 < 2 ∧ 0 ≤ 0 ∧ 0 < 10 ∧ 0 < 80 ∧ 0 < 1000; omega⟩, ⟨rfl, fun _ => rfl, fun _ => rfl⟩, ⟨Nat.zero_le _, fun i => by show 0 < 10 ∧ 0 < 1000; omega⟩, ⟨rfl, fun i h => absurd h (Nat.not_lt_zero i)⟩, ⟨fun i j _ h => absurd h (Nat.not_lt_zero j), fun i h => absurd h (Nat.not_lt_zero i)⟩, fun y => ⟨fun ⟨i, h, _⟩ => absurd h (Nat.not_lt_zero i), fun ⟨i, h, _⟩ => absurd h (Nat.not_lt_zero i)⟩, Nat.le_refl _, ⟨(show fC0 0 10 = 0 from rfl).trans (bI_f (fun h => h)).symm, fun z => absurd z (fun h => h)⟩, ⟨(show fC0 8 0 = 0 from rfl).trans (bI_f (fun h => h)).symm, fun z => absurd z (fun h => h)⟩, fun z => absurd z (fun h => h), ⟨hf0 0 (by omega) (by omega) (by omega), fun i => hg0 3 (by omega) i, fun i => hg0 4 (by omega) i, fun i => hg0 5 (by omega) i, fun i => hg0 6 (by omega) i, fun i => hg0 7 (by omega) i, fun i => hg0 8 (by omega) i, fun i => hg0 9 (by omega) i⟩, ⟨hf0 10 (by omega) (by omega) (by omega), h11, h12, fun k hk => hg13 k hk, fun k hk => (hg0 14 (by omega) k).trans (bI_f (fun h => h)).symm⟩, ⟨hf0 17 (by omega) (by omega) (by omega), fun i => hg0 15 (by omega) i⟩, hf0 24 (by omega) (by omega) (by omega), h26, ⟨hf0 1 (by omega) (by omega) (by omega), fun i => hg0 29 (by omega) i, fun i => hg0 30 (by omega) i, fun i => hg0 31 (by omega) i, fun i => hg0 32 (by omega) i, fun i => hg0 33 (by omega) i⟩, ⟨hf0 2 (by omega) (by omega) (by omega), fun i => hg0 34 (by omega) i, fun i => hg0 35 (by omega) i⟩, ⟨(hf0 41 (by omega) (by omega) (by omega)).trans (bI_f (fun h => h)).symm, hf0 42 (by omega) (by omega) (by omega), hf0 43 (by omega) (by omega) (by omega), hf0 44 (by omega) (by omega) (by omega), hf0 45 (by omega) (by omega) (by omega), hf0 46 (by omega) (by omega) (by omega), hf0 47 (by omega) (by omega) (by omega), hf0 48 (by omega) (by omega) (by omega), hf0 49 (by omega) (by omega) (by omega)⟩⟩
  exact law_loop l hL C0 (L + 1) 0 (by omega) (Nat.zero_le _) H4 locs4 ls ⟨ad, κ.2.2.1, 0, (fun _ => 0), ad9, 0, (fun _ _ => 0), (fun _ => 1), (fun _ => False), 0, 12, 1, 0, (fun _ => 0), 0, (fun _ _ => 0), 0, (fun _ _ => 0), 0, (fun _ => 0), False, False, (fun _ => 0), 0, (-1), fC0, (gC0 F1 G1 F2 G2), f9, g9, ⟨rfl, rfl⟩, hV, X⟩ (lv_sub hl [3, 2, 1, 0] rfl)
