abbrev rm_X4_isTold : Room := ({ frames := 0, cells := 0, slots := 0, locals := 0 } : Room)
set_option maxHeartbeats 4000000 in
set_option maxRecDepth 100000 in
theorem c_X4_isTold {E : XX} (hE : XS E) (l : Launch) {Γ : GG} {ad : Nat → Nat} {ed : Nat} {f g : Nat → Nat → Int32} {tl : va_W} {pn : Nat} {P : Nat → Nat → Nat} (hP : ProC pn P f g) (hPB : ProB pn P) {s y : Nat} (hs : s < 10) (hy : y < 1000) : Con E l yX4_isTold cX4_isTold 4 (some .boolean) rm_X4_isTold Γ (wC Γ ad ed f g tl) [.ref (ad 6), .int (iI (((s : Nat) : Int))), .int (iI (((y : Nat) : Int)))] (Qi (bI (aPt pn P s y)) (wC Γ ad ed f g tl)) := by
  refine Con_mk (by decide) (Nat.le_of_ble_eq_true rfl) ?_
  intro p e s₀ m args below meth c A Fx hr hlk hnm X ls hl
  have hl : lv_has ls 4 [(0, .ref (ad 6)), (1, .int (iI (((s : Nat) : Int)))), (2, .int (iI (((y : Nat) : Int))))] := hl
  have hB1 := hPB.1
  refine k_iconst Fx dX4_isTold_0 ?_
  refine lv_istore_n (lv' := [(3, .int (iI (0))), (0, .ref (ad 6)), (1, .int (iI (((s : Nat) : Int)))), (2, .int (iI (((y : Nat) : Int))))]) Fx.1 Fx.2.1 dX4_isTold_1 rfl hl (by decide) rfl (fun ls hl => ?_)
  have lp_2 : ∀ (nn : Nat) (j : Nat), pn - j < nn → (j ≤ pn) → (∀ q, q < j → ¬ (P 0 q = s ∧ P 1 q = y)) → ∀ (H : Heap) (locs : List Loc) (ls : Array Slot), Wd E Γ A s₀ H locs (wC Γ ad ed f g tl) → lv_has ls 4 [(0, .ref (ad 6)), (1, .int (iI (((s : Nat) : Int)))), (2, .int (iI (((y : Nat) : Int)))), (3, .int (iI (((j : Nat) : Int))))] → W p l e rm_X4_isTold s₀ m args below meth c H locs (0) (0) (RQ below args s₀ Γ A (Qi (bI (aPt pn P s y)) (wC Γ ad ed f g tl)) rm_X4_isTold) (F0 m 2 ls []) := by
    intro nn
    induction nn with
    | zero => intro j hmu; exact absurd hmu (Nat.not_lt_zero _)
    | succ nn ih =>
      intro j hmu hj hno H locs ls X hl
      have ih_2 := ih
      refine lv_iload_n Fx.1 Fx.2.1 dX4_isTold_2 rfl (lv_at hl 3 rfl) ?_
      refine lv_aload_n Fx.1 Fx.2.1 dX4_isTold_3 rfl (lv_at hl 0 rfl) ?_
      refine gC_X4_18_6 (x := (iI (((pn : Nat) : Int)))) Fx X (hP.1) dX4_isTold_4 ?_
      refine k_icmp_ge (a := ((j : Nat) : Int)) (b := ((pn : Nat) : Int)) (tgt := 38) Fx dX4_isTold_7 (by decide) (by omega) (by omega) (fun c_7 => ?_) (fun c_7 => ?_)
      · refine k_iconst Fx dX4_isTold_38 ?_
        exact r_zret Fx hr hlk X (by decide) dX4_isTold_39 rfl (Qi_mk (bI_0 (fun ⟨q, h1, h2⟩ => hno q (by omega) h2)))
      · refine lv_aload_n Fx.1 Fx.2.1 dX4_isTold_10 rfl (lv_at hl 0 rfl) ?_
        refine gC_X4_9_6 Fx X dX4_isTold_11 ?_
        refine lv_iload_n Fx.1 Fx.2.1 dX4_isTold_14 rfl (lv_at hl 3 rfl) ?_
        refine ldC_20 (z := ((j : Nat) : Int)) (i := j) (x := (iI (((P 0 j : Nat) : Int)))) Fx X (rfl) (by omega) (hP.2.1 j) dX4_isTold_15 ?_
        have bp_x := hPB.2 j
        refine lv_iload_n Fx.1 Fx.2.1 dX4_isTold_16 rfl (lv_at hl 1 rfl) ?_
        refine k_icmp_ne (a := ((P 0 j : Nat) : Int)) (b := ((s : Nat) : Int)) (tgt := 32) Fx dX4_isTold_17 (by decide) (by omega) (by omega) (fun c_17 => ?_) (fun c_17 => ?_)
        · refine k_iinc (k := 3) (a := ((j : Nat) : Int)) (lv' := [(3, .int (iI ((((j : Nat) : Int) + 1)))), (0, .ref (ad 6)), (1, .int (iI (((s : Nat) : Int)))), (2, .int (iI (((y : Nat) : Int))))]) Fx dX4_isTold_32 hl rfl (by decide) rfl (fun ls hl => ?_)
          refine lv_goto (tgt := 2) Fx.1 Fx.2.1 dX4_isTold_35 (by decide) ?_
          have hl_1 := lv_rp hl 0 rfl (show (iI ((((j : Nat) : Int) + 1))) = (iI ((((j + 1) : Nat) : Int))) from congrArg iI (by omega))
          exact ih_2 (j + 1) (by omega) (by omega) (lt_s hno (by omega)) _ _ _ X (lv_sub hl_1 [1, 2, 3, 0] rfl)
        · refine lv_aload_n Fx.1 Fx.2.1 dX4_isTold_20 rfl (lv_at hl 0 rfl) ?_
          refine gC_X4_15_6 Fx X dX4_isTold_21 ?_
          refine lv_iload_n Fx.1 Fx.2.1 dX4_isTold_24 rfl (lv_at hl 3 rfl) ?_
          refine ldC_21 (z := ((j : Nat) : Int)) (i := j) (x := (iI (((P 1 j : Nat) : Int)))) Fx X (rfl) (by omega) (hP.2.2 j) dX4_isTold_25 ?_
          refine lv_iload_n Fx.1 Fx.2.1 dX4_isTold_26 rfl (lv_at hl 2 rfl) ?_
          refine k_icmp_ne (a := ((P 1 j : Nat) : Int)) (b := ((y : Nat) : Int)) (tgt := 32) Fx dX4_isTold_27 (by decide) (by omega) (by omega) (fun c_27 => ?_) (fun c_27 => ?_)
          · refine k_iinc (k := 3) (a := ((j : Nat) : Int)) (lv' := [(3, .int (iI ((((j : Nat) : Int) + 1)))), (0, .ref (ad 6)), (1, .int (iI (((s : Nat) : Int)))), (2, .int (iI (((y : Nat) : Int))))]) Fx dX4_isTold_32 hl rfl (by decide) rfl (fun ls hl => ?_)
            refine lv_goto (tgt := 2) Fx.1 Fx.2.1 dX4_isTold_35 (by decide) ?_
            have hl_2 := lv_rp hl 0 rfl (show (iI ((((j : Nat) : Int) + 1))) = (iI ((((j + 1) : Nat) : Int))) from congrArg iI (by omega))
            exact ih_2 (j + 1) (by omega) (by omega) (lt_s hno (by omega)) _ _ _ X (lv_sub hl_2 [1, 2, 3, 0] rfl)
          · refine k_iconst Fx dX4_isTold_30 ?_
            exact r_zret Fx hr hlk X (by decide) dX4_isTold_31 rfl (Qi_mk (bI_1 ⟨j, by omega, by show _ ∧ _; omega⟩))
  have hl_3 := lv_rp hl 0 rfl (show (iI (0)) = (iI (((0 : Nat) : Int))) from congrArg iI (by omega))
  exact lp_2 _ (0) (Nat.lt_succ_self _) (by omega) (fun q h => absurd h (Nat.not_lt_zero q)) _ _ _ X (lv_sub hl_3 [1, 2, 3, 0] rfl)

abbrev rm_X4_tell : Room := ({ frames := 1, cells := 0, slots := 0, locals := 23 } : Room)
set_option maxHeartbeats 4000000 in
set_option maxRecDepth 100000 in
theorem c_X4_tell {E : XX} (hE : XS E) (l : Launch) {Γ : GG} {ad : Nat → Nat} {ed : Nat} {f g : Nat → Nat → Int32} {tl : va_W} {pn : Nat} {P : Nat → Nat → Nat} (hP : ProC pn P f g) (hPB : ProB pn P) {s y : Nat} (hs : s < 10) (hy : y < 1000) : Con E l yX4_tell cX4_tell 3 (some .boolean) rm_X4_tell Γ (wC Γ ad ed f g tl) [.ref (ad 6), .int (iI (((s : Nat) : Int))), .int (iI (((y : Nat) : Int)))] (fun v w2 => ((¬ aPt pn P s y ∧ pn < 20) ∧ v = some (.int (bI True)) ∧ ∃ f1 g1, w2 = wC Γ ad ed f1 g1 tl ∧ ProC (pn + 1) (pPut P pn (s : Nat) (y : Nat)) f1 g1 ∧ (∀ o j, ¬ (o = 6 ∧ j = 2) → f1 o j = f o j) ∧ (∀ j, j ≠ 20 → j ≠ 21 → g1 j = g j)) ∨ (¬ (¬ aPt pn P s y ∧ pn < 20) ∧ v = some (.int (bI False)) ∧ w2 = wC Γ ad ed f g tl)) := by
  refine Con_mk (by decide) (Nat.le_of_ble_eq_true rfl) ?_
  intro p e s₀ m args below meth c A Fx hr hlk hnm X ls hl
  have hl : lv_has ls 3 [(0, .ref (ad 6)), (1, .int (iI (((s : Nat) : Int)))), (2, .int (iI (((y : Nat) : Int))))] := hl
  have hB1 := hPB.1
  refine lv_aload_n Fx.1 Fx.2.1 dX4_tell_0 rfl (lv_at hl 0 rfl) ?_
  refine gC_X4_18_6 (x := (iI (((pn : Nat) : Int)))) Fx X (hP.1) dX4_tell_1 ?_
  refine k_bipush Fx dX4_tell_4 (by decide) ?_
  refine k_icmp_ge (a := ((pn : Nat) : Int)) (b := 20) (tgt := 18) Fx dX4_tell_6 (by decide) (by omega) (by omega) (fun c_6 => ?_) (fun c_6 => ?_)
  · refine k_iconst Fx dX4_tell_18 ?_
    exact r_zret Fx hr hlk X (by decide) dX4_tell_19 rfl (Or.inr ⟨by omega, (by rw [bI_f (fun h => h)]; rfl), rfl⟩)
  · refine lv_aload_n Fx.1 Fx.2.1 dX4_tell_9 rfl (lv_at hl 0 rfl) ?_
    refine lv_iload_n Fx.1 Fx.2.1 dX4_tell_10 rfl (lv_at hl 1 rfl) ?_
    refine lv_iload_n Fx.1 Fx.2.1 dX4_tell_11 rfl (lv_at hl 2 rfl) ?_
    refine r_callVi (As := [.int (iI (((s : Nat) : Int))), .int (iI (((y : Nat) : Int)))]) (rest := []) hE Fx X (c_X4_isTold hE l (by exact hP) hPB (s := s) (y := y) (by omega) (by omega)) cV_X4_22 (recC_6 X) rfl rfl (Nat.le_of_ble_eq_true rfl) (by decide) hl.1 dX4_tell_12 (fun H locs X => ?_)
    refine k_bif_eq (tgt := 20) Fx dX4_tell_15 (by decide) (fun c_15 => ?_) (fun c_15 => ?_)
    · refine lv_aload_n Fx.1 Fx.2.1 dX4_tell_20 rfl (lv_at hl 0 rfl) ?_
      refine gC_X4_9_6 Fx X dX4_tell_21 ?_
      refine lv_aload_n Fx.1 Fx.2.1 dX4_tell_24 rfl (lv_at hl 0 rfl) ?_
      refine gC_X4_18_6 (x := (iI (((pn : Nat) : Int)))) Fx X (hP.1) dX4_tell_25 ?_
      refine lv_iload_n Fx.1 Fx.2.1 dX4_tell_28 rfl (lv_at hl 1 rfl) ?_
      refine stC_20 (z := ((pn : Nat) : Int)) (i := pn) Fx X (rfl) (by omega) dX4_tell_29 (fun H locs X => ?_)
      refine lv_aload_n Fx.1 Fx.2.1 dX4_tell_30 rfl (lv_at hl 0 rfl) ?_
      refine gC_X4_15_6 Fx X dX4_tell_31 ?_
      refine lv_aload_n Fx.1 Fx.2.1 dX4_tell_34 rfl (lv_at hl 0 rfl) ?_
      refine gC_X4_18_6 (x := (iI (((pn : Nat) : Int)))) Fx X (hP.1) dX4_tell_35 ?_
      refine lv_iload_n Fx.1 Fx.2.1 dX4_tell_38 rfl (lv_at hl 2 rfl) ?_
      refine stC_21 (z := ((pn : Nat) : Int)) (i := pn) Fx X (rfl) (by omega) dX4_tell_39 (fun H locs X => ?_)
      refine lv_aload_n Fx.1 Fx.2.1 dX4_tell_40 rfl (lv_at hl 0 rfl) ?_
      refine lv_dup Fx.1 Fx.2.1 dX4_tell_41 rfl ?_
      refine gC_X4_18_6 (x := (iI (((pn : Nat) : Int)))) Fx X (hP.1) dX4_tell_42 ?_
      refine k_iconst Fx dX4_tell_45 ?_
      refine k_iadd Fx dX4_tell_46 ?_
      refine pC_X4_18_6 Fx X dX4_tell_47 (fun H locs X => ?_)
      refine k_iconst Fx dX4_tell_50 ?_
      exact r_zret Fx hr hlk X (by decide) dX4_tell_51 rfl (Or.inl ⟨⟨c_15, by omega⟩, (by rw [bI_t trivial]; rfl), _, _, rfl, ⟨congrArg iI (by omega), row_put (hP.2.1) (by omega) (fun i => rfl), row_put (hP.2.2) (by omega) (fun i => rfl)⟩, ⟨fun o j h => frF h, fun j h1 h2 => ((updA_n h2).trans (updA_n h1))⟩⟩)
    · refine k_iconst Fx dX4_tell_18 ?_
      exact r_zret Fx hr hlk X (by decide) dX4_tell_19 rfl (Or.inr ⟨fun h => h.1 c_15, (by rw [bI_f (fun h => h)]; rfl), rfl⟩)

