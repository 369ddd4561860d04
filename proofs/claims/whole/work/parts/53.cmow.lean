abbrev rm_X4_isTold : Room := ({ frames := 0, cells := 0, slots := 0, locals := 0 } : Room)
set_option maxHeartbeats 4000000 in
set_option maxRecDepth 100000 in
theorem c_X4_isTold {E : XX} (hE : XS E) (l : Launch) {Γ : GG} {ad : Nat → Nat} {ed : Nat} {f g : Nat → Nat → Int32} {tl : va_W} {pn : Nat} {P : Nat → Nat → Nat} (hP : ProC pn P f g) (hPB : ProB pn P) {s y : Nat} (hs : s < 10) (hy : y < 1000) : Con E l yX4_isTold cX4_isTold 4 (some .boolean) rm_X4_isTold Γ (wC Γ ad ed f g tl) [.ref (ad 6), .int (iI (((s : Nat) : Int))), .int (iI (((y : Nat) : Int)))] (Qi (bI (aPt pn P s y)) (wC Γ ad ed f g tl)) := by
  refine Con_mk (by decide) (Nat.le_of_ble_eq_true rfl) ?_
  intro p e s₀ m args below meth c A Fx hr hlk hnm X ls hl
  have hl : lv_has ls 4 [(0, .ref (ad 6)), (1, .int (iI (((s : Nat) : Int)))), (2, .int (iI (((y : Nat) : Int))))] := hl
  have hB1 := hPB.1
  refine k_iconst Fx dX4_isTold_0 ?_
  refine lv_istore_n (lv' := [(3, .int (iI (0))), (0, .ref (ad 6)), (1, .int (iI (((s : Nat) : Int)))), (2, .int (iI (((y : Nat) : Int))))]) Fx.1 Fx.2.1 dX4_isTold_1 rfl hl (by decide) rfl (fun ls hl => ?_)
  have lp_2 : ∀ (nn : Nat) (j : Nat), pn - j < nn → (j ≤ pn) → (∀ q, q < j → ¬ (P 0 q = s ∧ P 1 q = y)) → ∀ (H : Heap) (locs : List Loc) (ls : Array Slot), Wd E Γ A s₀ H locs (wC Γ ad ed f g tl) → lv_has ls 4 [(0, .ref (ad 6)), (1, .int (iI (((s : Nat) : Int)))), (2, .int (iI (((y : Nat) : Int)))), (3, .int (iI (((j : Nat) : Int))))] → W p l e rm_X4_isTold s₀ m args below meth c H locs (0) (0) (RQ below args s₀ Γ A (Qi (bI (aPt pn P s y)) (wC Γ ad ed f g tl)) rm_X4_isTold) (F0 m 2 ls []) := by
    intro nn
    induction nn with
    | zero => intro j hmu; exact absurd hmu (Nat.not_lt_zero _)
    | succ nn ih =>
      intro j hmu hj hno H locs ls X hl
      have ih_2 := ih
      refine lv_iload_n Fx.1 Fx.2.1 dX4_isTold_2 rfl (lv_at hl 3 rfl) ?_
      refine lv_aload_n Fx.1 Fx.2.1 dX4_isTold_3 rfl (lv_at hl 0 rfl) ?_
      refine gC_X4_18_6 (x := (iI (((pn : Nat) : Int)))) Fx X (hP.1) dX4_isTold_4 ?_
      refine k_icmp_ge (a := ((j : Nat) : Int)) (b := ((pn : Nat) : Int)) (tgt := 38) Fx dX4_isTold_7 (by decide) (by omega) (by omega) (fun c_7 => ?_) (fun c_7 => ?_)
      · refine k_iconst Fx dX4_isTold_38 ?_
        exact r_zret Fx hr hlk X (by decide) dX4_isTold_39 rfl (Qi_mk (bI_0 (fun ⟨q, h1, h2⟩ => hno q (by omega) h2)))
      · refine lv_aload_n Fx.1 Fx.2.1 dX4_isTold_10 rfl (lv_at hl 0 rfl) ?_
        refine gC_X4_9_6 Fx X dX4_isTold_11 ?_
        refine lv_iload_n Fx.1 Fx.2.1 dX4_isTold_14 rfl (lv_at hl 3 rfl) ?_
        refine ldC_20 (z := ((j : Nat) : Int)) (i := j) (x := (iI (((P 0 j : Nat) : Int)))) Fx X (rfl) (by omega) (hP.2.1 j) dX4_isTold_15 ?_
        have bp_x := hPB.2 j
        refine lv_iload_n Fx.1 Fx.2.1 dX4_isTold_16 rfl (lv_at hl 1 rfl) ?_
        refine k_icmp_ne (a := ((P 0 j : Nat) : Int)) (b := ((s : Nat) : Int)) (tgt := 32) Fx dX4_isTold_17 (by decide) (by omega) (by omega) (fun c_17 => ?_) (fun c_17 => ?_)
        · refine k_iinc (k := 3) (a := ((j : Nat) : Int)) (lv' := [(3, .int (iI ((((j : Nat) : Int) + 1)))), (0, .ref (ad 6)), (1, .int (iI (((s : Nat) : Int)))), (2, .int (iI (((y : Nat) : Int))))]) Fx dX4_isTold_32 hl rfl (by decide) rfl (fun ls hl => ?_)
          refine lv_goto (tgt := 2) Fx.1 Fx.2.1 dX4_isTold_35 (by decide) ?_
          have hl_1 := lv_rp hl 0 rfl (show (iI ((((j : Nat) : Int) + 1))) = (iI ((((j + 1) : Nat) : Int))) from congrArg iI (by omega))
          exact ih_2 (j + 1) (by omega) (by omega) (lt_s hno (by omega)) _ _ _ X (lv_sub hl_1 [1, 2, 3, 0] rfl)
        · refine lv_aload_n Fx.1 Fx.2.1 dX4_isTold_20 rfl (lv_at hl 0 rfl) ?_
          refine gC_X4_15_6 Fx X dX4_isTold_21 ?_
          refine lv_iload_n Fx.1 Fx.2.1 dX4_isTold_24 rfl (lv_at hl 3 rfl) ?_
          refine ldC_21 (z := ((j : Nat) : Int)) (i := j) (x := (iI (((P 1 j : Nat) : Int)))) Fx X (rfl) (by omega) (hP.2.2 j) dX4_isTold_25 ?_
          refine lv_iload_n Fx.1 Fx.2.1 dX4_isTold_26 rfl (lv_at hl 2 rfl) ?_
          refine k_icmp_ne (a := ((P 1 j : Nat) : Int)) (b := ((y : Nat) : Int)) (tgt := 32) Fx dX4_isTold_27 (by decide) (by omega) (by omega) (fun c_27 => ?_) (fun c_27 => ?_)
          · refine k_iinc (k := 3) (a := ((j : Nat) : Int)) (lv' := [(3, .int (iI ((((j : Nat) : Int) + 1)))), (0, .ref (ad 6)), (1, .int (iI (((s : Nat) : Int)))), (2, .int (iI (((y : Nat) : Int))))]) Fx dX4_isTold_32 hl rfl (by decide) rfl (fun ls hl => ?_)
            refine lv_goto (tgt := 2) Fx.1 Fx.2.1 dX4_isTold_35 (by decide) ?_
            have hl_2 := lv_rp hl 0 rfl (show (iI ((((j : Nat) : Int) + 1))) = (iI ((((j + 1) : Nat) : Int))) from congrArg iI (by omega))
            exact ih_2 (j + 1) (by omega) (by omega) (lt_s hno (by omega)) _ _ _ X (lv_sub hl_2 [1, 2, 3, 0] rfl)
          · refine k_iconst Fx dX4_isTold_30 ?_
            exact r_zret Fx hr hlk X (by decide) dX4_isTold_31 rfl (Qi_mk (bI_1 ⟨j, by omega, by show _ ∧ _; omega⟩))
  have hl_3 := lv_rp hl 0 rfl (show (iI (0)) = (iI (((0 : Nat) : Int))) from congrArg iI (by omega))
  exact lp_2 _ (0) (Nat.lt_succ_self _) (by omega) (fun q h => absurd h (Nat.not_lt_zero q)) _ _ _ X (lv_sub hl_3 [1, 2, 3, 0] rfl)

abbrev rm_X4_tell : Room := ({ frames := 1, cells := 0, slots := 0, locals := 23 } : Room)
set_option maxHeartbeats 4000000 in
set_option maxRecDepth 100000 in
theorem c_X4_tell {E : XX} (hE : XS E) (l : Launch) {Γ : GG} {ad : Nat → Nat} {ed : Nat} {f g : Nat → Nat → Int32} {tl : va_W} {pn : Nat} {P : Nat → Nat → Nat} (hP : ProC pn P f g) (hPB : ProB pn P) {s y : Nat} (hs : s < 10) (hy : y < 1000) : Con E l yX4_tell cX4_tell 3 (some .boolean) rm_X4_tell Γ (wC Γ ad ed f g tl) [.ref (ad 6), .int (iI (((s : Nat) : Int))), .int (iI (((y : Nat) : Int)))] (fun v w2 => ((¬ aPt pn P s y ∧ pn < 20) ∧ v = some (.int (bI True)) ∧ ∃ f1 g1, w2 = wC Γ ad ed f1 g1 tl ∧ ProC (pn + 1) (pPut P pn (s : Nat) (y : Nat)) f1 g1 ∧ (∀ o j, ¬ (o = 6 ∧ j = 2) → f1 o j = f o j) ∧ (∀ j, j ≠ 20 → j ≠ 21 → g1 j = g j)) ∨ (¬ (¬ aPt pn P s y ∧ pn < 20) ∧ v = some (.int (bI False)) ∧ w2 = wC Γ ad ed f g tl)) := by
  refine Con_mk (by decide) (Nat.le_of_ble_eq_true rfl) ?_
  intro p e s₀ m args below meth c A Fx hr hlk hnm X ls hl
  have hl : lv_has ls 3 [(0, .ref (ad 6)), (1, .int (iI (((s : Nat) : Int)))), (2, .int (iI (((y : Nat) : Int))))] := hl
  have hB1 := hPB.1
  refine lv_aload_n Fx.1 Fx.2.1 dX4_tell_0 rfl (lv_at hl 0 rfl) ?_
  refine gC_X4_18_6 (x := (iI (((pn : Nat) : Int)))) Fx X (hP.1) dX4_tell_1 ?_
  refine k_bipush Fx dX4_tell_4 (by decide) ?_
  refine k_icmp_ge (a := ((pn : Nat) : Int)) (b := 20) (tgt := 18) Fx dX4_tell_6 (by decide) (by omega) (by omega) (fun c_6 => ?_) (fun c_6 => ?_)
  · refine k_iconst Fx dX4_tell_18 ?_
    exact r_zret Fx hr hlk X (by decide) dX4_tell_19 rfl (Or.inr ⟨by omega, (by rw [bI_f (fun h => h)]; rfl), rfl⟩)
  · refine lv_aload_n Fx.1 Fx.2.1 dX4_tell_9 rfl (lv_at hl 0 rfl) ?_
    refine lv_iload_n Fx.1 Fx.2.1 dX4_tell_10 rfl (lv_at hl 1 rfl) ?_
    refine lv_iload_n Fx.1 Fx.2.1 dX4_tell_11 rfl (lv_at hl 2 rfl) ?_
    refine r_callVi (As := [.int (iI (((s : Nat) : Int))), .int (iI (((y : Nat) : Int)))]) (rest := []) hE Fx X (c_X4_isTold hE l (by exact hP) hPB (s := s) (y := y) (by omega) (by omega)) cV_X4_22 (recC_6 X) rfl rfl (Nat.le_of_ble_eq_true rfl) (by decide) hl.1 dX4_tell_12 (fun H locs X => ?_)
    refine k_bif_eq (tgt := 20) Fx dX4_tell_15 (by decide) (fun c_15 => ?_) (fun c_15 => ?_)
    · refine lv_aload_n Fx.1 Fx.2.1 dX4_tell_20 rfl (lv_at hl 0 rfl) ?_
      refine gC_X4_9_6 Fx X dX4_tell_21 ?_
      refine lv_aload_n Fx.1 Fx.2.1 dX4_tell_24 rfl (lv_at hl 0 rfl) ?_
      refine gC_X4_18_6 (x := (iI (((pn : Nat) : Int)))) Fx X (hP.1) dX4_tell_25 ?_
      refine lv_iload_n Fx.1 Fx.2.1 dX4_tell_28 rfl (lv_at hl 1 rfl) ?_
      refine stC_20 (z := ((pn : Nat) : Int)) (i := pn) Fx X (rfl) (by omega) dX4_tell_29 (fun H locs X => ?_)
      refine lv_aload_n Fx.1 Fx.2.1 dX4_tell_30 rfl (lv_at hl 0 rfl) ?_
      refine gC_X4_15_6 Fx X dX4_tell_31 ?_
      refine lv_aload_n Fx.1 Fx.2.1 dX4_tell_34 rfl (lv_at hl 0 rfl) ?_
      refine gC_X4_18_6 (x := (iI (((pn : Nat) : Int)))) Fx X (hP.1) dX4_tell_35 ?_
      refine lv_iload_n Fx.1 Fx.2.1 dX4_tell_38 rfl (lv_at hl 2 rfl) ?_
      refine stC_21 (z := ((pn : Nat) : Int)) (i := pn) Fx X (rfl) (by omega) dX4_tell_39 (fun H locs X => ?_)
      refine lv_aload_n Fx.1 Fx.2.1 dX4_tell_40 rfl (lv_at hl 0 rfl) ?_
      refine lv_dup Fx.1 Fx.2.1 dX4_tell_41 rfl ?_
      refine gC_X4_18_6 (x := (iI (((pn : Nat) : Int)))) Fx X (hP.1) dX4_tell_42 ?_
      refine k_iconst Fx dX4_tell_45 ?_
      refine k_iadd Fx dX4_tell_46 ?_
      refine pC_X4_18_6 Fx X dX4_tell_47 (fun H locs X => ?_)
      refine k_iconst Fx dX4_tell_50 ?_
      exact r_zret Fx hr hlk X (by decide) dX4_tell_51 rfl (Or.inl ⟨⟨c_15, by omega⟩, (by rw [bI_t trivial]; rfl), _, _, rfl, ⟨congrArg iI (by omega), row_put (hP.2.1) (by omega) (fun i => rfl), row_put (hP.2.2) (by omega) (fun i => rfl)⟩, ⟨fun o j h => frF h, fun j h1 h2 => ((updA_n h2).trans (updA_n h1))⟩⟩)
    · refine k_iconst Fx dX4_tell_18 ?_
      exact r_zret Fx hr hlk X (by decide) dX4_tell_19 rfl (Or.inr ⟨fun h => h.1 c_15, (by rw [bI_f (fun h => h)]; rfl), rfl⟩)

abbrev rm_X2_reachOf : Room := ({ frames := 0, cells := 0, slots := 0, locals := 0 } : Room)
set_option maxHeartbeats 4000000 in
set_option maxRecDepth 100000 in
theorem c_X2_reachOf {E : XX} (hE : XS E) (l : Launch) {Γ : GG} {ad : Nat → Nat} {ed : Nat} {f g : Nat → Nat → Int32} {tl : va_W} {mn : Nat} {M : Nat → Nat → Nat} (hM : MowC mn M f g) (hMB : MowB mn M) {q s y : Nat} (hq : q < 2) (hs : s < 10) (hy : y < 1000) : Con E l yX2_reachOf cX2_reachOf 5 (some .int) rm_X2_reachOf Γ (wC Γ ad ed f g tl) [.ref (ad 5), .int (iI (((q : Nat) : Int))), .int (iI (((s : Nat) : Int))), .int (iI (((y : Nat) : Int)))] (Qi (iI (aMw M q s y mn)) (wC Γ ad ed f g tl)) := by
  refine Con_mk (by decide) (Nat.le_of_ble_eq_true rfl) ?_
  intro p e s₀ m args below meth c A Fx hr hlk hnm X ls hl
  have hl : lv_has ls 5 [(0, .ref (ad 5)), (1, .int (iI (((q : Nat) : Int)))), (2, .int (iI (((s : Nat) : Int)))), (3, .int (iI (((y : Nat) : Int))))] := hl
  have hB1 := hMB.1
  refine lv_aload_n Fx.1 Fx.2.1 dX2_reachOf_0 rfl (lv_at hl 0 rfl) ?_
  refine gC_X2_9_5 (x := (iI (((mn : Nat) : Int)))) Fx X (hM.1) dX2_reachOf_1 ?_
  refine k_iconst Fx dX2_reachOf_4 ?_
  refine k_isub Fx dX2_reachOf_5 ?_
  refine lv_istore (lv' := [(4, .int (iI ((((mn : Nat) : Int) - 1)))), (0, .ref (ad 5)), (1, .int (iI (((q : Nat) : Int)))), (2, .int (iI (((s : Nat) : Int)))), (3, .int (iI (((y : Nat) : Int))))]) Fx.1 Fx.2.1 dX2_reachOf_6 hl (by decide) rfl (fun ls hl => ?_)
  have lp_8 : ∀ (nn : Nat) (a : Nat), a < nn → (a ≤ mn) → (aMw M q s y mn = aMw M q s y a) → ∀ (H : Heap) (locs : List Loc) (ls : Array Slot), Wd E Γ A s₀ H locs (wC Γ ad ed f g tl) → lv_has ls 5 [(0, .ref (ad 5)), (1, .int (iI (((q : Nat) : Int)))), (2, .int (iI (((s : Nat) : Int)))), (3, .int (iI (((y : Nat) : Int)))), (4, .int (iI ((((a : Nat) : Int) - 1))))] → W p l e rm_X2_reachOf s₀ m args below meth c H locs (0) (0) (RQ below args s₀ Γ A (Qi (iI (aMw M q s y mn)) (wC Γ ad ed f g tl)) rm_X2_reachOf) (F0 m 8 ls []) := by
    intro nn
    induction nn with
    | zero => intro a hmu; exact absurd hmu (Nat.not_lt_zero _)
    | succ nn ih =>
      intro a hmu ha hmw H locs ls X hl
      have ih_8 := ih
      refine lv_iload Fx.1 Fx.2.1 dX2_reachOf_8 (lv_at hl 4 rfl) ?_
      refine k_if_lt (a := (((a : Nat) : Int) - 1)) (tgt := 71) Fx dX2_reachOf_10 (by decide) (by omega) (fun c_10 => ?_) (fun c_10 => ?_)
      · refine k_iconst Fx dX2_reachOf_71 ?_
        exact r_iret Fx hr hlk X (by decide) dX2_reachOf_72 (Qi_mk (by rw [hmw, show a = 0 by omega]; rfl))
      · have hl := lv_rp hl 4 rfl (show (iI ((((a : Nat) : Int) - 1))) = (iI (((a - 1 : Nat) : Int))) from congrArg iI (by omega))
        refine lv_aload_n Fx.1 Fx.2.1 dX2_reachOf_13 rfl (lv_at hl 0 rfl) ?_
        refine gC_X2_22_5 Fx X dX2_reachOf_14 ?_
        refine lv_iload Fx.1 Fx.2.1 dX2_reachOf_17 (lv_at hl 4 rfl) ?_
        refine ldC_15 (z := ((a - 1 : Nat) : Int)) (i := (a - 1)) (x := (iI (((M 0 (a - 1) : Nat) : Int)))) Fx X (rfl) (by omega) (hM.2.1 (a - 1)) dX2_reachOf_19 ?_
        have bm_x := hMB.2 (a - 1)
        refine lv_iload_n Fx.1 Fx.2.1 dX2_reachOf_20 rfl (lv_at hl 1 rfl) ?_
        refine k_icmp_ne (a := ((M 0 (a - 1) : Nat) : Int)) (b := ((q : Nat) : Int)) (tgt := 65) Fx dX2_reachOf_21 (by decide) (by omega) (by omega) (fun c_21 => ?_) (fun c_21 => ?_)
        · refine k_iinc (k := 4) (a := ((a - 1 : Nat) : Int)) (lv' := [(4, .int (iI ((((a - 1 : Nat) : Int) + (-1))))), (0, .ref (ad 5)), (1, .int (iI (((q : Nat) : Int)))), (2, .int (iI (((s : Nat) : Int)))), (3, .int (iI (((y : Nat) : Int))))]) Fx dX2_reachOf_65 hl rfl (by decide) rfl (fun ls hl => ?_)
          refine lv_goto (tgt := 8) Fx.1 Fx.2.1 dX2_reachOf_68 (by decide) ?_
          have hl_1 := lv_rp hl 0 rfl (show (iI ((((a - 1 : Nat) : Int) + (-1)))) = (iI (((((a - 1) : Nat) : Int) - 1))) from congrArg iI (by omega))
          exact ih_8 (a - 1) (by omega) (by omega) (hmw.trans (by rw [show a = a - 1 + 1 by omega]; exact (mw_f (k := a - 1) (by omega)).symm)) _ _ _ X (lv_sub hl_1 [1, 2, 3, 4, 0] rfl)
        · refine lv_aload_n Fx.1 Fx.2.1 dX2_reachOf_24 rfl (lv_at hl 0 rfl) ?_
          refine gC_X2_34_5 Fx X dX2_reachOf_25 ?_
          refine lv_iload Fx.1 Fx.2.1 dX2_reachOf_28 (lv_at hl 4 rfl) ?_
          refine ldC_19 (z := ((a - 1 : Nat) : Int)) (i := (a - 1)) (x := (iI (((M 4 (a - 1) : Nat) : Int)))) Fx X (rfl) (by omega) (hM.2.2.2.2.2 (a - 1)) dX2_reachOf_30 ?_
          have bm_x := hMB.2 (a - 1)
          refine lv_iload_n Fx.1 Fx.2.1 dX2_reachOf_31 rfl (lv_at hl 3 rfl) ?_
          refine k_icmp_ne (a := ((M 4 (a - 1) : Nat) : Int)) (b := ((y : Nat) : Int)) (tgt := 65) Fx dX2_reachOf_32 (by decide) (by omega) (by omega) (fun c_32 => ?_) (fun c_32 => ?_)
          · refine k_iinc (k := 4) (a := ((a - 1 : Nat) : Int)) (lv' := [(4, .int (iI ((((a - 1 : Nat) : Int) + (-1))))), (0, .ref (ad 5)), (1, .int (iI (((q : Nat) : Int)))), (2, .int (iI (((s : Nat) : Int)))), (3, .int (iI (((y : Nat) : Int))))]) Fx dX2_reachOf_65 hl rfl (by decide) rfl (fun ls hl => ?_)
            refine lv_goto (tgt := 8) Fx.1 Fx.2.1 dX2_reachOf_68 (by decide) ?_
            have hl_2 := lv_rp hl 0 rfl (show (iI ((((a - 1 : Nat) : Int) + (-1)))) = (iI (((((a - 1) : Nat) : Int) - 1))) from congrArg iI (by omega))
            exact ih_8 (a - 1) (by omega) (by omega) (hmw.trans (by rw [show a = a - 1 + 1 by omega]; exact (mw_f (k := a - 1) (by omega)).symm)) _ _ _ X (lv_sub hl_2 [1, 2, 3, 4, 0] rfl)
          · refine lv_aload_n Fx.1 Fx.2.1 dX2_reachOf_35 rfl (lv_at hl 0 rfl) ?_
            refine gC_X2_25_5 Fx X dX2_reachOf_36 ?_
            refine lv_iload Fx.1 Fx.2.1 dX2_reachOf_39 (lv_at hl 4 rfl) ?_
            refine ldC_16 (z := ((a - 1 : Nat) : Int)) (i := (a - 1)) (x := (iI (((M 1 (a - 1) : Nat) : Int)))) Fx X (rfl) (by omega) (hM.2.2.1 (a - 1)) dX2_reachOf_41 ?_
            have bm_x := hMB.2 (a - 1)
            refine lv_iload_n Fx.1 Fx.2.1 dX2_reachOf_42 rfl (lv_at hl 2 rfl) ?_
            refine k_icmp_gt (a := ((M 1 (a - 1) : Nat) : Int)) (b := ((s : Nat) : Int)) (tgt := 65) Fx dX2_reachOf_43 (by decide) (by omega) (by omega) (fun c_43 => ?_) (fun c_43 => ?_)
            · refine k_iinc (k := 4) (a := ((a - 1 : Nat) : Int)) (lv' := [(4, .int (iI ((((a - 1 : Nat) : Int) + (-1))))), (0, .ref (ad 5)), (1, .int (iI (((q : Nat) : Int)))), (2, .int (iI (((s : Nat) : Int)))), (3, .int (iI (((y : Nat) : Int))))]) Fx dX2_reachOf_65 hl rfl (by decide) rfl (fun ls hl => ?_)
              refine lv_goto (tgt := 8) Fx.1 Fx.2.1 dX2_reachOf_68 (by decide) ?_
              have hl_3 := lv_rp hl 0 rfl (show (iI ((((a - 1 : Nat) : Int) + (-1)))) = (iI (((((a - 1) : Nat) : Int) - 1))) from congrArg iI (by omega))
              exact ih_8 (a - 1) (by omega) (by omega) (hmw.trans (by rw [show a = a - 1 + 1 by omega]; exact (mw_f (k := a - 1) (by omega)).symm)) _ _ _ X (lv_sub hl_3 [1, 2, 3, 4, 0] rfl)
            · refine lv_iload_n Fx.1 Fx.2.1 dX2_reachOf_46 rfl (lv_at hl 2 rfl) ?_
              refine lv_aload_n Fx.1 Fx.2.1 dX2_reachOf_47 rfl (lv_at hl 0 rfl) ?_
              refine gC_X2_28_5 Fx X dX2_reachOf_48 ?_
              refine lv_iload Fx.1 Fx.2.1 dX2_reachOf_51 (lv_at hl 4 rfl) ?_
              refine ldC_17 (z := ((a - 1 : Nat) : Int)) (i := (a - 1)) (x := (iI (((M 2 (a - 1) : Nat) : Int)))) Fx X (rfl) (by omega) (hM.2.2.2.1 (a - 1)) dX2_reachOf_53 ?_
              have bm_x := hMB.2 (a - 1)
              refine k_icmp_gt (a := ((s : Nat) : Int)) (b := ((M 2 (a - 1) : Nat) : Int)) (tgt := 65) Fx dX2_reachOf_54 (by decide) (by omega) (by omega) (fun c_54 => ?_) (fun c_54 => ?_)
              · refine k_iinc (k := 4) (a := ((a - 1 : Nat) : Int)) (lv' := [(4, .int (iI ((((a - 1 : Nat) : Int) + (-1))))), (0, .ref (ad 5)), (1, .int (iI (((q : Nat) : Int)))), (2, .int (iI (((s : Nat) : Int)))), (3, .int (iI (((y : Nat) : Int))))]) Fx dX2_reachOf_65 hl rfl (by decide) rfl (fun ls hl => ?_)
                refine lv_goto (tgt := 8) Fx.1 Fx.2.1 dX2_reachOf_68 (by decide) ?_
                have hl_4 := lv_rp hl 0 rfl (show (iI ((((a - 1 : Nat) : Int) + (-1)))) = (iI (((((a - 1) : Nat) : Int) - 1))) from congrArg iI (by omega))
                exact ih_8 (a - 1) (by omega) (by omega) (hmw.trans (by rw [show a = a - 1 + 1 by omega]; exact (mw_f (k := a - 1) (by omega)).symm)) _ _ _ X (lv_sub hl_4 [1, 2, 3, 4, 0] rfl)
              · refine lv_aload_n Fx.1 Fx.2.1 dX2_reachOf_57 rfl (lv_at hl 0 rfl) ?_
                refine gC_X2_31_5 Fx X dX2_reachOf_58 ?_
                refine lv_iload Fx.1 Fx.2.1 dX2_reachOf_61 (lv_at hl 4 rfl) ?_
                refine ldC_18 (z := ((a - 1 : Nat) : Int)) (i := (a - 1)) (x := (iI (((M 3 (a - 1) : Nat) : Int)))) Fx X (rfl) (by omega) (hM.2.2.2.2.1 (a - 1)) dX2_reachOf_63 ?_
                have bm_x := hMB.2 (a - 1)
                exact r_iret Fx hr hlk X (by decide) dX2_reachOf_64 (Qi_mk (hmw.symm ▸ (by rw [show a = a - 1 + 1 by omega]; exact congrArg iI (mw_t (k := a - 1) (by omega)))))
  exact lp_8 _ (mn) (Nat.lt_succ_self _) (by omega) (rfl) _ _ _ X (lv_sub hl [1, 2, 3, 4, 0] rfl)

abbrev rm_X2_noteYear : Room := ({ frames := 0, cells := 0, slots := 0, locals := 0 } : Room)
set_option maxHeartbeats 4000000 in
set_option maxRecDepth 100000 in
theorem c_X2_noteYear {E : XX} (hE : XS E) (l : Launch) {Γ : GG} {ad : Nat → Nat} {ed : Nat} {f g : Nat → Nat → Int32} {tl : va_W} {yc : Nat} {Y : Nat → Nat} (hY : YrC yc Y f g) (hYB : YrB yc Y) (hyc : yc < 60) {y : Nat} (hy9 : y < 1000) : Con E l yX2_noteYear cX2_noteYear 5 none rm_X2_noteYear Γ (wC Γ ad ed f g tl) [.ref (ad 5), .int (iI (((y : Nat) : Int)))] (fun v w2 => v = none ∧ ∃ f1 g1 yc2 Y2, w2 = wC Γ ad ed f1 g1 tl ∧ YrC yc2 Y2 f1 g1 ∧ YrB yc2 Y2 ∧ (∀ z, (∃ i, i < yc2 ∧ Y2 i = z) ↔ (∃ i, i < yc ∧ Y i = z) ∨ z = y) ∧ yc2 ≤ yc + 1 ∧ (∀ o j, ¬ (o = 5 ∧ j = 2) → f1 o j = f o j) ∧ (∀ j, j ≠ 14 → g1 j = g j)) := by
  refine Con_mk (by decide) (Nat.le_of_ble_eq_true rfl) ?_
  intro p e s₀ m args below meth c A Fx hr hlk hnm X ls hl
  have hl : lv_has ls 5 [(0, .ref (ad 5)), (1, .int (iI (((y : Nat) : Int))))] := hl
  refine k_iconst Fx dX2_noteYear_0 ?_
  refine lv_istore_n (lv' := [(2, .int (iI (0))), (0, .ref (ad 5)), (1, .int (iI (((y : Nat) : Int))))]) Fx.1 Fx.2.1 dX2_noteYear_1 rfl hl (by decide) rfl (fun ls hl => ?_)
  have lp_2 : ∀ (nn : Nat) (q : Nat), yc - q < nn → (q ≤ yc) → (∀ i, i < q → Y i < y) → ∀ (H : Heap) (locs : List Loc) (ls : Array Slot), Wd E Γ A s₀ H locs (wC Γ ad ed f g tl) → lv_has ls 5 [(0, .ref (ad 5)), (1, .int (iI (((y : Nat) : Int)))), (2, .int (iI (((q : Nat) : Int))))] → W p l e rm_X2_noteYear s₀ m args below meth c H locs (0) (0) (RQ below args s₀ Γ A (fun v w2 => v = none ∧ ∃ f1 g1 yc2 Y2, w2 = wC Γ ad ed f1 g1 tl ∧ YrC yc2 Y2 f1 g1 ∧ YrB yc2 Y2 ∧ (∀ z, (∃ i, i < yc2 ∧ Y2 i = z) ↔ (∃ i, i < yc ∧ Y i = z) ∨ z = y) ∧ yc2 ≤ yc + 1 ∧ (∀ o j, ¬ (o = 5 ∧ j = 2) → f1 o j = f o j) ∧ (∀ j, j ≠ 14 → g1 j = g j)) rm_X2_noteYear) (F0 m 2 ls []) := by
    intro nn
    induction nn with
    | zero => intro q hmu; exact absurd hmu (Nat.not_lt_zero _)
    | succ nn ih =>
      intro q hmu hq hlt H locs ls X hl
      have ih_2 := ih
      refine lv_iload_n Fx.1 Fx.2.1 dX2_noteYear_2 rfl (lv_at hl 2 rfl) ?_
      refine lv_aload_n Fx.1 Fx.2.1 dX2_noteYear_3 rfl (lv_at hl 0 rfl) ?_
      refine gC_X2_19_5 (x := (iI (((yc : Nat) : Int)))) Fx X (hY.1) dX2_noteYear_4 ?_
      refine k_icmp_ge (a := ((q : Nat) : Int)) (b := ((yc : Nat) : Int)) (tgt := 26) Fx dX2_noteYear_7 (by decide) (by omega) (by omega) (fun c_7 => ?_) (fun c_7 => ?_)
      · refine lv_iload_n Fx.1 Fx.2.1 dX2_noteYear_26 rfl (lv_at hl 2 rfl) ?_
        refine lv_aload_n Fx.1 Fx.2.1 dX2_noteYear_27 rfl (lv_at hl 0 rfl) ?_
        refine gC_X2_19_5 (x := (iI (((yc : Nat) : Int)))) Fx X (hY.1) dX2_noteYear_28 ?_
        refine k_icmp_ge (a := ((q : Nat) : Int)) (b := ((yc : Nat) : Int)) (tgt := 48) Fx dX2_noteYear_31 (by decide) (by omega) (by omega) (fun c_31 => ?_) (fun c_31 => ?_)
        · refine k_iconst Fx dX2_noteYear_48 ?_
          refine lv_istore_n (lv' := [(3, .int (iI (0))), (0, .ref (ad 5)), (1, .int (iI (((y : Nat) : Int)))), (2, .int (iI (((q : Nat) : Int))))]) Fx.1 Fx.2.1 dX2_noteYear_49 rfl hl (by decide) rfl (fun ls hl => ?_)
          refine lv_iload_n Fx.1 Fx.2.1 dX2_noteYear_50 rfl (lv_at hl 0 rfl) ?_
          refine k_if_ne (a := 0) (tgt := 63) Fx dX2_noteYear_51 (by decide) (by omega) (fun c_51 => ?_) (fun c_51 => ?_)
          · exact absurd c_51 (by omega)
          refine lv_aload_n Fx.1 Fx.2.1 dX2_noteYear_54 rfl (lv_at hl 1 rfl) ?_
          refine gC_X2_19_5 (x := (iI (((yc : Nat) : Int)))) Fx X (hY.1) dX2_noteYear_55 ?_
          refine k_bipush Fx dX2_noteYear_58 (by decide) ?_
          refine k_icmp_lt (a := ((yc : Nat) : Int)) (b := 60) (tgt := 64) Fx dX2_noteYear_60 (by decide) (by omega) (by omega) (fun c_60 => ?_) (fun c_60 => ?_)
          · have hgt : q < yc → y < Y q := fun z => absurd z (by omega)
            refine lv_aload_n Fx.1 Fx.2.1 dX2_noteYear_64 rfl (lv_at hl 1 rfl) ?_
            refine gC_X2_19_5 (x := (iI (((yc : Nat) : Int)))) Fx X (hY.1) dX2_noteYear_65 ?_
            refine lv_istore (lv' := [(4, .int (iI (((yc : Nat) : Int)))), (3, .int (iI (0))), (0, .ref (ad 5)), (1, .int (iI (((y : Nat) : Int)))), (2, .int (iI (((q : Nat) : Int))))]) Fx.1 Fx.2.1 dX2_noteYear_68 hl (by decide) rfl (fun ls hl => ?_)
            have lp_70 : ∀ (nn : Nat) (i : Nat) (g1 : Nat → Nat → Int32), i < nn → (q ≤ i ∧ i ≤ yc) → (∀ k, k < i → g1 14 k = iI (Y k : Nat)) → (∀ k, i < k → k ≤ yc → g1 14 k = iI (Y (k - 1) : Nat)) → (∀ j, j ≠ 14 → g1 j = g j) → ∀ (H : Heap) (locs : List Loc) (ls : Array Slot), Wd E Γ A s₀ H locs (wC Γ ad ed f g1 tl) → lv_has ls 5 [(0, .ref (ad 5)), (1, .int (iI (((y : Nat) : Int)))), (2, .int (iI (((q : Nat) : Int)))), (4, .int (iI (((i : Nat) : Int))))] → W p l e rm_X2_noteYear s₀ m args below meth c H locs (0) (0) (RQ below args s₀ Γ A (fun v w2 => v = none ∧ ∃ f1 g1 yc2 Y2, w2 = wC Γ ad ed f1 g1 tl ∧ YrC yc2 Y2 f1 g1 ∧ YrB yc2 Y2 ∧ (∀ z, (∃ i, i < yc2 ∧ Y2 i = z) ↔ (∃ i, i < yc ∧ Y i = z) ∨ z = y) ∧ yc2 ≤ yc + 1 ∧ (∀ o j, ¬ (o = 5 ∧ j = 2) → f1 o j = f o j) ∧ (∀ j, j ≠ 14 → g1 j = g j)) rm_X2_noteYear) (F0 m 70 ls []) := by
              intro nn
              induction nn with
              | zero => intro i g1 hmu; exact absurd hmu (Nat.not_lt_zero _)
              | succ nn ih =>
                intro i g1 hmu hi hs1 hs2 hGr H locs ls X hl
                have ih_70 := ih
                refine lv_iload Fx.1 Fx.2.1 dX2_noteYear_70 (lv_at hl 3 rfl) ?_
                refine lv_iload_n Fx.1 Fx.2.1 dX2_noteYear_72 rfl (lv_at hl 2 rfl) ?_
                refine k_icmp_le (a := ((i : Nat) : Int)) (b := ((q : Nat) : Int)) (tgt := 98) Fx dX2_noteYear_73 (by decide) (by omega) (by omega) (fun c_73 => ?_) (fun c_73 => ?_)
                · have hiq : i = q := by omega
                  refine lv_aload_n Fx.1 Fx.2.1 dX2_noteYear_98 rfl (lv_at hl 0 rfl) ?_
                  refine gC_X2_15_5 Fx X dX2_noteYear_99 ?_
                  refine lv_iload_n Fx.1 Fx.2.1 dX2_noteYear_102 rfl (lv_at hl 2 rfl) ?_
                  refine lv_iload_n Fx.1 Fx.2.1 dX2_noteYear_103 rfl (lv_at hl 1 rfl) ?_
                  refine stC_14 (z := ((q : Nat) : Int)) (i := q) Fx X (rfl) (by omega) dX2_noteYear_104 (fun H locs X => ?_)
                  refine lv_aload_n Fx.1 Fx.2.1 dX2_noteYear_105 rfl (lv_at hl 0 rfl) ?_
                  refine lv_dup Fx.1 Fx.2.1 dX2_noteYear_106 rfl ?_
                  refine gC_X2_19_5 (x := (iI (((yc : Nat) : Int)))) Fx X (hY.1) dX2_noteYear_107 ?_
                  refine k_iconst Fx dX2_noteYear_110 ?_
                  refine k_iadd Fx dX2_noteYear_111 ?_
                  refine pC_X2_19_5 Fx X dX2_noteYear_112 (fun H locs X => ?_)
                  exact r_vret Fx hr hlk X (by decide) dX2_noteYear_115 (⟨rfl, _, _, yc + 1, yIn Y q y, rfl, ⟨rfl, fun k9 hk9 => sh_end (yc := yc) (fun k8 h8 => hs1 k8 (by omega)) (fun k8 h8 => hs2 k8 (by omega)) k9 hk9⟩, yIn_B hYB (by omega) hy9 hlt hgt, yIn_T (by omega), by omega, fun o j h => frF h, fun j h => (updA_n h).trans (hGr j h)⟩)
                · refine lv_aload_n Fx.1 Fx.2.1 dX2_noteYear_76 rfl (lv_at hl 0 rfl) ?_
                  refine gC_X2_15_5 Fx X dX2_noteYear_77 ?_
                  refine lv_iload Fx.1 Fx.2.1 dX2_noteYear_80 (lv_at hl 3 rfl) ?_
                  refine lv_aload_n Fx.1 Fx.2.1 dX2_noteYear_82 rfl (lv_at hl 0 rfl) ?_
                  refine gC_X2_15_5 Fx X dX2_noteYear_83 ?_
                  refine lv_iload Fx.1 Fx.2.1 dX2_noteYear_86 (lv_at hl 3 rfl) ?_
                  refine k_iconst Fx dX2_noteYear_88 ?_
                  refine k_isub Fx dX2_noteYear_89 ?_
                  refine ldC_14 (z := (((i : Nat) : Int) - 1)) (i := (i - 1)) (x := (iI (((Y (i - 1) : Nat) : Int)))) Fx X (by omega) (by omega) (hs1 (i - 1) (by omega)) dX2_noteYear_90 ?_
                  refine stC_14 (z := ((i : Nat) : Int)) (i := i) Fx X (rfl) (by omega) dX2_noteYear_91 (fun H locs X => ?_)
                  refine k_iinc (k := 3) (a := ((i : Nat) : Int)) (lv' := [(4, .int (iI ((((i : Nat) : Int) + (-1))))), (0, .ref (ad 5)), (1, .int (iI (((y : Nat) : Int)))), (2, .int (iI (((q : Nat) : Int))))]) Fx dX2_noteYear_92 hl rfl (by decide) rfl (fun ls hl => ?_)
                  refine lv_goto (tgt := 70) Fx.1 Fx.2.1 dX2_noteYear_95 (by decide) ?_
                  have hl_1 := lv_rp hl 0 rfl (show (iI ((((i : Nat) : Int) + (-1)))) = (iI ((((i - 1) : Nat) : Int))) from congrArg iI (by omega))
                  exact ih_70 (i - 1) ((updA g1 14 (upd (g1 14) i (iI (((Y (i - 1) : Nat) : Int)))))) (by omega) (by omega) ((sh_keep (yc := yc) (by omega) hs1 hs2).1) ((sh_keep (yc := yc) (by omega) hs1 hs2).2) (fun j h => (updA_n h).trans (hGr j h)) _ _ _ X (lv_sub hl_1 [1, 2, 3, 0] rfl)
            exact lp_70 _ (yc) (g) (Nat.lt_succ_self _) (by omega) (fun k h => hY.2 k h) (fun k h1 h2 => absurd h1 (by omega)) (fun _ _ => rfl) _ _ _ X (lv_sub hl [2, 3, 4, 0] rfl)
          · exact absurd c_60 (by omega)
        · refine lv_aload_n Fx.1 Fx.2.1 dX2_noteYear_34 rfl (lv_at hl 0 rfl) ?_
          refine gC_X2_15_5 Fx X dX2_noteYear_35 ?_
          refine lv_iload_n Fx.1 Fx.2.1 dX2_noteYear_38 rfl (lv_at hl 2 rfl) ?_
          refine ldC_14 (z := ((q : Nat) : Int)) (i := q) (x := (iI (((Y q : Nat) : Int)))) Fx X (rfl) (by omega) (hY.2 q (by omega)) dX2_noteYear_39 ?_
          have by_x := hYB.2 q (by omega)
          refine lv_iload_n Fx.1 Fx.2.1 dX2_noteYear_40 rfl (lv_at hl 1 rfl) ?_
          refine k_icmp_ne (a := ((Y q : Nat) : Int)) (b := ((y : Nat) : Int)) (tgt := 48) Fx dX2_noteYear_41 (by decide) (by omega) (by omega) (fun c_41 => ?_) (fun c_41 => ?_)
          · refine k_iconst Fx dX2_noteYear_48 ?_
            refine lv_istore_n (lv' := [(3, .int (iI (0))), (0, .ref (ad 5)), (1, .int (iI (((y : Nat) : Int)))), (2, .int (iI (((q : Nat) : Int))))]) Fx.1 Fx.2.1 dX2_noteYear_49 rfl hl (by decide) rfl (fun ls hl => ?_)
            refine lv_iload_n Fx.1 Fx.2.1 dX2_noteYear_50 rfl (lv_at hl 0 rfl) ?_
            refine k_if_ne (a := 0) (tgt := 63) Fx dX2_noteYear_51 (by decide) (by omega) (fun c_51 => ?_) (fun c_51 => ?_)
            · exact absurd c_51 (by omega)
            refine lv_aload_n Fx.1 Fx.2.1 dX2_noteYear_54 rfl (lv_at hl 1 rfl) ?_
            refine gC_X2_19_5 (x := (iI (((yc : Nat) : Int)))) Fx X (hY.1) dX2_noteYear_55 ?_
            refine k_bipush Fx dX2_noteYear_58 (by decide) ?_
            refine k_icmp_lt (a := ((yc : Nat) : Int)) (b := 60) (tgt := 64) Fx dX2_noteYear_60 (by decide) (by omega) (by omega) (fun c_60 => ?_) (fun c_60 => ?_)
            · have hgt : q < yc → y < Y q := fun z => by omega
              refine lv_aload_n Fx.1 Fx.2.1 dX2_noteYear_64 rfl (lv_at hl 1 rfl) ?_
              refine gC_X2_19_5 (x := (iI (((yc : Nat) : Int)))) Fx X (hY.1) dX2_noteYear_65 ?_
              refine lv_istore (lv' := [(4, .int (iI (((yc : Nat) : Int)))), (3, .int (iI (0))), (0, .ref (ad 5)), (1, .int (iI (((y : Nat) : Int)))), (2, .int (iI (((q : Nat) : Int))))]) Fx.1 Fx.2.1 dX2_noteYear_68 hl (by decide) rfl (fun ls hl => ?_)
              have lp_70 : ∀ (nn : Nat) (i : Nat) (g1 : Nat → Nat → Int32), i < nn → (q ≤ i ∧ i ≤ yc) → (∀ k, k < i → g1 14 k = iI (Y k : Nat)) → (∀ k, i < k → k ≤ yc → g1 14 k = iI (Y (k - 1) : Nat)) → (∀ j, j ≠ 14 → g1 j = g j) → ∀ (H : Heap) (locs : List Loc) (ls : Array Slot), Wd E Γ A s₀ H locs (wC Γ ad ed f g1 tl) → lv_has ls 5 [(0, .ref (ad 5)), (1, .int (iI (((y : Nat) : Int)))), (2, .int (iI (((q : Nat) : Int)))), (4, .int (iI (((i : Nat) : Int))))] → W p l e rm_X2_noteYear s₀ m args below meth c H locs (0) (0) (RQ below args s₀ Γ A (fun v w2 => v = none ∧ ∃ f1 g1 yc2 Y2, w2 = wC Γ ad ed f1 g1 tl ∧ YrC yc2 Y2 f1 g1 ∧ YrB yc2 Y2 ∧ (∀ z, (∃ i, i < yc2 ∧ Y2 i = z) ↔ (∃ i, i < yc ∧ Y i = z) ∨ z = y) ∧ yc2 ≤ yc + 1 ∧ (∀ o j, ¬ (o = 5 ∧ j = 2) → f1 o j = f o j) ∧ (∀ j, j ≠ 14 → g1 j = g j)) rm_X2_noteYear) (F0 m 70 ls []) := by
                intro nn
                induction nn with
                | zero => intro i g1 hmu; exact absurd hmu (Nat.not_lt_zero _)
                | succ nn ih =>
                  intro i g1 hmu hi hs1 hs2 hGr H locs ls X hl
                  have ih_70 := ih
                  refine lv_iload Fx.1 Fx.2.1 dX2_noteYear_70 (lv_at hl 3 rfl) ?_
                  refine lv_iload_n Fx.1 Fx.2.1 dX2_noteYear_72 rfl (lv_at hl 2 rfl) ?_
                  refine k_icmp_le (a := ((i : Nat) : Int)) (b := ((q : Nat) : Int)) (tgt := 98) Fx dX2_noteYear_73 (by decide) (by omega) (by omega) (fun c_73 => ?_) (fun c_73 => ?_)
                  · have hiq : i = q := by omega
                    refine lv_aload_n Fx.1 Fx.2.1 dX2_noteYear_98 rfl (lv_at hl 0 rfl) ?_
                    refine gC_X2_15_5 Fx X dX2_noteYear_99 ?_
                    refine lv_iload_n Fx.1 Fx.2.1 dX2_noteYear_102 rfl (lv_at hl 2 rfl) ?_
                    refine lv_iload_n Fx.1 Fx.2.1 dX2_noteYear_103 rfl (lv_at hl 1 rfl) ?_
                    refine stC_14 (z := ((q : Nat) : Int)) (i := q) Fx X (rfl) (by omega) dX2_noteYear_104 (fun H locs X => ?_)
                    refine lv_aload_n Fx.1 Fx.2.1 dX2_noteYear_105 rfl (lv_at hl 0 rfl) ?_
                    refine lv_dup Fx.1 Fx.2.1 dX2_noteYear_106 rfl ?_
                    refine gC_X2_19_5 (x := (iI (((yc : Nat) : Int)))) Fx X (hY.1) dX2_noteYear_107 ?_
                    refine k_iconst Fx dX2_noteYear_110 ?_
                    refine k_iadd Fx dX2_noteYear_111 ?_
                    refine pC_X2_19_5 Fx X dX2_noteYear_112 (fun H locs X => ?_)
                    exact r_vret Fx hr hlk X (by decide) dX2_noteYear_115 (⟨rfl, _, _, yc + 1, yIn Y q y, rfl, ⟨rfl, fun k9 hk9 => sh_end (yc := yc) (fun k8 h8 => hs1 k8 (by omega)) (fun k8 h8 => hs2 k8 (by omega)) k9 hk9⟩, yIn_B hYB (by omega) hy9 hlt hgt, yIn_T (by omega), by omega, fun o j h => frF h, fun j h => (updA_n h).trans (hGr j h)⟩)
                  · refine lv_aload_n Fx.1 Fx.2.1 dX2_noteYear_76 rfl (lv_at hl 0 rfl) ?_
                    refine gC_X2_15_5 Fx X dX2_noteYear_77 ?_
                    refine lv_iload Fx.1 Fx.2.1 dX2_noteYear_80 (lv_at hl 3 rfl) ?_
                    refine lv_aload_n Fx.1 Fx.2.1 dX2_noteYear_82 rfl (lv_at hl 0 rfl) ?_
                    refine gC_X2_15_5 Fx X dX2_noteYear_83 ?_
                    refine lv_iload Fx.1 Fx.2.1 dX2_noteYear_86 (lv_at hl 3 rfl) ?_
                    refine k_iconst Fx dX2_noteYear_88 ?_
                    refine k_isub Fx dX2_noteYear_89 ?_
                    refine ldC_14 (z := (((i : Nat) : Int) - 1)) (i := (i - 1)) (x := (iI (((Y (i - 1) : Nat) : Int)))) Fx X (by omega) (by omega) (hs1 (i - 1) (by omega)) dX2_noteYear_90 ?_
                    refine stC_14 (z := ((i : Nat) : Int)) (i := i) Fx X (rfl) (by omega) dX2_noteYear_91 (fun H locs X => ?_)
                    refine k_iinc (k := 3) (a := ((i : Nat) : Int)) (lv' := [(4, .int (iI ((((i : Nat) : Int) + (-1))))), (0, .ref (ad 5)), (1, .int (iI (((y : Nat) : Int)))), (2, .int (iI (((q : Nat) : Int))))]) Fx dX2_noteYear_92 hl rfl (by decide) rfl (fun ls hl => ?_)
                    refine lv_goto (tgt := 70) Fx.1 Fx.2.1 dX2_noteYear_95 (by decide) ?_
                    have hl_2 := lv_rp hl 0 rfl (show (iI ((((i : Nat) : Int) + (-1)))) = (iI ((((i - 1) : Nat) : Int))) from congrArg iI (by omega))
                    exact ih_70 (i - 1) ((updA g1 14 (upd (g1 14) i (iI (((Y (i - 1) : Nat) : Int)))))) (by omega) (by omega) ((sh_keep (yc := yc) (by omega) hs1 hs2).1) ((sh_keep (yc := yc) (by omega) hs1 hs2).2) (fun j h => (updA_n h).trans (hGr j h)) _ _ _ X (lv_sub hl_2 [1, 2, 3, 0] rfl)
              exact lp_70 _ (yc) (g) (Nat.lt_succ_self _) (by omega) (fun k h => hY.2 k h) (fun k h1 h2 => absurd h1 (by omega)) (fun _ _ => rfl) _ _ _ X (lv_sub hl [2, 3, 4, 0] rfl)
            · exact absurd c_60 (by omega)
          · refine k_iconst Fx dX2_noteYear_44 ?_
            refine lv_goto (tgt := 49) Fx.1 Fx.2.1 dX2_noteYear_45 (by decide) ?_
            refine lv_istore_n (lv' := [(3, .int (iI (1))), (0, .ref (ad 5)), (1, .int (iI (((y : Nat) : Int)))), (2, .int (iI (((q : Nat) : Int))))]) Fx.1 Fx.2.1 dX2_noteYear_49 rfl hl (by decide) rfl (fun ls hl => ?_)
            refine lv_iload_n Fx.1 Fx.2.1 dX2_noteYear_50 rfl (lv_at hl 0 rfl) ?_
            refine k_if_ne (a := 1) (tgt := 63) Fx dX2_noteYear_51 (by decide) (by omega) (fun c_51 => ?_) (fun c_51 => ?_)
            rotate_left
            · exact absurd c_51 (by omega)
            exact r_vret Fx hr hlk X (by decide) dX2_noteYear_63 (⟨rfl, _, _, yc, Y, rfl, hY, hYB, yr_same (q := q) (by omega) (by omega), by omega, fun _ _ _ => rfl, fun _ _ => rfl⟩)
      · refine lv_aload_n Fx.1 Fx.2.1 dX2_noteYear_10 rfl (lv_at hl 0 rfl) ?_
        refine gC_X2_15_5 Fx X dX2_noteYear_11 ?_
        refine lv_iload_n Fx.1 Fx.2.1 dX2_noteYear_14 rfl (lv_at hl 2 rfl) ?_
        refine ldC_14 (z := ((q : Nat) : Int)) (i := q) (x := (iI (((Y q : Nat) : Int)))) Fx X (rfl) (by omega) (hY.2 q (by omega)) dX2_noteYear_15 ?_
        have by_x := hYB.2 q (by omega)
        refine lv_iload_n Fx.1 Fx.2.1 dX2_noteYear_16 rfl (lv_at hl 1 rfl) ?_
        refine k_icmp_ge (a := ((Y q : Nat) : Int)) (b := ((y : Nat) : Int)) (tgt := 26) Fx dX2_noteYear_17 (by decide) (by omega) (by omega) (fun c_17 => ?_) (fun c_17 => ?_)
        · refine lv_iload_n Fx.1 Fx.2.1 dX2_noteYear_26 rfl (lv_at hl 2 rfl) ?_
          refine lv_aload_n Fx.1 Fx.2.1 dX2_noteYear_27 rfl (lv_at hl 0 rfl) ?_
          refine gC_X2_19_5 (x := (iI (((yc : Nat) : Int)))) Fx X (hY.1) dX2_noteYear_28 ?_
          refine k_icmp_ge (a := ((q : Nat) : Int)) (b := ((yc : Nat) : Int)) (tgt := 48) Fx dX2_noteYear_31 (by decide) (by omega) (by omega) (fun c_31 => ?_) (fun c_31 => ?_)
          · refine k_iconst Fx dX2_noteYear_48 ?_
            refine lv_istore_n (lv' := [(3, .int (iI (0))), (0, .ref (ad 5)), (1, .int (iI (((y : Nat) : Int)))), (2, .int (iI (((q : Nat) : Int))))]) Fx.1 Fx.2.1 dX2_noteYear_49 rfl hl (by decide) rfl (fun ls hl => ?_)
            refine lv_iload_n Fx.1 Fx.2.1 dX2_noteYear_50 rfl (lv_at hl 0 rfl) ?_
            refine k_if_ne (a := 0) (tgt := 63) Fx dX2_noteYear_51 (by decide) (by omega) (fun c_51 => ?_) (fun c_51 => ?_)
            · exact absurd c_51 (by omega)
            refine lv_aload_n Fx.1 Fx.2.1 dX2_noteYear_54 rfl (lv_at hl 1 rfl) ?_
            refine gC_X2_19_5 (x := (iI (((yc : Nat) : Int)))) Fx X (hY.1) dX2_noteYear_55 ?_
            refine k_bipush Fx dX2_noteYear_58 (by decide) ?_
            refine k_icmp_lt (a := ((yc : Nat) : Int)) (b := 60) (tgt := 64) Fx dX2_noteYear_60 (by decide) (by omega) (by omega) (fun c_60 => ?_) (fun c_60 => ?_)
            · have hgt : q < yc → y < Y q := fun z => absurd z (by omega)
              refine lv_aload_n Fx.1 Fx.2.1 dX2_noteYear_64 rfl (lv_at hl 1 rfl) ?_
              refine gC_X2_19_5 (x := (iI (((yc : Nat) : Int)))) Fx X (hY.1) dX2_noteYear_65 ?_
              refine lv_istore (lv' := [(4, .int (iI (((yc : Nat) : Int)))), (3, .int (iI (0))), (0, .ref (ad 5)), (1, .int (iI (((y : Nat) : Int)))), (2, .int (iI (((q : Nat) : Int))))]) Fx.1 Fx.2.1 dX2_noteYear_68 hl (by decide) rfl (fun ls hl => ?_)
              have lp_70 : ∀ (nn : Nat) (i : Nat) (g1 : Nat → Nat → Int32), i < nn → (q ≤ i ∧ i ≤ yc) → (∀ k, k < i → g1 14 k = iI (Y k : Nat)) → (∀ k, i < k → k ≤ yc → g1 14 k = iI (Y (k - 1) : Nat)) → (∀ j, j ≠ 14 → g1 j = g j) → ∀ (H : Heap) (locs : List Loc) (ls : Array Slot), Wd E Γ A s₀ H locs (wC Γ ad ed f g1 tl) → lv_has ls 5 [(0, .ref (ad 5)), (1, .int (iI (((y : Nat) : Int)))), (2, .int (iI (((q : Nat) : Int)))), (4, .int (iI (((i : Nat) : Int))))] → W p l e rm_X2_noteYear s₀ m args below meth c H locs (0) (0) (RQ below args s₀ Γ A (fun v w2 => v = none ∧ ∃ f1 g1 yc2 Y2, w2 = wC Γ ad ed f1 g1 tl ∧ YrC yc2 Y2 f1 g1 ∧ YrB yc2 Y2 ∧ (∀ z, (∃ i, i < yc2 ∧ Y2 i = z) ↔ (∃ i, i < yc ∧ Y i = z) ∨ z = y) ∧ yc2 ≤ yc + 1 ∧ (∀ o j, ¬ (o = 5 ∧ j = 2) → f1 o j = f o j) ∧ (∀ j, j ≠ 14 → g1 j = g j)) rm_X2_noteYear) (F0 m 70 ls []) := by
                intro nn
                induction nn with
                | zero => intro i g1 hmu; exact absurd hmu (Nat.not_lt_zero _)
                | succ nn ih =>
                  intro i g1 hmu hi hs1 hs2 hGr H locs ls X hl
                  have ih_70 := ih
                  refine lv_iload Fx.1 Fx.2.1 dX2_noteYear_70 (lv_at hl 3 rfl) ?_
                  refine lv_iload_n Fx.1 Fx.2.1 dX2_noteYear_72 rfl (lv_at hl 2 rfl) ?_
                  refine k_icmp_le (a := ((i : Nat) : Int)) (b := ((q : Nat) : Int)) (tgt := 98) Fx dX2_noteYear_73 (by decide) (by omega) (by omega) (fun c_73 => ?_) (fun c_73 => ?_)
                  · have hiq : i = q := by omega
                    refine lv_aload_n Fx.1 Fx.2.1 dX2_noteYear_98 rfl (lv_at hl 0 rfl) ?_
                    refine gC_X2_15_5 Fx X dX2_noteYear_99 ?_
                    refine lv_iload_n Fx.1 Fx.2.1 dX2_noteYear_102 rfl (lv_at hl 2 rfl) ?_
                    refine lv_iload_n Fx.1 Fx.2.1 dX2_noteYear_103 rfl (lv_at hl 1 rfl) ?_
                    refine stC_14 (z := ((q : Nat) : Int)) (i := q) Fx X (rfl) (by omega) dX2_noteYear_104 (fun H locs X => ?_)
                    refine lv_aload_n Fx.1 Fx.2.1 dX2_noteYear_105 rfl (lv_at hl 0 rfl) ?_
                    refine lv_dup Fx.1 Fx.2.1 dX2_noteYear_106 rfl ?_
                    refine gC_X2_19_5 (x := (iI (((yc : Nat) : Int)))) Fx X (hY.1) dX2_noteYear_107 ?_
                    refine k_iconst Fx dX2_noteYear_110 ?_
                    refine k_iadd Fx dX2_noteYear_111 ?_
                    refine pC_X2_19_5 Fx X dX2_noteYear_112 (fun H locs X => ?_)
                    exact r_vret Fx hr hlk X (by decide) dX2_noteYear_115 (⟨rfl, _, _, yc + 1, yIn Y q y, rfl, ⟨rfl, fun k9 hk9 => sh_end (yc := yc) (fun k8 h8 => hs1 k8 (by omega)) (fun k8 h8 => hs2 k8 (by omega)) k9 hk9⟩, yIn_B hYB (by omega) hy9 hlt hgt, yIn_T (by omega), by omega, fun o j h => frF h, fun j h => (updA_n h).trans (hGr j h)⟩)
                  · refine lv_aload_n Fx.1 Fx.2.1 dX2_noteYear_76 rfl (lv_at hl 0 rfl) ?_
                    refine gC_X2_15_5 Fx X dX2_noteYear_77 ?_
                    refine lv_iload Fx.1 Fx.2.1 dX2_noteYear_80 (lv_at hl 3 rfl) ?_
                    refine lv_aload_n Fx.1 Fx.2.1 dX2_noteYear_82 rfl (lv_at hl 0 rfl) ?_
                    refine gC_X2_15_5 Fx X dX2_noteYear_83 ?_
                    refine lv_iload Fx.1 Fx.2.1 dX2_noteYear_86 (lv_at hl 3 rfl) ?_
                    refine k_iconst Fx dX2_noteYear_88 ?_
                    refine k_isub Fx dX2_noteYear_89 ?_
                    refine ldC_14 (z := (((i : Nat) : Int) - 1)) (i := (i - 1)) (x := (iI (((Y (i - 1) : Nat) : Int)))) Fx X (by omega) (by omega) (hs1 (i - 1) (by omega)) dX2_noteYear_90 ?_
                    refine stC_14 (z := ((i : Nat) : Int)) (i := i) Fx X (rfl) (by omega) dX2_noteYear_91 (fun H locs X => ?_)
                    refine k_iinc (k := 3) (a := ((i : Nat) : Int)) (lv' := [(4, .int (iI ((((i : Nat) : Int) + (-1))))), (0, .ref (ad 5)), (1, .int (iI (((y : Nat) : Int)))), (2, .int (iI (((q : Nat) : Int))))]) Fx dX2_noteYear_92 hl rfl (by decide) rfl (fun ls hl => ?_)
                    refine lv_goto (tgt := 70) Fx.1 Fx.2.1 dX2_noteYear_95 (by decide) ?_
                    have hl_3 := lv_rp hl 0 rfl (show (iI ((((i : Nat) : Int) + (-1)))) = (iI ((((i - 1) : Nat) : Int))) from congrArg iI (by omega))
                    exact ih_70 (i - 1) ((updA g1 14 (upd (g1 14) i (iI (((Y (i - 1) : Nat) : Int)))))) (by omega) (by omega) ((sh_keep (yc := yc) (by omega) hs1 hs2).1) ((sh_keep (yc := yc) (by omega) hs1 hs2).2) (fun j h => (updA_n h).trans (hGr j h)) _ _ _ X (lv_sub hl_3 [1, 2, 3, 0] rfl)
              exact lp_70 _ (yc) (g) (Nat.lt_succ_self _) (by omega) (fun k h => hY.2 k h) (fun k h1 h2 => absurd h1 (by omega)) (fun _ _ => rfl) _ _ _ X (lv_sub hl [2, 3, 4, 0] rfl)
            · exact absurd c_60 (by omega)
          · refine lv_aload_n Fx.1 Fx.2.1 dX2_noteYear_34 rfl (lv_at hl 0 rfl) ?_
            refine gC_X2_15_5 Fx X dX2_noteYear_35 ?_
            refine lv_iload_n Fx.1 Fx.2.1 dX2_noteYear_38 rfl (lv_at hl 2 rfl) ?_
            refine ldC_14 (z := ((q : Nat) : Int)) (i := q) (x := (iI (((Y q : Nat) : Int)))) Fx X (rfl) (by omega) (hY.2 q (by omega)) dX2_noteYear_39 ?_
            have by_x := hYB.2 q (by omega)
            refine lv_iload_n Fx.1 Fx.2.1 dX2_noteYear_40 rfl (lv_at hl 1 rfl) ?_
            refine k_icmp_ne (a := ((Y q : Nat) : Int)) (b := ((y : Nat) : Int)) (tgt := 48) Fx dX2_noteYear_41 (by decide) (by omega) (by omega) (fun c_41 => ?_) (fun c_41 => ?_)
            · refine k_iconst Fx dX2_noteYear_48 ?_
              refine lv_istore_n (lv' := [(3, .int (iI (0))), (0, .ref (ad 5)), (1, .int (iI (((y : Nat) : Int)))), (2, .int (iI (((q : Nat) : Int))))]) Fx.1 Fx.2.1 dX2_noteYear_49 rfl hl (by decide) rfl (fun ls hl => ?_)
              refine lv_iload_n Fx.1 Fx.2.1 dX2_noteYear_50 rfl (lv_at hl 0 rfl) ?_
              refine k_if_ne (a := 0) (tgt := 63) Fx dX2_noteYear_51 (by decide) (by omega) (fun c_51 => ?_) (fun c_51 => ?_)
              · exact absurd c_51 (by omega)
              refine lv_aload_n Fx.1 Fx.2.1 dX2_noteYear_54 rfl (lv_at hl 1 rfl) ?_
              refine gC_X2_19_5 (x := (iI (((yc : Nat) : Int)))) Fx X (hY.1) dX2_noteYear_55 ?_
              refine k_bipush Fx dX2_noteYear_58 (by decide) ?_
              refine k_icmp_lt (a := ((yc : Nat) : Int)) (b := 60) (tgt := 64) Fx dX2_noteYear_60 (by decide) (by omega) (by omega) (fun c_60 => ?_) (fun c_60 => ?_)
              · have hgt : q < yc → y < Y q := fun z => by omega
                refine lv_aload_n Fx.1 Fx.2.1 dX2_noteYear_64 rfl (lv_at hl 1 rfl) ?_
                refine gC_X2_19_5 (x := (iI (((yc : Nat) : Int)))) Fx X (hY.1) dX2_noteYear_65 ?_
                refine lv_istore (lv' := [(4, .int (iI (((yc : Nat) : Int)))), (3, .int (iI (0))), (0, .ref (ad 5)), (1, .int (iI (((y : Nat) : Int)))), (2, .int (iI (((q : Nat) : Int))))]) Fx.1 Fx.2.1 dX2_noteYear_68 hl (by decide) rfl (fun ls hl => ?_)
                have lp_70 : ∀ (nn : Nat) (i : Nat) (g1 : Nat → Nat → Int32), i < nn → (q ≤ i ∧ i ≤ yc) → (∀ k, k < i → g1 14 k = iI (Y k : Nat)) → (∀ k, i < k → k ≤ yc → g1 14 k = iI (Y (k - 1) : Nat)) → (∀ j, j ≠ 14 → g1 j = g j) → ∀ (H : Heap) (locs : List Loc) (ls : Array Slot), Wd E Γ A s₀ H locs (wC Γ ad ed f g1 tl) → lv_has ls 5 [(0, .ref (ad 5)), (1, .int (iI (((y : Nat) : Int)))), (2, .int (iI (((q : Nat) : Int)))), (4, .int (iI (((i : Nat) : Int))))] → W p l e rm_X2_noteYear s₀ m args below meth c H locs (0) (0) (RQ below args s₀ Γ A (fun v w2 => v = none ∧ ∃ f1 g1 yc2 Y2, w2 = wC Γ ad ed f1 g1 tl ∧ YrC yc2 Y2 f1 g1 ∧ YrB yc2 Y2 ∧ (∀ z, (∃ i, i < yc2 ∧ Y2 i = z) ↔ (∃ i, i < yc ∧ Y i = z) ∨ z = y) ∧ yc2 ≤ yc + 1 ∧ (∀ o j, ¬ (o = 5 ∧ j = 2) → f1 o j = f o j) ∧ (∀ j, j ≠ 14 → g1 j = g j)) rm_X2_noteYear) (F0 m 70 ls []) := by
                  intro nn
                  induction nn with
                  | zero => intro i g1 hmu; exact absurd hmu (Nat.not_lt_zero _)
                  | succ nn ih =>
                    intro i g1 hmu hi hs1 hs2 hGr H locs ls X hl
                    have ih_70 := ih
                    refine lv_iload Fx.1 Fx.2.1 dX2_noteYear_70 (lv_at hl 3 rfl) ?_
                    refine lv_iload_n Fx.1 Fx.2.1 dX2_noteYear_72 rfl (lv_at hl 2 rfl) ?_
                    refine k_icmp_le (a := ((i : Nat) : Int)) (b := ((q : Nat) : Int)) (tgt := 98) Fx dX2_noteYear_73 (by decide) (by omega) (by omega) (fun c_73 => ?_) (fun c_73 => ?_)
                    · have hiq : i = q := by omega
                      refine lv_aload_n Fx.1 Fx.2.1 dX2_noteYear_98 rfl (lv_at hl 0 rfl) ?_
                      refine gC_X2_15_5 Fx X dX2_noteYear_99 ?_
                      refine lv_iload_n Fx.1 Fx.2.1 dX2_noteYear_102 rfl (lv_at hl 2 rfl) ?_
                      refine lv_iload_n Fx.1 Fx.2.1 dX2_noteYear_103 rfl (lv_at hl 1 rfl) ?_
                      refine stC_14 (z := ((q : Nat) : Int)) (i := q) Fx X (rfl) (by omega) dX2_noteYear_104 (fun H locs X => ?_)
                      refine lv_aload_n Fx.1 Fx.2.1 dX2_noteYear_105 rfl (lv_at hl 0 rfl) ?_
                      refine lv_dup Fx.1 Fx.2.1 dX2_noteYear_106 rfl ?_
                      refine gC_X2_19_5 (x := (iI (((yc : Nat) : Int)))) Fx X (hY.1) dX2_noteYear_107 ?_
                      refine k_iconst Fx dX2_noteYear_110 ?_
                      refine k_iadd Fx dX2_noteYear_111 ?_
                      refine pC_X2_19_5 Fx X dX2_noteYear_112 (fun H locs X => ?_)
                      exact r_vret Fx hr hlk X (by decide) dX2_noteYear_115 (⟨rfl, _, _, yc + 1, yIn Y q y, rfl, ⟨rfl, fun k9 hk9 => sh_end (yc := yc) (fun k8 h8 => hs1 k8 (by omega)) (fun k8 h8 => hs2 k8 (by omega)) k9 hk9⟩, yIn_B hYB (by omega) hy9 hlt hgt, yIn_T (by omega), by omega, fun o j h => frF h, fun j h => (updA_n h).trans (hGr j h)⟩)
                    · refine lv_aload_n Fx.1 Fx.2.1 dX2_noteYear_76 rfl (lv_at hl 0 rfl) ?_
                      refine gC_X2_15_5 Fx X dX2_noteYear_77 ?_
                      refine lv_iload Fx.1 Fx.2.1 dX2_noteYear_80 (lv_at hl 3 rfl) ?_
                      refine lv_aload_n Fx.1 Fx.2.1 dX2_noteYear_82 rfl (lv_at hl 0 rfl) ?_
                      refine gC_X2_15_5 Fx X dX2_noteYear_83 ?_
                      refine lv_iload Fx.1 Fx.2.1 dX2_noteYear_86 (lv_at hl 3 rfl) ?_
                      refine k_iconst Fx dX2_noteYear_88 ?_
                      refine k_isub Fx dX2_noteYear_89 ?_
                      refine ldC_14 (z := (((i : Nat) : Int) - 1)) (i := (i - 1)) (x := (iI (((Y (i - 1) : Nat) : Int)))) Fx X (by omega) (by omega) (hs1 (i - 1) (by omega)) dX2_noteYear_90 ?_
                      refine stC_14 (z := ((i : Nat) : Int)) (i := i) Fx X (rfl) (by omega) dX2_noteYear_91 (fun H locs X => ?_)
                      refine k_iinc (k := 3) (a := ((i : Nat) : Int)) (lv' := [(4, .int (iI ((((i : Nat) : Int) + (-1))))), (0, .ref (ad 5)), (1, .int (iI (((y : Nat) : Int)))), (2, .int (iI (((q : Nat) : Int))))]) Fx dX2_noteYear_92 hl rfl (by decide) rfl (fun ls hl => ?_)
                      refine lv_goto (tgt := 70) Fx.1 Fx.2.1 dX2_noteYear_95 (by decide) ?_
                      have hl_4 := lv_rp hl 0 rfl (show (iI ((((i : Nat) : Int) + (-1)))) = (iI ((((i - 1) : Nat) : Int))) from congrArg iI (by omega))
                      exact ih_70 (i - 1) ((updA g1 14 (upd (g1 14) i (iI (((Y (i - 1) : Nat) : Int)))))) (by omega) (by omega) ((sh_keep (yc := yc) (by omega) hs1 hs2).1) ((sh_keep (yc := yc) (by omega) hs1 hs2).2) (fun j h => (updA_n h).trans (hGr j h)) _ _ _ X (lv_sub hl_4 [1, 2, 3, 0] rfl)
                exact lp_70 _ (yc) (g) (Nat.lt_succ_self _) (by omega) (fun k h => hY.2 k h) (fun k h1 h2 => absurd h1 (by omega)) (fun _ _ => rfl) _ _ _ X (lv_sub hl [2, 3, 4, 0] rfl)
              · exact absurd c_60 (by omega)
            · refine k_iconst Fx dX2_noteYear_44 ?_
              refine lv_goto (tgt := 49) Fx.1 Fx.2.1 dX2_noteYear_45 (by decide) ?_
              refine lv_istore_n (lv' := [(3, .int (iI (1))), (0, .ref (ad 5)), (1, .int (iI (((y : Nat) : Int)))), (2, .int (iI (((q : Nat) : Int))))]) Fx.1 Fx.2.1 dX2_noteYear_49 rfl hl (by decide) rfl (fun ls hl => ?_)
              refine lv_iload_n Fx.1 Fx.2.1 dX2_noteYear_50 rfl (lv_at hl 0 rfl) ?_
              refine k_if_ne (a := 1) (tgt := 63) Fx dX2_noteYear_51 (by decide) (by omega) (fun c_51 => ?_) (fun c_51 => ?_)
              rotate_left
              · exact absurd c_51 (by omega)
              exact r_vret Fx hr hlk X (by decide) dX2_noteYear_63 (⟨rfl, _, _, yc, Y, rfl, hY, hYB, yr_same (q := q) (by omega) (by omega), by omega, fun _ _ _ => rfl, fun _ _ => rfl⟩)
        · refine k_iinc (k := 2) (a := ((q : Nat) : Int)) (lv' := [(2, .int (iI ((((q : Nat) : Int) + 1)))), (0, .ref (ad 5)), (1, .int (iI (((y : Nat) : Int))))]) Fx dX2_noteYear_20 hl rfl (by decide) rfl (fun ls hl => ?_)
          refine lv_goto (tgt := 2) Fx.1 Fx.2.1 dX2_noteYear_23 (by decide) ?_
          have hl_5 := lv_rp hl 0 rfl (show (iI ((((q : Nat) : Int) + 1))) = (iI ((((q + 1) : Nat) : Int))) from congrArg iI (by omega))
          exact ih_2 (q + 1) (by omega) (by omega) (lt_s hlt (by omega)) _ _ _ X (lv_sub hl_5 [1, 2, 0] rfl)
  have hl_6 := lv_rp hl 0 rfl (show (iI (0)) = (iI (((0 : Nat) : Int))) from congrArg iI (by omega))
  exact lp_2 _ (0) (Nat.lt_succ_self _) (by omega) (fun i h => absurd h (Nat.not_lt_zero i)) _ _ _ X (lv_sub hl_6 [1, 2, 0] rfl)

abbrev rm_X2_tell : Room := ({ frames := 1, cells := 0, slots := 0, locals := 24 } : Room)
set_option maxHeartbeats 4000000 in
set_option maxRecDepth 100000 in
theorem c_X2_tell {E : XX} (hE : XS E) (l : Launch) {Γ : GG} {ad : Nat → Nat} {ed : Nat} {f g : Nat → Nat → Int32} {tl : va_W} {mn : Nat} {M : Nat → Nat → Nat} (hM : MowC mn M f g) (hMB : MowB mn M) {yc : Nat} {Y : Nat → Nat} (hY : YrC yc Y f g) (hYB : YrB yc Y) (hYT : YrT yc Y mn M) (hyc : yc ≤ mn) {q a b t y : Nat} (hq : q < 2) (hab : a ≤ b ∧ b < 10) (ht : t < 80) (hy : y < 1000) : Con E l yX2_tell cX2_tell 6 (some .boolean) rm_X2_tell Γ (wC Γ ad ed f g tl) [.ref (ad 5), .int (iI (((q : Nat) : Int))), .int (iI (((a : Nat) : Int))), .int (iI (((b : Nat) : Int))), .int (iI (((t : Nat) : Int))), .int (iI (((y : Nat) : Int)))] (fun v w2 => (mn < 60 ∧ v = some (.int (bI True)) ∧ ∃ f1 g1 yc2 Y2, w2 = wC Γ ad ed f1 g1 tl ∧ MowC (mn + 1) (mPut M mn (q : Nat) (a : Nat) (b : Nat) (t : Nat) (y : Nat)) f1 g1 ∧ YrC yc2 Y2 f1 g1 ∧ YrB yc2 Y2 ∧ YrT yc2 Y2 (mn + 1) (mPut M mn (q : Nat) (a : Nat) (b : Nat) (t : Nat) (y : Nat)) ∧ yc2 ≤ mn + 1 ∧ (∀ o j, ¬ (o = 5 ∧ j = 0) → ¬ (o = 5 ∧ j = 2) → f1 o j = f o j) ∧ (∀ j, (j < 14 ∨ 19 < j) → g1 j = g j)) ∨ (¬ mn < 60 ∧ v = some (.int (bI False)) ∧ w2 = wC Γ ad ed f g tl)) := by
  refine Con_mk (by decide) (Nat.le_of_ble_eq_true rfl) ?_
  intro p e s₀ m args below meth c A Fx hr hlk hnm X ls hl
  have hl : lv_has ls 6 [(0, .ref (ad 5)), (1, .int (iI (((q : Nat) : Int)))), (2, .int (iI (((a : Nat) : Int)))), (3, .int (iI (((b : Nat) : Int)))), (4, .int (iI (((t : Nat) : Int)))), (5, .int (iI (((y : Nat) : Int))))] := hl
  have hB1 := hMB.1
  refine lv_aload_n Fx.1 Fx.2.1 dX2_tell_0 rfl (lv_at hl 0 rfl) ?_
  refine gC_X2_9_5 (x := (iI (((mn : Nat) : Int)))) Fx X (hM.1) dX2_tell_1 ?_
  refine k_bipush Fx dX2_tell_4 (by decide) ?_
  refine k_icmp_lt (a := ((mn : Nat) : Int)) (b := 60) (tgt := 11) Fx dX2_tell_6 (by decide) (by omega) (by omega) (fun c_6 => ?_) (fun c_6 => ?_)
  · refine lv_aload_n Fx.1 Fx.2.1 dX2_tell_11 rfl (lv_at hl 0 rfl) ?_
    refine gC_X2_22_5 Fx X dX2_tell_12 ?_
    refine lv_aload_n Fx.1 Fx.2.1 dX2_tell_15 rfl (lv_at hl 0 rfl) ?_
    refine gC_X2_9_5 (x := (iI (((mn : Nat) : Int)))) Fx X (hM.1) dX2_tell_16 ?_
    refine lv_iload_n Fx.1 Fx.2.1 dX2_tell_19 rfl (lv_at hl 1 rfl) ?_
    refine stC_15 (z := ((mn : Nat) : Int)) (i := mn) Fx X (rfl) (by omega) dX2_tell_20 (fun H locs X => ?_)
    refine lv_aload_n Fx.1 Fx.2.1 dX2_tell_21 rfl (lv_at hl 0 rfl) ?_
    refine gC_X2_25_5 Fx X dX2_tell_22 ?_
    refine lv_aload_n Fx.1 Fx.2.1 dX2_tell_25 rfl (lv_at hl 0 rfl) ?_
    refine gC_X2_9_5 (x := (iI (((mn : Nat) : Int)))) Fx X (hM.1) dX2_tell_26 ?_
    refine lv_iload_n Fx.1 Fx.2.1 dX2_tell_29 rfl (lv_at hl 2 rfl) ?_
    refine stC_16 (z := ((mn : Nat) : Int)) (i := mn) Fx X (rfl) (by omega) dX2_tell_30 (fun H locs X => ?_)
    refine lv_aload_n Fx.1 Fx.2.1 dX2_tell_31 rfl (lv_at hl 0 rfl) ?_
    refine gC_X2_28_5 Fx X dX2_tell_32 ?_
    refine lv_aload_n Fx.1 Fx.2.1 dX2_tell_35 rfl (lv_at hl 0 rfl) ?_
    refine gC_X2_9_5 (x := (iI (((mn : Nat) : Int)))) Fx X (hM.1) dX2_tell_36 ?_
    refine lv_iload_n Fx.1 Fx.2.1 dX2_tell_39 rfl (lv_at hl 3 rfl) ?_
    refine stC_17 (z := ((mn : Nat) : Int)) (i := mn) Fx X (rfl) (by omega) dX2_tell_40 (fun H locs X => ?_)
    refine lv_aload_n Fx.1 Fx.2.1 dX2_tell_41 rfl (lv_at hl 0 rfl) ?_
    refine gC_X2_31_5 Fx X dX2_tell_42 ?_
    refine lv_aload_n Fx.1 Fx.2.1 dX2_tell_45 rfl (lv_at hl 0 rfl) ?_
    refine gC_X2_9_5 (x := (iI (((mn : Nat) : Int)))) Fx X (hM.1) dX2_tell_46 ?_
    refine lv_iload Fx.1 Fx.2.1 dX2_tell_49 (lv_at hl 4 rfl) ?_
    refine stC_18 (z := ((mn : Nat) : Int)) (i := mn) Fx X (rfl) (by omega) dX2_tell_51 (fun H locs X => ?_)
    refine lv_aload_n Fx.1 Fx.2.1 dX2_tell_52 rfl (lv_at hl 0 rfl) ?_
    refine gC_X2_34_5 Fx X dX2_tell_53 ?_
    refine lv_aload_n Fx.1 Fx.2.1 dX2_tell_56 rfl (lv_at hl 0 rfl) ?_
    refine gC_X2_9_5 (x := (iI (((mn : Nat) : Int)))) Fx X (hM.1) dX2_tell_57 ?_
    refine lv_iload Fx.1 Fx.2.1 dX2_tell_60 (lv_at hl 5 rfl) ?_
    refine stC_19 (z := ((mn : Nat) : Int)) (i := mn) Fx X (rfl) (by omega) dX2_tell_62 (fun H locs X => ?_)
    refine lv_aload_n Fx.1 Fx.2.1 dX2_tell_63 rfl (lv_at hl 0 rfl) ?_
    refine lv_dup Fx.1 Fx.2.1 dX2_tell_64 rfl ?_
    refine gC_X2_9_5 (x := (iI (((mn : Nat) : Int)))) Fx X (hM.1) dX2_tell_65 ?_
    refine k_iconst Fx dX2_tell_68 ?_
    refine k_iadd Fx dX2_tell_69 ?_
    refine pC_X2_9_5 Fx X dX2_tell_70 (fun H locs X => ?_)
    refine lv_aload_n Fx.1 Fx.2.1 dX2_tell_73 rfl (lv_at hl 0 rfl) ?_
    refine lv_iload Fx.1 Fx.2.1 dX2_tell_74 (lv_at hl 5 rfl) ?_
    refine r_callV (As := [.int (iI (((y : Nat) : Int)))]) (rest := []) hE Fx X (c_X2_noteYear hE l (by exact hY) hYB (by omega) (y := y) (by omega)) cV_X2_37 (recC_5 X) rfl rfl (Nat.le_of_ble_eq_true rfl) (by decide) hl.1 dX2_tell_76 (fun v9 w9 H locs hq X => ?_)
    obtain ⟨rfl, f_1, g_2, yc2, Y2, rfl, hY2, hYB2, hYT2, hyc2, hf9, hg9⟩ := hq
    refine k_iconst Fx dX2_tell_79 ?_
    exact r_zret Fx hr hlk X (by decide) dX2_tell_80 rfl (Or.inl ⟨by omega, (by rw [bI_t trivial]; rfl), _, _, yc2, Y2, rfl, ⟨(hf9 5 0 (by omega)).trans (congrArg iI (by omega)), (fun i9 => (congrFun (hg9 15 (by omega)) i9).trans (row_put (hM.2.1) (by omega) (fun i => rfl) i9)), (fun i9 => (congrFun (hg9 16 (by omega)) i9).trans (row_put (hM.2.2.1) (by omega) (fun i => rfl) i9)), (fun i9 => (congrFun (hg9 17 (by omega)) i9).trans (row_put (hM.2.2.2.1) (by omega) (fun i => rfl) i9)), (fun i9 => (congrFun (hg9 18 (by omega)) i9).trans (row_put (hM.2.2.2.2.1) (by omega) (fun i => rfl) i9)), (fun i9 => (congrFun (hg9 19 (by omega)) i9).trans (row_put (hM.2.2.2.2.2) (by omega) (fun i => rfl) i9))⟩, hY2, hYB2, YrT_put hYT rfl hYT2, by omega, fun o j h1 h2 => (hf9 o j (by omega)).trans (frF h1), fun j h1 => (hg9 j (by omega)).trans (((((updA_n (by omega)).trans (updA_n (by omega))).trans (updA_n (by omega))).trans (updA_n (by omega))).trans (updA_n (by omega)))⟩)
  · refine k_iconst Fx dX2_tell_9 ?_
    exact r_zret Fx hr hlk X (by decide) dX2_tell_10 rfl (Or.inr ⟨by omega, (by rw [bI_f (fun h => h)]; rfl), rfl⟩)

