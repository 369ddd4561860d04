abbrev rm_X10_mow : Room := ({ frames := 3, cells := 0, slots := 0, locals := 63 } : Room)
set_option maxHeartbeats 4000000 in
set_option maxRecDepth 100000 in
theorem c_X10_mow {E : XX} (hE : XS E) (l : Launch) {Γ : GG} {ad : Nat → Nat} {f : Nat → Int32} {g : Nat → Nat → Int32} {mn : Nat} {M : Nat → Nat → Nat} (hM : MowM mn M f g) (hMB : MowB mn M) {k a b t y : Int} (hk : -2147483648 ≤ k ∧ k < 2147483648) (ha : -2147483648 ≤ a ∧ a < 2147483648) (hb : -2147483648 ≤ b ∧ b < 2147483648) (ht : -2147483648 ≤ t ∧ t < 2147483648) (hy : -2147483648 ≤ y ∧ y < 2147483648) : Con E l yX10_mow cX10_mow 6 (some .boolean) rm_X10_mow Γ (wM Γ ad f g) [.ref (ad 0), .int (iI (k)), .int (iI (a)), .int (iI (b)), .int (iI (t)), .int (iI (y))] (fun v w2 => ((mOk k a b t y ∧ mn < 60) ∧ v = some (.int (bI True)) ∧ ∃ f1 g1, w2 = wM Γ ad f1 g1 ∧ MowM (mn + 1) (mPut M mn k a b t y) f1 g1 ∧ (∀ j, j ≠ 1 → f1 j = f j) ∧ (∀ j, (j < 29 ∨ 33 < j) → g1 j = g j)) ∨ (¬ (mOk k a b t y ∧ mn < 60) ∧ v = some (.int (bI False)) ∧ w2 = wM Γ ad f g)) := by
  refine Con_mk (by decide) (Nat.le_of_ble_eq_true rfl) ?_
  intro p e s₀ m args below meth c A Fx hr hlk hnm X ls hl
  have hl : lv_has ls 6 [(0, .ref (ad 0)), (1, .int (iI (k))), (2, .int (iI (a))), (3, .int (iI (b))), (4, .int (iI (t))), (5, .int (iI (y)))] := hl
  have hB1 := hMB.1
  refine lv_iload_n Fx.1 Fx.2.1 dX10_mow_0 rfl (lv_at hl 1 rfl) ?_
  refine k_iconst Fx dX10_mow_1 ?_
  refine k_iconst Fx dX10_mow_2 ?_
  refine r_callSi (As := [.int (iI (k)), .int (iI (0)), .int (iI (1))]) (rest := []) hE Fx X (c_X10_isIn hE l (v := k) (a := 0) (b := 1) (by omega) (by omega) (by omega)) cS_X10_90 rfl rfl (Nat.le_of_ble_eq_true rfl) (by decide) hl.1 dX10_mow_3 (fun H locs X => ?_)
  refine k_bif_eq (tgt := 42) Fx dX10_mow_6 (by decide) (fun c_6 => ?_) (fun c_6 => ?_)
  · refine k_iconst Fx dX10_mow_42 ?_
    exact r_zret Fx hr hlk X (by decide) dX10_mow_43 rfl (Or.inr ⟨by unfold mOk; omega, (by rw [bI_f (fun h => h)]; rfl), rfl⟩)
  · refine lv_iload_n Fx.1 Fx.2.1 dX10_mow_9 rfl (lv_at hl 2 rfl) ?_
    refine lv_iload_n Fx.1 Fx.2.1 dX10_mow_10 rfl (lv_at hl 3 rfl) ?_
    refine r_callSi (As := [.int (iI (a)), .int (iI (b))]) (rest := []) hE Fx X (c_X10_isSpan hE l (a := a) (b := b) (by omega) (by omega)) cS_X10_98 rfl rfl (Nat.le_of_ble_eq_true rfl) (by decide) hl.1 dX10_mow_11 (fun H locs X => ?_)
    refine k_bif_eq (tgt := 42) Fx dX10_mow_14 (by decide) (fun c_14 => ?_) (fun c_14 => ?_)
    · refine k_iconst Fx dX10_mow_42 ?_
      exact r_zret Fx hr hlk X (by decide) dX10_mow_43 rfl (Or.inr ⟨by unfold mOk; omega, (by rw [bI_f (fun h => h)]; rfl), rfl⟩)
    · refine lv_iload Fx.1 Fx.2.1 dX10_mow_17 (lv_at hl 4 rfl) ?_
      refine r_callSi (As := [.int (iI (t))]) (rest := []) hE Fx X (c_X10_isFoot hE l (v := t) (by omega)) cS_X10_102 rfl rfl (Nat.le_of_ble_eq_true rfl) (by decide) hl.1 dX10_mow_19 (fun H locs X => ?_)
      refine k_bif_eq (tgt := 42) Fx dX10_mow_22 (by decide) (fun c_22 => ?_) (fun c_22 => ?_)
      · refine k_iconst Fx dX10_mow_42 ?_
        exact r_zret Fx hr hlk X (by decide) dX10_mow_43 rfl (Or.inr ⟨by unfold mOk; omega, (by rw [bI_f (fun h => h)]; rfl), rfl⟩)
      · refine lv_iload Fx.1 Fx.2.1 dX10_mow_25 (lv_at hl 5 rfl) ?_
        refine r_callSi (As := [.int (iI (y))]) (rest := []) hE Fx X (c_X10_isYear hE l (v := y) (by omega)) cS_X10_105 rfl rfl (Nat.le_of_ble_eq_true rfl) (by decide) hl.1 dX10_mow_27 (fun H locs X => ?_)
        refine k_bif_eq (tgt := 42) Fx dX10_mow_30 (by decide) (fun c_30 => ?_) (fun c_30 => ?_)
        · refine k_iconst Fx dX10_mow_42 ?_
          exact r_zret Fx hr hlk X (by decide) dX10_mow_43 rfl (Or.inr ⟨by unfold mOk; omega, (by rw [bI_f (fun h => h)]; rfl), rfl⟩)
        · refine lv_aload_n Fx.1 Fx.2.1 dX10_mow_33 rfl (lv_at hl 0 rfl) ?_
          refine gM_1 (x := (iI (((mn : Nat) : Int)))) Fx X (hM.1) dX10_mow_34 ?_
          refine k_bipush Fx dX10_mow_37 (by decide) ?_
          refine k_icmp_ne (a := ((mn : Nat) : Int)) (b := 60) (tgt := 44) Fx dX10_mow_39 (by decide) (by omega) (by omega) (fun c_39 => ?_) (fun c_39 => ?_)
          · refine lv_aload_n Fx.1 Fx.2.1 dX10_mow_44 rfl (lv_at hl 0 rfl) ?_
            refine gM_29 Fx X dX10_mow_45 ?_
            refine lv_aload_n Fx.1 Fx.2.1 dX10_mow_48 rfl (lv_at hl 0 rfl) ?_
            refine gM_1 (x := (iI (((mn : Nat) : Int)))) Fx X (hM.1) dX10_mow_49 ?_
            refine lv_iload_n Fx.1 Fx.2.1 dX10_mow_52 rfl (lv_at hl 1 rfl) ?_
            refine stM_29 (z := ((mn : Nat) : Int)) (i := mn) Fx X (rfl) (by omega) dX10_mow_53 (fun H locs X => ?_)
            refine lv_aload_n Fx.1 Fx.2.1 dX10_mow_54 rfl (lv_at hl 0 rfl) ?_
            refine gM_30 Fx X dX10_mow_55 ?_
            refine lv_aload_n Fx.1 Fx.2.1 dX10_mow_58 rfl (lv_at hl 0 rfl) ?_
            refine gM_1 (x := (iI (((mn : Nat) : Int)))) Fx X (hM.1) dX10_mow_59 ?_
            refine lv_iload_n Fx.1 Fx.2.1 dX10_mow_62 rfl (lv_at hl 2 rfl) ?_
            refine stM_30 (z := ((mn : Nat) : Int)) (i := mn) Fx X (rfl) (by omega) dX10_mow_63 (fun H locs X => ?_)
            refine lv_aload_n Fx.1 Fx.2.1 dX10_mow_64 rfl (lv_at hl 0 rfl) ?_
            refine gM_31 Fx X dX10_mow_65 ?_
            refine lv_aload_n Fx.1 Fx.2.1 dX10_mow_68 rfl (lv_at hl 0 rfl) ?_
            refine gM_1 (x := (iI (((mn : Nat) : Int)))) Fx X (hM.1) dX10_mow_69 ?_
            refine lv_iload_n Fx.1 Fx.2.1 dX10_mow_72 rfl (lv_at hl 3 rfl) ?_
            refine stM_31 (z := ((mn : Nat) : Int)) (i := mn) Fx X (rfl) (by omega) dX10_mow_73 (fun H locs X => ?_)
            refine lv_aload_n Fx.1 Fx.2.1 dX10_mow_74 rfl (lv_at hl 0 rfl) ?_
            refine gM_32 Fx X dX10_mow_75 ?_
            refine lv_aload_n Fx.1 Fx.2.1 dX10_mow_78 rfl (lv_at hl 0 rfl) ?_
            refine gM_1 (x := (iI (((mn : Nat) : Int)))) Fx X (hM.1) dX10_mow_79 ?_
            refine lv_iload Fx.1 Fx.2.1 dX10_mow_82 (lv_at hl 4 rfl) ?_
            refine stM_32 (z := ((mn : Nat) : Int)) (i := mn) Fx X (rfl) (by omega) dX10_mow_84 (fun H locs X => ?_)
            refine lv_aload_n Fx.1 Fx.2.1 dX10_mow_85 rfl (lv_at hl 0 rfl) ?_
            refine gM_33 Fx X dX10_mow_86 ?_
            refine lv_aload_n Fx.1 Fx.2.1 dX10_mow_89 rfl (lv_at hl 0 rfl) ?_
            refine gM_1 (x := (iI (((mn : Nat) : Int)))) Fx X (hM.1) dX10_mow_90 ?_
            refine lv_iload Fx.1 Fx.2.1 dX10_mow_93 (lv_at hl 5 rfl) ?_
            refine stM_33 (z := ((mn : Nat) : Int)) (i := mn) Fx X (rfl) (by omega) dX10_mow_95 (fun H locs X => ?_)
            refine lv_aload_n Fx.1 Fx.2.1 dX10_mow_96 rfl (lv_at hl 0 rfl) ?_
            refine lv_dup Fx.1 Fx.2.1 dX10_mow_97 rfl ?_
            refine gM_1 (x := (iI (((mn : Nat) : Int)))) Fx X (hM.1) dX10_mow_98 ?_
            refine k_iconst Fx dX10_mow_101 ?_
            refine k_iadd Fx dX10_mow_102 ?_
            refine pM_1 Fx X dX10_mow_103 (fun H locs X => ?_)
            refine k_iconst Fx dX10_mow_106 ?_
            exact r_zret Fx hr hlk X (by decide) dX10_mow_107 rfl (Or.inl ⟨⟨by unfold mOk; omega, by omega⟩, (by rw [bI_t trivial]; rfl), _, _, rfl, ⟨congrArg iI (by omega), row_put (hM.2.1) (by omega) (fun i => rfl), row_put (hM.2.2.1) (by omega) (fun i => rfl), row_put (hM.2.2.2.1) (by omega) (fun i => rfl), row_put (hM.2.2.2.2.1) (by omega) (fun i => rfl), row_put (hM.2.2.2.2.2) (by omega) (fun i => rfl)⟩, fun j hj => upd_n hj, fun j h1 => (((((updA_n (by omega)).trans (updA_n (by omega))).trans (updA_n (by omega))).trans (updA_n (by omega))).trans (updA_n (by omega)))⟩)
          · refine k_iconst Fx dX10_mow_42 ?_
            exact r_zret Fx hr hlk X (by decide) dX10_mow_43 rfl (Or.inr ⟨by unfold mOk; omega, (by rw [bI_f (fun h => h)]; rfl), rfl⟩)

abbrev rm_X10_isProtested : Room := ({ frames := 0, cells := 0, slots := 0, locals := 0 } : Room)
set_option maxHeartbeats 4000000 in
set_option maxRecDepth 100000 in
theorem c_X10_isProtested {E : XX} (hE : XS E) (l : Launch) {Γ : GG} {ad : Nat → Nat} {f : Nat → Int32} {g : Nat → Nat → Int32} {pn : Nat} {P : Nat → Nat → Nat} (hP : ProM pn P f g) (hPB : ProB pn P) {s y : Nat} (hs : s < 10) (hy : y < 1000) : Con E l yX10_isProtested cX10_isProtested 5 (some .boolean) rm_X10_isProtested Γ (wM Γ ad f g) [.ref (ad 0), .int (iI (((s : Nat) : Int))), .int (iI (((y : Nat) : Int)))] (Qi (bI (aPt pn P s y)) (wM Γ ad f g)) := by
  refine Con_mk (by decide) (Nat.le_of_ble_eq_true rfl) ?_
  intro p e s₀ m args below meth c A Fx hr hlk hnm X ls hl
  have hl : lv_has ls 5 [(0, .ref (ad 0)), (1, .int (iI (((s : Nat) : Int)))), (2, .int (iI (((y : Nat) : Int))))] := hl
  have hB1 := hPB.1
  refine k_iconst Fx dX10_isProtested_0 ?_
  refine lv_istore_n (lv' := [(3, .int (iI (0))), (0, .ref (ad 0)), (1, .int (iI (((s : Nat) : Int)))), (2, .int (iI (((y : Nat) : Int))))]) Fx.1 Fx.2.1 dX10_isProtested_1 rfl hl (by decide) rfl (fun ls hl => ?_)
  refine k_iconst Fx dX10_isProtested_2 ?_
  refine lv_istore (lv' := [(4, .int (iI (0))), (3, .int (iI (0))), (0, .ref (ad 0)), (1, .int (iI (((s : Nat) : Int)))), (2, .int (iI (((y : Nat) : Int))))]) Fx.1 Fx.2.1 dX10_isProtested_3 hl (by decide) rfl (fun ls hl => ?_)
  have lp_5 : ∀ (nn : Nat) (j : Nat), pn - j < nn → (j ≤ pn) → ∀ (H : Heap) (locs : List Loc) (ls : Array Slot), Wd E Γ A s₀ H locs (wM Γ ad f g) → lv_has ls 5 [(0, .ref (ad 0)), (1, .int (iI (((s : Nat) : Int)))), (2, .int (iI (((y : Nat) : Int)))), (3, .int (bI (anyN (fun j9 => P 0 j9 = s ∧ P 1 j9 = y) j))), (4, .int (iI (((j : Nat) : Int))))] → W p l e rm_X10_isProtested s₀ m args below meth c H locs (0) (0) (RQ below args s₀ Γ A (Qi (bI (aPt pn P s y)) (wM Γ ad f g)) rm_X10_isProtested) (F0 m 5 ls []) := by
    intro nn
    induction nn with
    | zero => intro j hmu; exact absurd hmu (Nat.not_lt_zero _)
    | succ nn ih =>
      intro j hmu hj H locs ls X hl
      have ih_5 := ih
      refine lv_iload Fx.1 Fx.2.1 dX10_isProtested_5 (lv_at hl 4 rfl) ?_
      refine lv_aload_n Fx.1 Fx.2.1 dX10_isProtested_7 rfl (lv_at hl 0 rfl) ?_
      refine gM_2 (x := (iI (((pn : Nat) : Int)))) Fx X (hP.1) dX10_isProtested_8 ?_
      refine k_icmp_ge (a := ((j : Nat) : Int)) (b := ((pn : Nat) : Int)) (tgt := 52) Fx dX10_isProtested_11 (by decide) (by omega) (by omega) (fun c_11 => ?_) (fun c_11 => ?_)
      · refine lv_iload_n Fx.1 Fx.2.1 dX10_isProtested_52 rfl (lv_at hl 3 rfl) ?_
        exact r_zret Fx hr hlk X (by decide) dX10_isProtested_53 (bI_nar _) (Qi_mk (by rw [show j = pn by omega]; rfl))
      · refine lv_iload_n Fx.1 Fx.2.1 dX10_isProtested_14 rfl (lv_at hl 3 rfl) ?_
        refine k_bif_ne (tgt := 40) Fx dX10_isProtested_15 (by decide) (fun c_15 => ?_) (fun c_15 => ?_)
        · refine k_iconst Fx dX10_isProtested_40 ?_
          refine lv_goto (tgt := 45) Fx.1 Fx.2.1 dX10_isProtested_41 (by decide) ?_
          refine lv_istore_n (lv' := [(3, .int (iI (1))), (0, .ref (ad 0)), (1, .int (iI (((s : Nat) : Int)))), (2, .int (iI (((y : Nat) : Int)))), (4, .int (iI (((j : Nat) : Int))))]) Fx.1 Fx.2.1 dX10_isProtested_45 rfl hl (by decide) rfl (fun ls hl => ?_)
          refine k_iinc (k := 4) (a := ((j : Nat) : Int)) (lv' := [(4, .int (iI ((((j : Nat) : Int) + 1)))), (3, .int (iI (1))), (0, .ref (ad 0)), (1, .int (iI (((s : Nat) : Int)))), (2, .int (iI (((y : Nat) : Int))))]) Fx dX10_isProtested_46 hl rfl (by decide) rfl (fun ls hl => ?_)
          refine lv_goto (tgt := 5) Fx.1 Fx.2.1 dX10_isProtested_49 (by decide) ?_
          have hl_1 := lv_rp hl 1 rfl (show (iI (1)) = (bI (anyN (fun j9 => P 0 j9 = s ∧ P 1 j9 = y) (j + 1))) from bI_1 (anyN_s.mpr (Or.inl c_15)))
          have hl_2 := lv_rp hl_1 0 rfl (show (iI ((((j : Nat) : Int) + 1))) = (iI ((((j + 1) : Nat) : Int))) from congrArg iI (by omega))
          exact ih_5 (j + 1) (by omega) (by omega) _ _ _ X (lv_sub hl_2 [2, 3, 4, 1, 0] rfl)
        · refine lv_aload_n Fx.1 Fx.2.1 dX10_isProtested_18 rfl (lv_at hl 0 rfl) ?_
          refine gM_34 Fx X dX10_isProtested_19 ?_
          refine lv_iload Fx.1 Fx.2.1 dX10_isProtested_22 (lv_at hl 4 rfl) ?_
          refine ldM_34 (z := ((j : Nat) : Int)) (i := j) (x := (iI (((P 0 (j) : Nat) : Int)))) Fx X (rfl) (by omega) (hP.2.1 (j)) dX10_isProtested_24 ?_
          have bp_x := hPB.2 (j)
          refine lv_iload_n Fx.1 Fx.2.1 dX10_isProtested_25 rfl (lv_at hl 1 rfl) ?_
          refine k_icmp_ne (a := ((P 0 (j) : Nat) : Int)) (b := ((s : Nat) : Int)) (tgt := 44) Fx dX10_isProtested_26 (by decide) (by omega) (by omega) (fun c_26 => ?_) (fun c_26 => ?_)
          · refine k_iconst Fx dX10_isProtested_44 ?_
            refine lv_istore_n (lv' := [(3, .int (iI (0))), (0, .ref (ad 0)), (1, .int (iI (((s : Nat) : Int)))), (2, .int (iI (((y : Nat) : Int)))), (4, .int (iI (((j : Nat) : Int))))]) Fx.1 Fx.2.1 dX10_isProtested_45 rfl hl (by decide) rfl (fun ls hl => ?_)
            refine k_iinc (k := 4) (a := ((j : Nat) : Int)) (lv' := [(4, .int (iI ((((j : Nat) : Int) + 1)))), (3, .int (iI (0))), (0, .ref (ad 0)), (1, .int (iI (((s : Nat) : Int)))), (2, .int (iI (((y : Nat) : Int))))]) Fx dX10_isProtested_46 hl rfl (by decide) rfl (fun ls hl => ?_)
            refine lv_goto (tgt := 5) Fx.1 Fx.2.1 dX10_isProtested_49 (by decide) ?_
            have hl_3 := lv_rp hl 1 rfl (show (iI (0)) = (bI (anyN (fun j9 => P 0 j9 = s ∧ P 1 j9 = y) (j + 1))) from bI_0 (fun h => (anyN_s.mp h).elim c_15 (fun z => by have z1 := z.1; omega)))
            have hl_4 := lv_rp hl_3 0 rfl (show (iI ((((j : Nat) : Int) + 1))) = (iI ((((j + 1) : Nat) : Int))) from congrArg iI (by omega))
            exact ih_5 (j + 1) (by omega) (by omega) _ _ _ X (lv_sub hl_4 [2, 3, 4, 1, 0] rfl)
          · refine lv_aload_n Fx.1 Fx.2.1 dX10_isProtested_29 rfl (lv_at hl 0 rfl) ?_
            refine gM_35 Fx X dX10_isProtested_30 ?_
            refine lv_iload Fx.1 Fx.2.1 dX10_isProtested_33 (lv_at hl 4 rfl) ?_
            refine ldM_35 (z := ((j : Nat) : Int)) (i := j) (x := (iI (((P 1 (j) : Nat) : Int)))) Fx X (rfl) (by omega) (hP.2.2 (j)) dX10_isProtested_35 ?_
            have bp_x := hPB.2 (j)
            refine lv_iload_n Fx.1 Fx.2.1 dX10_isProtested_36 rfl (lv_at hl 2 rfl) ?_
            refine k_icmp_ne (a := ((P 1 (j) : Nat) : Int)) (b := ((y : Nat) : Int)) (tgt := 44) Fx dX10_isProtested_37 (by decide) (by omega) (by omega) (fun c_37 => ?_) (fun c_37 => ?_)
            · refine k_iconst Fx dX10_isProtested_44 ?_
              refine lv_istore_n (lv' := [(3, .int (iI (0))), (0, .ref (ad 0)), (1, .int (iI (((s : Nat) : Int)))), (2, .int (iI (((y : Nat) : Int)))), (4, .int (iI (((j : Nat) : Int))))]) Fx.1 Fx.2.1 dX10_isProtested_45 rfl hl (by decide) rfl (fun ls hl => ?_)
              refine k_iinc (k := 4) (a := ((j : Nat) : Int)) (lv' := [(4, .int (iI ((((j : Nat) : Int) + 1)))), (3, .int (iI (0))), (0, .ref (ad 0)), (1, .int (iI (((s : Nat) : Int)))), (2, .int (iI (((y : Nat) : Int))))]) Fx dX10_isProtested_46 hl rfl (by decide) rfl (fun ls hl => ?_)
              refine lv_goto (tgt := 5) Fx.1 Fx.2.1 dX10_isProtested_49 (by decide) ?_
              have hl_5 := lv_rp hl 1 rfl (show (iI (0)) = (bI (anyN (fun j9 => P 0 j9 = s ∧ P 1 j9 = y) (j + 1))) from bI_0 (fun h => (anyN_s.mp h).elim c_15 (fun z => by have z1 := z.2; omega)))
              have hl_6 := lv_rp hl_5 0 rfl (show (iI ((((j : Nat) : Int) + 1))) = (iI ((((j + 1) : Nat) : Int))) from congrArg iI (by omega))
              exact ih_5 (j + 1) (by omega) (by omega) _ _ _ X (lv_sub hl_6 [2, 3, 4, 1, 0] rfl)
            · refine k_iconst Fx dX10_isProtested_40 ?_
              refine lv_goto (tgt := 45) Fx.1 Fx.2.1 dX10_isProtested_41 (by decide) ?_
              refine lv_istore_n (lv' := [(3, .int (iI (1))), (0, .ref (ad 0)), (1, .int (iI (((s : Nat) : Int)))), (2, .int (iI (((y : Nat) : Int)))), (4, .int (iI (((j : Nat) : Int))))]) Fx.1 Fx.2.1 dX10_isProtested_45 rfl hl (by decide) rfl (fun ls hl => ?_)
              refine k_iinc (k := 4) (a := ((j : Nat) : Int)) (lv' := [(4, .int (iI ((((j : Nat) : Int) + 1)))), (3, .int (iI (1))), (0, .ref (ad 0)), (1, .int (iI (((s : Nat) : Int)))), (2, .int (iI (((y : Nat) : Int))))]) Fx dX10_isProtested_46 hl rfl (by decide) rfl (fun ls hl => ?_)
              refine lv_goto (tgt := 5) Fx.1 Fx.2.1 dX10_isProtested_49 (by decide) ?_
              have hl_7 := lv_rp hl 1 rfl (show (iI (1)) = (bI (anyN (fun j9 => P 0 j9 = s ∧ P 1 j9 = y) (j + 1))) from bI_1 (anyN_s.mpr (Or.inr (by show _ ∧ _; omega))))
              have hl_8 := lv_rp hl_7 0 rfl (show (iI ((((j : Nat) : Int) + 1))) = (iI ((((j + 1) : Nat) : Int))) from congrArg iI (by omega))
              exact ih_5 (j + 1) (by omega) (by omega) _ _ _ X (lv_sub hl_8 [2, 3, 4, 1, 0] rfl)
  have hl_9 := lv_rp hl 1 rfl (show (iI (0)) = (bI (anyN (fun j9 => P 0 j9 = s ∧ P 1 j9 = y) 0)) from bI_0 (anyN_0 _))
  have hl_10 := lv_rp hl_9 0 rfl (show (iI (0)) = (iI (((0 : Nat) : Int))) from congrArg iI (by omega))
  exact lp_5 _ (0) (Nat.lt_succ_self _) (by omega) _ _ _ X (lv_sub hl_10 [2, 3, 4, 1, 0] rfl)

abbrev rm_X10_protest : Room := ({ frames := 2, cells := 0, slots := 0, locals := 42 } : Room)
set_option maxHeartbeats 4000000 in
set_option maxRecDepth 100000 in
theorem c_X10_protest {E : XX} (hE : XS E) (l : Launch) {Γ : GG} {ad : Nat → Nat} {f : Nat → Int32} {g : Nat → Nat → Int32} {pn : Nat} {P : Nat → Nat → Nat} (hP : ProM pn P f g) (hPB : ProB pn P) {s y : Int} (hs : -2147483648 ≤ s ∧ s < 2147483648) (hy : -2147483648 ≤ y ∧ y < 2147483648) : Con E l yX10_protest cX10_protest 3 (some .boolean) rm_X10_protest Γ (wM Γ ad f g) [.ref (ad 0), .int (iI (s)), .int (iI (y))] (fun v w2 => (((0 ≤ s ∧ s ≤ 9) ∧ (0 ≤ y ∧ y ≤ 999) ∧ ¬ aPt pn P s.toNat y.toNat ∧ pn < 20) ∧ v = some (.int (bI True)) ∧ ∃ f1 g1, w2 = wM Γ ad f1 g1 ∧ ProM (pn + 1) (pPut P pn s y) f1 g1 ∧ (∀ j, j ≠ 2 → f1 j = f j) ∧ (∀ j, (j < 34 ∨ 35 < j) → g1 j = g j)) ∨ (¬ ((0 ≤ s ∧ s ≤ 9) ∧ (0 ≤ y ∧ y ≤ 999) ∧ ¬ aPt pn P s.toNat y.toNat ∧ pn < 20) ∧ v = some (.int (bI False)) ∧ w2 = wM Γ ad f g)) := by
  refine Con_mk (by decide) (Nat.le_of_ble_eq_true rfl) ?_
  intro p e s₀ m args below meth c A Fx hr hlk hnm X ls hl
  have hl : lv_has ls 3 [(0, .ref (ad 0)), (1, .int (iI (s))), (2, .int (iI (y)))] := hl
  have hB1 := hPB.1
  refine lv_iload_n Fx.1 Fx.2.1 dX10_protest_0 rfl (lv_at hl 1 rfl) ?_
  refine r_callSi (As := [.int (iI (s))]) (rest := []) hE Fx X (c_X10_isStation hE l (v := s) (by omega)) cS_X10_94 rfl rfl (Nat.le_of_ble_eq_true rfl) (by decide) hl.1 dX10_protest_1 (fun H locs X => ?_)
  refine k_bif_eq (tgt := 32) Fx dX10_protest_4 (by decide) (fun c_4 => ?_) (fun c_4 => ?_)
  · refine k_iconst Fx dX10_protest_32 ?_
    exact r_zret Fx hr hlk X (by decide) dX10_protest_33 rfl (Or.inr ⟨by omega, (by rw [bI_f (fun h => h)]; rfl), rfl⟩)
  · refine lv_iload_n Fx.1 Fx.2.1 dX10_protest_7 rfl (lv_at hl 2 rfl) ?_
    refine r_callSi (As := [.int (iI (y))]) (rest := []) hE Fx X (c_X10_isYear hE l (v := y) (by omega)) cS_X10_105 rfl rfl (Nat.le_of_ble_eq_true rfl) (by decide) hl.1 dX10_protest_8 (fun H locs X => ?_)
    refine k_bif_eq (tgt := 32) Fx dX10_protest_11 (by decide) (fun c_11 => ?_) (fun c_11 => ?_)
    · refine k_iconst Fx dX10_protest_32 ?_
      exact r_zret Fx hr hlk X (by decide) dX10_protest_33 rfl (Or.inr ⟨by omega, (by rw [bI_f (fun h => h)]; rfl), rfl⟩)
    · have hl := lv_rp hl 1 rfl (show (iI (s)) = (iI (((s.toNat : Nat) : Int))) from congrArg iI (by omega))
      have hl := lv_rp hl 2 rfl (show (iI (y)) = (iI (((y.toNat : Nat) : Int))) from congrArg iI (by omega))
      refine lv_aload_n Fx.1 Fx.2.1 dX10_protest_14 rfl (lv_at hl 0 rfl) ?_
      refine lv_iload_n Fx.1 Fx.2.1 dX10_protest_15 rfl (lv_at hl 1 rfl) ?_
      refine lv_iload_n Fx.1 Fx.2.1 dX10_protest_16 rfl (lv_at hl 2 rfl) ?_
      refine r_callVi (As := [.int (iI (((s.toNat : Nat) : Int))), .int (iI (((y.toNat : Nat) : Int)))]) (rest := []) hE Fx X (c_X10_isProtested hE l hP hPB (s := s.toNat) (y := y.toNat) (by omega) (by omega)) cV_X10_221 (recM X) rfl rfl (Nat.le_of_ble_eq_true rfl) (by decide) hl.1 dX10_protest_17 (fun H locs X => ?_)
      refine k_bif_ne (tgt := 32) Fx dX10_protest_20 (by decide) (fun c_20 => ?_) (fun c_20 => ?_)
      · refine k_iconst Fx dX10_protest_32 ?_
        exact r_zret Fx hr hlk X (by decide) dX10_protest_33 rfl (Or.inr ⟨fun h => h.2.2.1 c_20, (by rw [bI_f (fun h => h)]; rfl), rfl⟩)
      · refine lv_aload_n Fx.1 Fx.2.1 dX10_protest_23 rfl (lv_at hl 0 rfl) ?_
        refine gM_2 (x := (iI (((pn : Nat) : Int)))) Fx X (hP.1) dX10_protest_24 ?_
        refine k_bipush Fx dX10_protest_27 (by decide) ?_
        refine k_icmp_ne (a := ((pn : Nat) : Int)) (b := 20) (tgt := 34) Fx dX10_protest_29 (by decide) (by omega) (by omega) (fun c_29 => ?_) (fun c_29 => ?_)
        · have hl := lv_rp hl 1 rfl (show (iI (((s.toNat : Nat) : Int))) = (iI (s)) from congrArg iI (by omega))
          have hl := lv_rp hl 2 rfl (show (iI (((y.toNat : Nat) : Int))) = (iI (y)) from congrArg iI (by omega))
          refine lv_aload_n Fx.1 Fx.2.1 dX10_protest_34 rfl (lv_at hl 0 rfl) ?_
          refine gM_34 Fx X dX10_protest_35 ?_
          refine lv_aload_n Fx.1 Fx.2.1 dX10_protest_38 rfl (lv_at hl 0 rfl) ?_
          refine gM_2 (x := (iI (((pn : Nat) : Int)))) Fx X (hP.1) dX10_protest_39 ?_
          refine lv_iload_n Fx.1 Fx.2.1 dX10_protest_42 rfl (lv_at hl 1 rfl) ?_
          refine stM_34 (z := ((pn : Nat) : Int)) (i := pn) Fx X (rfl) (by omega) dX10_protest_43 (fun H locs X => ?_)
          refine lv_aload_n Fx.1 Fx.2.1 dX10_protest_44 rfl (lv_at hl 0 rfl) ?_
          refine gM_35 Fx X dX10_protest_45 ?_
          refine lv_aload_n Fx.1 Fx.2.1 dX10_protest_48 rfl (lv_at hl 0 rfl) ?_
          refine gM_2 (x := (iI (((pn : Nat) : Int)))) Fx X (hP.1) dX10_protest_49 ?_
          refine lv_iload_n Fx.1 Fx.2.1 dX10_protest_52 rfl (lv_at hl 2 rfl) ?_
          refine stM_35 (z := ((pn : Nat) : Int)) (i := pn) Fx X (rfl) (by omega) dX10_protest_53 (fun H locs X => ?_)
          refine lv_aload_n Fx.1 Fx.2.1 dX10_protest_54 rfl (lv_at hl 0 rfl) ?_
          refine lv_dup Fx.1 Fx.2.1 dX10_protest_55 rfl ?_
          refine gM_2 (x := (iI (((pn : Nat) : Int)))) Fx X (hP.1) dX10_protest_56 ?_
          refine k_iconst Fx dX10_protest_59 ?_
          refine k_iadd Fx dX10_protest_60 ?_
          refine pM_2 Fx X dX10_protest_61 (fun H locs X => ?_)
          refine k_iconst Fx dX10_protest_64 ?_
          exact r_zret Fx hr hlk X (by decide) dX10_protest_65 rfl (Or.inl ⟨⟨by omega, by omega, c_20, by omega⟩, (by rw [bI_t trivial]; rfl), _, _, rfl, ⟨congrArg iI (by omega), row_put (hP.2.1) (by omega) (fun i => rfl), row_put (hP.2.2) (by omega) (fun i => rfl)⟩, fun j hj => upd_n hj, fun j h1 => ((updA_n (by omega)).trans (updA_n (by omega)))⟩)
        · refine k_iconst Fx dX10_protest_32 ?_
          exact r_zret Fx hr hlk X (by decide) dX10_protest_33 rfl (Or.inr ⟨by omega, (by rw [bI_f (fun h => h)]; rfl), rfl⟩)

abbrev rm_X10_mowedIn : Room := ({ frames := 1, cells := 0, slots := 0, locals := 22 } : Room)
set_option maxHeartbeats 4000000 in
set_option maxRecDepth 100000 in
theorem c_X10_mowedIn {E : XX} (hE : XS E) (l : Launch) {Γ : GG} {ad : Nat → Nat} {f : Nat → Int32} {g : Nat → Nat → Int32} {mn : Nat} {M : Nat → Nat → Nat} (hM : MowM mn M f g) (hMB : MowB mn M) {q s y : Nat} (hq : q < 2) (hs : s < 10) (hy : y < 1000) : Con E l yX10_mowedIn cX10_mowedIn 6 (some .int) rm_X10_mowedIn Γ (wM Γ ad f g) [.ref (ad 0), .int (iI (((q : Nat) : Int))), .int (iI (((s : Nat) : Int))), .int (iI (((y : Nat) : Int)))] (Qi (iI (aMw M q s y mn)) (wM Γ ad f g)) := by
  refine Con_mk (by decide) (Nat.le_of_ble_eq_true rfl) ?_
  intro p e s₀ m args below meth c A Fx hr hlk hnm X ls hl
  have hl : lv_has ls 6 [(0, .ref (ad 0)), (1, .int (iI (((q : Nat) : Int)))), (2, .int (iI (((s : Nat) : Int)))), (3, .int (iI (((y : Nat) : Int))))] := hl
  have hB1 := hMB.1
  refine k_iconst Fx dX10_mowedIn_0 ?_
  refine lv_istore (lv' := [(4, .int (iI ((-1)))), (0, .ref (ad 0)), (1, .int (iI (((q : Nat) : Int)))), (2, .int (iI (((s : Nat) : Int)))), (3, .int (iI (((y : Nat) : Int))))]) Fx.1 Fx.2.1 dX10_mowedIn_1 hl (by decide) rfl (fun ls hl => ?_)
  refine k_iconst Fx dX10_mowedIn_3 ?_
  refine lv_istore (lv' := [(5, .int (iI (0))), (4, .int (iI ((-1)))), (0, .ref (ad 0)), (1, .int (iI (((q : Nat) : Int)))), (2, .int (iI (((s : Nat) : Int)))), (3, .int (iI (((y : Nat) : Int))))]) Fx.1 Fx.2.1 dX10_mowedIn_4 hl (by decide) rfl (fun ls hl => ?_)
  have lp_6 : ∀ (nn : Nat) (j : Nat), mn - j < nn → (j ≤ mn) → ∀ (H : Heap) (locs : List Loc) (ls : Array Slot), Wd E Γ A s₀ H locs (wM Γ ad f g) → lv_has ls 6 [(0, .ref (ad 0)), (1, .int (iI (((q : Nat) : Int)))), (2, .int (iI (((s : Nat) : Int)))), (3, .int (iI (((y : Nat) : Int)))), (4, .int (iI (aMw M q s y j))), (5, .int (iI (((j : Nat) : Int))))] → W p l e rm_X10_mowedIn s₀ m args below meth c H locs (0) (0) (RQ below args s₀ Γ A (Qi (iI (aMw M q s y mn)) (wM Γ ad f g)) rm_X10_mowedIn) (F0 m 6 ls []) := by
    intro nn
    induction nn with
    | zero => intro j hmu; exact absurd hmu (Nat.not_lt_zero _)
    | succ nn ih =>
      intro j hmu hj H locs ls X hl
      have ih_6 := ih
      refine lv_iload Fx.1 Fx.2.1 dX10_mowedIn_6 (lv_at hl 5 rfl) ?_
      refine lv_aload_n Fx.1 Fx.2.1 dX10_mowedIn_8 rfl (lv_at hl 0 rfl) ?_
      refine gM_1 (x := (iI (((mn : Nat) : Int)))) Fx X (hM.1) dX10_mowedIn_9 ?_
      refine k_icmp_ge (a := ((j : Nat) : Int)) (b := ((mn : Nat) : Int)) (tgt := 73) Fx dX10_mowedIn_12 (by decide) (by omega) (by omega) (fun c_12 => ?_) (fun c_12 => ?_)
      · refine lv_iload Fx.1 Fx.2.1 dX10_mowedIn_73 (lv_at hl 4 rfl) ?_
        exact r_iret Fx hr hlk X (by decide) dX10_mowedIn_75 (Qi_mk (by rw [show j = mn by omega]))
      · refine lv_aload_n Fx.1 Fx.2.1 dX10_mowedIn_15 rfl (lv_at hl 0 rfl) ?_
        refine gM_29 Fx X dX10_mowedIn_16 ?_
        refine lv_iload Fx.1 Fx.2.1 dX10_mowedIn_19 (lv_at hl 5 rfl) ?_
        refine ldM_29 (z := ((j : Nat) : Int)) (i := j) (x := (iI (((M 0 (j) : Nat) : Int)))) Fx X (rfl) (by omega) (hM.2.1 (j)) dX10_mowedIn_21 ?_
        have bm_x := hMB.2 (j)
        refine lv_iload_n Fx.1 Fx.2.1 dX10_mowedIn_22 rfl (lv_at hl 1 rfl) ?_
        refine k_icmp_ne (a := ((M 0 (j) : Nat) : Int)) (b := ((q : Nat) : Int)) (tgt := 67) Fx dX10_mowedIn_23 (by decide) (by omega) (by omega) (fun c_23 => ?_) (fun c_23 => ?_)
        · refine k_iinc (k := 5) (a := ((j : Nat) : Int)) (lv' := [(5, .int (iI ((((j : Nat) : Int) + 1)))), (0, .ref (ad 0)), (1, .int (iI (((q : Nat) : Int)))), (2, .int (iI (((s : Nat) : Int)))), (3, .int (iI (((y : Nat) : Int)))), (4, .int (iI (aMw M q s y j)))]) Fx dX10_mowedIn_67 hl rfl (by decide) rfl (fun ls hl => ?_)
          refine lv_goto (tgt := 6) Fx.1 Fx.2.1 dX10_mowedIn_70 (by decide) ?_
          have hl_1 := lv_rp hl 5 rfl (show (iI (aMw M q s y j)) = (iI (aMw M q s y (j + 1))) from congrArg iI (mw_f (by omega)))
          have hl_2 := lv_rp hl_1 0 rfl (show (iI ((((j : Nat) : Int) + 1))) = (iI ((((j + 1) : Nat) : Int))) from congrArg iI (by omega))
          exact ih_6 (j + 1) (by omega) (by omega) _ _ _ X (lv_sub hl_2 [1, 2, 3, 4, 5, 0] rfl)
        · refine lv_iload_n Fx.1 Fx.2.1 dX10_mowedIn_26 rfl (lv_at hl 2 rfl) ?_
          refine lv_aload_n Fx.1 Fx.2.1 dX10_mowedIn_27 rfl (lv_at hl 0 rfl) ?_
          refine gM_30 Fx X dX10_mowedIn_28 ?_
          refine lv_iload Fx.1 Fx.2.1 dX10_mowedIn_31 (lv_at hl 5 rfl) ?_
          refine ldM_30 (z := ((j : Nat) : Int)) (i := j) (x := (iI (((M 1 (j) : Nat) : Int)))) Fx X (rfl) (by omega) (hM.2.2.1 (j)) dX10_mowedIn_33 ?_
          have bm_x := hMB.2 (j)
          refine lv_aload_n Fx.1 Fx.2.1 dX10_mowedIn_34 rfl (lv_at hl 0 rfl) ?_
          refine gM_31 Fx X dX10_mowedIn_35 ?_
          refine lv_iload Fx.1 Fx.2.1 dX10_mowedIn_38 (lv_at hl 5 rfl) ?_
          refine ldM_31 (z := ((j : Nat) : Int)) (i := j) (x := (iI (((M 2 (j) : Nat) : Int)))) Fx X (rfl) (by omega) (hM.2.2.2.1 (j)) dX10_mowedIn_40 ?_
          have bm_x := hMB.2 (j)
          refine r_callSi (As := [.int (iI (((s : Nat) : Int))), .int (iI (((M 1 (j) : Nat) : Int))), .int (iI (((M 2 (j) : Nat) : Int)))]) (rest := []) hE Fx X (c_X10_isIn hE l (v := ((s : Nat) : Int)) (a := ((M 1 (j) : Nat) : Int)) (b := ((M 2 (j) : Nat) : Int)) (by omega) (by omega) (by omega)) cS_X10_90 rfl rfl (Nat.le_of_ble_eq_true rfl) (by decide) hl.1 dX10_mowedIn_41 (fun H locs X => ?_)
          refine k_bif_eq (tgt := 67) Fx dX10_mowedIn_44 (by decide) (fun c_44 => ?_) (fun c_44 => ?_)
          · refine k_iinc (k := 5) (a := ((j : Nat) : Int)) (lv' := [(5, .int (iI ((((j : Nat) : Int) + 1)))), (0, .ref (ad 0)), (1, .int (iI (((q : Nat) : Int)))), (2, .int (iI (((s : Nat) : Int)))), (3, .int (iI (((y : Nat) : Int)))), (4, .int (iI (aMw M q s y j)))]) Fx dX10_mowedIn_67 hl rfl (by decide) rfl (fun ls hl => ?_)
            refine lv_goto (tgt := 6) Fx.1 Fx.2.1 dX10_mowedIn_70 (by decide) ?_
            have hl_3 := lv_rp hl 5 rfl (show (iI (aMw M q s y j)) = (iI (aMw M q s y (j + 1))) from congrArg iI (mw_f (by omega)))
            have hl_4 := lv_rp hl_3 0 rfl (show (iI ((((j : Nat) : Int) + 1))) = (iI ((((j + 1) : Nat) : Int))) from congrArg iI (by omega))
            exact ih_6 (j + 1) (by omega) (by omega) _ _ _ X (lv_sub hl_4 [1, 2, 3, 4, 5, 0] rfl)
          · refine lv_aload_n Fx.1 Fx.2.1 dX10_mowedIn_47 rfl (lv_at hl 0 rfl) ?_
            refine gM_33 Fx X dX10_mowedIn_48 ?_
            refine lv_iload Fx.1 Fx.2.1 dX10_mowedIn_51 (lv_at hl 5 rfl) ?_
            refine ldM_33 (z := ((j : Nat) : Int)) (i := j) (x := (iI (((M 4 (j) : Nat) : Int)))) Fx X (rfl) (by omega) (hM.2.2.2.2.2 (j)) dX10_mowedIn_53 ?_
            have bm_x := hMB.2 (j)
            refine lv_iload_n Fx.1 Fx.2.1 dX10_mowedIn_54 rfl (lv_at hl 3 rfl) ?_
            refine k_icmp_ne (a := ((M 4 (j) : Nat) : Int)) (b := ((y : Nat) : Int)) (tgt := 67) Fx dX10_mowedIn_55 (by decide) (by omega) (by omega) (fun c_55 => ?_) (fun c_55 => ?_)
            · refine k_iinc (k := 5) (a := ((j : Nat) : Int)) (lv' := [(5, .int (iI ((((j : Nat) : Int) + 1)))), (0, .ref (ad 0)), (1, .int (iI (((q : Nat) : Int)))), (2, .int (iI (((s : Nat) : Int)))), (3, .int (iI (((y : Nat) : Int)))), (4, .int (iI (aMw M q s y j)))]) Fx dX10_mowedIn_67 hl rfl (by decide) rfl (fun ls hl => ?_)
              refine lv_goto (tgt := 6) Fx.1 Fx.2.1 dX10_mowedIn_70 (by decide) ?_
              have hl_5 := lv_rp hl 5 rfl (show (iI (aMw M q s y j)) = (iI (aMw M q s y (j + 1))) from congrArg iI (mw_f (by omega)))
              have hl_6 := lv_rp hl_5 0 rfl (show (iI ((((j : Nat) : Int) + 1))) = (iI ((((j + 1) : Nat) : Int))) from congrArg iI (by omega))
              exact ih_6 (j + 1) (by omega) (by omega) _ _ _ X (lv_sub hl_6 [1, 2, 3, 4, 5, 0] rfl)
            · refine lv_aload_n Fx.1 Fx.2.1 dX10_mowedIn_58 rfl (lv_at hl 0 rfl) ?_
              refine gM_32 Fx X dX10_mowedIn_59 ?_
              refine lv_iload Fx.1 Fx.2.1 dX10_mowedIn_62 (lv_at hl 5 rfl) ?_
              refine ldM_32 (z := ((j : Nat) : Int)) (i := j) (x := (iI (((M 3 (j) : Nat) : Int)))) Fx X (rfl) (by omega) (hM.2.2.2.2.1 (j)) dX10_mowedIn_64 ?_
              have bm_x := hMB.2 (j)
              refine lv_istore (lv' := [(4, .int (iI (((M 3 (j) : Nat) : Int)))), (0, .ref (ad 0)), (1, .int (iI (((q : Nat) : Int)))), (2, .int (iI (((s : Nat) : Int)))), (3, .int (iI (((y : Nat) : Int)))), (5, .int (iI (((j : Nat) : Int))))]) Fx.1 Fx.2.1 dX10_mowedIn_65 hl (by decide) rfl (fun ls hl => ?_)
              refine k_iinc (k := 5) (a := ((j : Nat) : Int)) (lv' := [(5, .int (iI ((((j : Nat) : Int) + 1)))), (4, .int (iI (((M 3 (j) : Nat) : Int)))), (0, .ref (ad 0)), (1, .int (iI (((q : Nat) : Int)))), (2, .int (iI (((s : Nat) : Int)))), (3, .int (iI (((y : Nat) : Int))))]) Fx dX10_mowedIn_67 hl rfl (by decide) rfl (fun ls hl => ?_)
              refine lv_goto (tgt := 6) Fx.1 Fx.2.1 dX10_mowedIn_70 (by decide) ?_
              have hl_7 := lv_rp hl 1 rfl (show (iI (((M 3 (j) : Nat) : Int))) = (iI (aMw M q s y (j + 1))) from congrArg iI (mw_t (by omega)))
              have hl_8 := lv_rp hl_7 0 rfl (show (iI ((((j : Nat) : Int) + 1))) = (iI ((((j + 1) : Nat) : Int))) from congrArg iI (by omega))
              exact ih_6 (j + 1) (by omega) (by omega) _ _ _ X (lv_sub hl_8 [2, 3, 4, 5, 1, 0] rfl)
  have hl_9 := lv_rp hl 1 rfl (show (iI ((-1))) = (iI (aMw M q s y 0)) from rfl)
  have hl_10 := lv_rp hl_9 0 rfl (show (iI (0)) = (iI (((0 : Nat) : Int))) from congrArg iI (by omega))
  exact lp_6 _ (0) (Nat.lt_succ_self _) (by omega) _ _ _ X (lv_sub hl_10 [2, 3, 4, 5, 1, 0] rfl)

abbrev rm_X10_mowed : Room := ({ frames := 2, cells := 0, slots := 0, locals := 47 } : Room)
set_option maxHeartbeats 4000000 in
set_option maxRecDepth 100000 in
theorem c_X10_mowed {E : XX} (hE : XS E) (l : Launch) {Γ : GG} {ad : Nat → Nat} {f : Nat → Int32} {g : Nat → Nat → Int32} {mn : Nat} {M : Nat → Nat → Nat} (hM : MowM mn M f g) (hMB : MowB mn M) {q s y : Int} (hq : -2147483648 ≤ q ∧ q < 2147483648) (hs : -2147483648 ≤ s ∧ s < 2147483648) (hy : -2147483648 ≤ y ∧ y < 2147483648) : Con E l yX10_mowed cX10_mowed 4 (some .int) rm_X10_mowed Γ (wM Γ ad f g) [.ref (ad 0), .int (iI (q)), .int (iI (s)), .int (iI (y))] (Qi (iI (aMowed mn M q s y)) (wM Γ ad f g)) := by
  refine Con_mk (by decide) (Nat.le_of_ble_eq_true rfl) ?_
  intro p e s₀ m args below meth c A Fx hr hlk hnm X ls hl
  have hl : lv_has ls 4 [(0, .ref (ad 0)), (1, .int (iI (q))), (2, .int (iI (s))), (3, .int (iI (y)))] := hl
  refine lv_iload_n Fx.1 Fx.2.1 dX10_mowed_0 rfl (lv_at hl 1 rfl) ?_
  refine k_iconst Fx dX10_mowed_1 ?_
  refine k_iconst Fx dX10_mowed_2 ?_
  refine r_callSi (As := [.int (iI (q)), .int (iI (0)), .int (iI (1))]) (rest := []) hE Fx X (c_X10_isIn hE l (v := q) (a := 0) (b := 1) (by omega) (by omega) (by omega)) cS_X10_90 rfl rfl (Nat.le_of_ble_eq_true rfl) (by decide) hl.1 dX10_mowed_3 (fun H locs X => ?_)
  refine k_bif_eq (tgt := 33) Fx dX10_mowed_6 (by decide) (fun c_6 => ?_) (fun c_6 => ?_)
  · refine k_iconst Fx dX10_mowed_33 ?_
    exact r_iret Fx hr hlk X (by decide) dX10_mowed_34 (Qi_mk (congrArg iI (by unfold aMowed; rw [if_neg (by omega)])))
  · refine lv_iload_n Fx.1 Fx.2.1 dX10_mowed_9 rfl (lv_at hl 2 rfl) ?_
    refine r_callSi (As := [.int (iI (s))]) (rest := []) hE Fx X (c_X10_isStation hE l (v := s) (by omega)) cS_X10_94 rfl rfl (Nat.le_of_ble_eq_true rfl) (by decide) hl.1 dX10_mowed_10 (fun H locs X => ?_)
    refine k_bif_eq (tgt := 33) Fx dX10_mowed_13 (by decide) (fun c_13 => ?_) (fun c_13 => ?_)
    · refine k_iconst Fx dX10_mowed_33 ?_
      exact r_iret Fx hr hlk X (by decide) dX10_mowed_34 (Qi_mk (congrArg iI (by unfold aMowed; rw [if_neg (by omega)])))
    · refine lv_iload_n Fx.1 Fx.2.1 dX10_mowed_16 rfl (lv_at hl 3 rfl) ?_
      refine r_callSi (As := [.int (iI (y))]) (rest := []) hE Fx X (c_X10_isYear hE l (v := y) (by omega)) cS_X10_105 rfl rfl (Nat.le_of_ble_eq_true rfl) (by decide) hl.1 dX10_mowed_17 (fun H locs X => ?_)
      refine k_bif_eq (tgt := 33) Fx dX10_mowed_20 (by decide) (fun c_20 => ?_) (fun c_20 => ?_)
      · refine k_iconst Fx dX10_mowed_33 ?_
        exact r_iret Fx hr hlk X (by decide) dX10_mowed_34 (Qi_mk (congrArg iI (by unfold aMowed; rw [if_neg (by omega)])))
      · have hl := lv_rp hl 1 rfl (show (iI (q)) = (iI (((q.toNat : Nat) : Int))) from congrArg iI (by omega))
        have hl := lv_rp hl 2 rfl (show (iI (s)) = (iI (((s.toNat : Nat) : Int))) from congrArg iI (by omega))
        have hl := lv_rp hl 3 rfl (show (iI (y)) = (iI (((y.toNat : Nat) : Int))) from congrArg iI (by omega))
        refine lv_aload_n Fx.1 Fx.2.1 dX10_mowed_23 rfl (lv_at hl 0 rfl) ?_
        refine lv_iload_n Fx.1 Fx.2.1 dX10_mowed_24 rfl (lv_at hl 1 rfl) ?_
        refine lv_iload_n Fx.1 Fx.2.1 dX10_mowed_25 rfl (lv_at hl 2 rfl) ?_
        refine lv_iload_n Fx.1 Fx.2.1 dX10_mowed_26 rfl (lv_at hl 3 rfl) ?_
        refine r_callVi (As := [.int (iI (((q.toNat : Nat) : Int))), .int (iI (((s.toNat : Nat) : Int))), .int (iI (((y.toNat : Nat) : Int)))]) (rest := []) hE Fx X (c_X10_mowedIn hE l hM hMB (q := q.toNat) (s := s.toNat) (y := y.toNat) (by omega) (by omega) (by omega)) cV_X10_224 (recM X) rfl rfl (Nat.le_of_ble_eq_true rfl) (by decide) hl.1 dX10_mowed_27 (fun H locs X => ?_)
        refine lv_goto (tgt := 34) Fx.1 Fx.2.1 dX10_mowed_30 (by decide) ?_
        exact r_iret Fx hr hlk X (by decide) dX10_mowed_34 (Qi_mk (congrArg iI (by unfold aMowed; rw [if_pos (by omega)])))

