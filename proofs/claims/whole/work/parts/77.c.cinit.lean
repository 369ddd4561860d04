abbrev rm_X3_init : Room := ({ frames := 1, cells := 12, slots := 820, locals := 12 } : Room)
set_option maxHeartbeats 4000000 in
set_option maxRecDepth 100000 in
theorem c_X3_init {E : XX} (hE : XS E) (l : Launch) {Γ : GG} {κ : KK} (hN : EN E κ) {w : va_W} {o : Nat} : Con E l yX3_init cX3_init 1 none rm_X3_init Γ (w ++ [(o, .inr (4, [.null, .int 0, .null]))]) [.ref (o)] (fun v w2 => v = none ∧ ∃ (r0 r1 : Nat) (rr : Nat → Nat), w2 = (w ++ [(o, .inr (4, [.ref (r0), .int (iI (0)), .ref (r1)])), (r0, .inl (Γ.2 0, 10, .inl (fun _ => 0))), (r1, .inl (Γ.2 4, 10, .inr (.inr (.inr (.inr (fun i => some (rr i))))))), (rr 0, .inl (Γ.2 0, 80, .inl (fun _ => 0))), (rr 1, .inl (Γ.2 0, 80, .inl (fun _ => 0))), (rr 2, .inl (Γ.2 0, 80, .inl (fun _ => 0))), (rr 3, .inl (Γ.2 0, 80, .inl (fun _ => 0))), (rr 4, .inl (Γ.2 0, 80, .inl (fun _ => 0))), (rr 5, .inl (Γ.2 0, 80, .inl (fun _ => 0))), (rr 6, .inl (Γ.2 0, 80, .inl (fun _ => 0))), (rr 7, .inl (Γ.2 0, 80, .inl (fun _ => 0))), (rr 8, .inl (Γ.2 0, 80, .inl (fun _ => 0))), (rr 9, .inl (Γ.2 0, 80, .inl (fun _ => 0)))])) := by
  refine Con_mk (by decide) (Nat.le_of_ble_eq_true rfl) ?_
  intro p e s₀ m args below meth c A Fx hr hlk hnm X ls hl
  have hl : lv_has ls 1 [(0, .ref (o))] := hl
  refine lv_aload_n Fx.1 Fx.2.1 dX3_init_0 rfl (lv_at hl 0 rfl) ?_
  refine r_objInit Fx ml_oi_X3 hl.1 dX3_init_1 (by decide) (by decide) ?_
  refine lv_aload_n Fx.1 Fx.2.1 dX3_init_4 rfl (lv_at hl 0 rfl) ?_
  refine k_bipush Fx dX3_init_5 (by decide) ?_
  refine r_newa (t0 := 0) (N := 10) (z := 10) Fx X ac_int rfl rfl RA_int (fun _ => rfl) rfl (by decide) (by decide) (by decide) (by decide) dX3_init_7 (fun q_1 H X => ?_)
  have X : Wd E Γ A s₀ _ _ (w ++ [(o, .inr (4, [.null, .int 0, .null])), (q_1, .inl (Γ.2 0, 10, .inl (fun _ => 0)))]) := Wd.to X (List.append_assoc _ _ _)
  refine pF_X3_9 (q0 := w.length + 0) Fx hnm X (ap_at.trans rfl) rfl rfl (Nat.le_of_ble_eq_true rfl) dX3_init_9 (fun H locs X => ?_)
  have X : Wd E Γ A s₀ _ _ (w ++ [(o, .inr (4, [.ref (q_1), .int 0, .null])), (q_1, .inl (Γ.2 0, 10, .inl (fun _ => 0)))]) := Wd.to X (ap_set.trans rfl)
  refine lv_aload_n Fx.1 Fx.2.1 dX3_init_12 rfl (lv_at hl 0 rfl) ?_
  refine k_iconst Fx dX3_init_13 ?_
  refine pf_X3_15 (q0 := w.length + 0) Fx X (ap_at.trans rfl) rfl rfl (Nat.le_of_ble_eq_true rfl) dX3_init_14 (fun H locs X => ?_)
  have X : Wd E Γ A s₀ _ _ (w ++ [(o, .inr (4, [.ref (q_1), .int (iI (0)), .null])), (q_1, .inl (Γ.2 0, 10, .inl (fun _ => 0)))]) := Wd.to X (ap_set.trans rfl)
  refine lv_aload_n Fx.1 Fx.2.1 dX3_init_17 rfl (lv_at hl 0 rfl) ?_
  refine k_bipush Fx dX3_init_18 (by decide) ?_
  refine k_bipush Fx dX3_init_20 (by decide) ?_
  refine r_mna (N := 10) (K := 80) hN Fx X cl_mna3 rfl rfl (by decide) (by decide) (by decide) (by decide) dX3_init_22 (fun q_2 r_3 H X => ?_)
  have X : Wd E Γ A s₀ _ _ (w ++ [(o, .inr (4, [.ref (q_1), .int (iI (0)), .null])), (q_1, .inl (Γ.2 0, 10, .inl (fun _ => 0))), (q_2, .inl (Γ.2 4, 10, .inr (.inr (.inr (.inr (fun i => some (r_3 i))))))), (r_3 0, .inl (Γ.2 0, 80, .inl (fun _ => 0))), (r_3 1, .inl (Γ.2 0, 80, .inl (fun _ => 0))), (r_3 2, .inl (Γ.2 0, 80, .inl (fun _ => 0))), (r_3 3, .inl (Γ.2 0, 80, .inl (fun _ => 0))), (r_3 4, .inl (Γ.2 0, 80, .inl (fun _ => 0))), (r_3 5, .inl (Γ.2 0, 80, .inl (fun _ => 0))), (r_3 6, .inl (Γ.2 0, 80, .inl (fun _ => 0))), (r_3 7, .inl (Γ.2 0, 80, .inl (fun _ => 0))), (r_3 8, .inl (Γ.2 0, 80, .inl (fun _ => 0))), (r_3 9, .inl (Γ.2 0, 80, .inl (fun _ => 0)))]) := Wd.to X (List.append_assoc _ _ _)
  refine pF_X3_21 (q0 := w.length + 0) Fx hnm X (ap_at.trans rfl) rfl rfl (Nat.le_of_ble_eq_true rfl) dX3_init_26 (fun H locs X => ?_)
  have X : Wd E Γ A s₀ _ _ (w ++ [(o, .inr (4, [.ref (q_1), .int (iI (0)), .ref (q_2)])), (q_1, .inl (Γ.2 0, 10, .inl (fun _ => 0))), (q_2, .inl (Γ.2 4, 10, .inr (.inr (.inr (.inr (fun i => some (r_3 i))))))), (r_3 0, .inl (Γ.2 0, 80, .inl (fun _ => 0))), (r_3 1, .inl (Γ.2 0, 80, .inl (fun _ => 0))), (r_3 2, .inl (Γ.2 0, 80, .inl (fun _ => 0))), (r_3 3, .inl (Γ.2 0, 80, .inl (fun _ => 0))), (r_3 4, .inl (Γ.2 0, 80, .inl (fun _ => 0))), (r_3 5, .inl (Γ.2 0, 80, .inl (fun _ => 0))), (r_3 6, .inl (Γ.2 0, 80, .inl (fun _ => 0))), (r_3 7, .inl (Γ.2 0, 80, .inl (fun _ => 0))), (r_3 8, .inl (Γ.2 0, 80, .inl (fun _ => 0))), (r_3 9, .inl (Γ.2 0, 80, .inl (fun _ => 0)))]) := Wd.to X (ap_set.trans rfl)
  exact r_vret Fx hr hlk X (by decide) dX3_init_29 (⟨rfl, _, _, _, rfl⟩)

abbrev rm_X8_init : Room := ({ frames := 1, cells := 5, slots := 126, locals := 12 } : Room)
set_option maxHeartbeats 4000000 in
set_option maxRecDepth 100000 in
theorem c_X8_init {E : XX} (hE : XS E) (l : Launch) {Γ : GG} {κ : KK} (hN : EN E κ) {w : va_W} {o : Nat} {t5 t6 : Nat} : Con E l yX8_init cX8_init 3 none rm_X8_init Γ (w ++ [(o, .inr (9, [.int 0, .int 0, .null, .null, .null, .null, .null]))]) [.ref (o), .ref (t5), .ref (t6)] (fun v w2 => v = none ∧ ∃ (r0 r1 r2 : Nat) (rr : Nat → Nat), w2 = (w ++ [(o, .inr (9, [.int (iI (0)), .int (iI ((-1))), .ref (r0), .ref (t5), .ref (t6), .ref (r1), .ref (r2)])), (r0, .inl (Γ.2 0, 2, .inl (fun _ => 0))), (r1, .inl (Γ.2 0, 2, .inl (fun _ => 0))), (r2, .inl (Γ.2 4, 2, .inr (.inr (.inr (.inr (fun i => some (rr i))))))), (rr 0, .inl (Γ.2 0, 60, .inl (fun _ => 0))), (rr 1, .inl (Γ.2 0, 60, .inl (fun _ => 0)))])) := by
  refine Con_mk (by decide) (Nat.le_of_ble_eq_true rfl) ?_
  intro p e s₀ m args below meth c A Fx hr hlk hnm X ls hl
  have hl : lv_has ls 3 [(0, .ref (o)), (1, .ref (t5)), (2, .ref (t6))] := hl
  refine lv_aload_n Fx.1 Fx.2.1 dX8_init_0 rfl (lv_at hl 0 rfl) ?_
  refine r_objInit Fx ml_oi_X8 hl.1 dX8_init_1 (by decide) (by decide) ?_
  refine lv_aload_n Fx.1 Fx.2.1 dX8_init_4 rfl (lv_at hl 0 rfl) ?_
  refine k_iconst Fx dX8_init_5 ?_
  refine pf_X8_9 (q0 := w.length + 0) Fx X (ap_at.trans rfl) rfl rfl (Nat.le_of_ble_eq_true rfl) dX8_init_6 (fun H locs X => ?_)
  have X : Wd E Γ A s₀ _ _ (w ++ [(o, .inr (9, [.int (iI (0)), .int 0, .null, .null, .null, .null, .null]))]) := Wd.to X (ap_set.trans rfl)
  refine lv_aload_n Fx.1 Fx.2.1 dX8_init_9 rfl (lv_at hl 0 rfl) ?_
  refine k_iconst Fx dX8_init_10 ?_
  refine pf_X8_15 (q0 := w.length + 0) Fx X (ap_at.trans rfl) rfl rfl (Nat.le_of_ble_eq_true rfl) dX8_init_11 (fun H locs X => ?_)
  have X : Wd E Γ A s₀ _ _ (w ++ [(o, .inr (9, [.int (iI (0)), .int (iI ((-1))), .null, .null, .null, .null, .null]))]) := Wd.to X (ap_set.trans rfl)
  refine lv_aload_n Fx.1 Fx.2.1 dX8_init_14 rfl (lv_at hl 0 rfl) ?_
  refine k_iconst Fx dX8_init_15 ?_
  refine r_newa (t0 := 0) (N := 2) (z := 2) Fx X ac_int rfl rfl RA_int (fun _ => rfl) rfl (by decide) (by decide) (by decide) (by decide) dX8_init_16 (fun q_1 H X => ?_)
  have X : Wd E Γ A s₀ _ _ (w ++ [(o, .inr (9, [.int (iI (0)), .int (iI ((-1))), .null, .null, .null, .null, .null])), (q_1, .inl (Γ.2 0, 2, .inl (fun _ => 0)))]) := Wd.to X (List.append_assoc _ _ _)
  refine pF_X8_18 (q0 := w.length + 0) Fx hnm X (ap_at.trans rfl) rfl rfl (Nat.le_of_ble_eq_true rfl) dX8_init_18 (fun H locs X => ?_)
  have X : Wd E Γ A s₀ _ _ (w ++ [(o, .inr (9, [.int (iI (0)), .int (iI ((-1))), .ref (q_1), .null, .null, .null, .null])), (q_1, .inl (Γ.2 0, 2, .inl (fun _ => 0)))]) := Wd.to X (ap_set.trans rfl)
  refine lv_aload_n Fx.1 Fx.2.1 dX8_init_21 rfl (lv_at hl 0 rfl) ?_
  refine k_iconst Fx dX8_init_22 ?_
  refine r_newa (t0 := 0) (N := 2) (z := 2) Fx X ac_int rfl rfl RA_int (fun _ => rfl) rfl (by decide) (by decide) (by decide) (by decide) dX8_init_23 (fun q_2 H X => ?_)
  have X : Wd E Γ A s₀ _ _ (w ++ [(o, .inr (9, [.int (iI (0)), .int (iI ((-1))), .ref (q_1), .null, .null, .null, .null])), (q_1, .inl (Γ.2 0, 2, .inl (fun _ => 0))), (q_2, .inl (Γ.2 0, 2, .inl (fun _ => 0)))]) := Wd.to X (List.append_assoc _ _ _)
  refine pF_X8_22 (q0 := w.length + 0) Fx hnm X (ap_at.trans rfl) rfl rfl (Nat.le_of_ble_eq_true rfl) dX8_init_25 (fun H locs X => ?_)
  have X : Wd E Γ A s₀ _ _ (w ++ [(o, .inr (9, [.int (iI (0)), .int (iI ((-1))), .ref (q_1), .null, .null, .ref (q_2), .null])), (q_1, .inl (Γ.2 0, 2, .inl (fun _ => 0))), (q_2, .inl (Γ.2 0, 2, .inl (fun _ => 0)))]) := Wd.to X (ap_set.trans rfl)
  refine lv_aload_n Fx.1 Fx.2.1 dX8_init_28 rfl (lv_at hl 0 rfl) ?_
  refine k_iconst Fx dX8_init_29 ?_
  refine k_bipush Fx dX8_init_30 (by decide) ?_
  refine r_mna (N := 2) (K := 60) hN Fx X cl_mna8 rfl rfl (by decide) (by decide) (by decide) (by decide) dX8_init_32 (fun q_3 r_4 H X => ?_)
  have X : Wd E Γ A s₀ _ _ (w ++ [(o, .inr (9, [.int (iI (0)), .int (iI ((-1))), .ref (q_1), .null, .null, .ref (q_2), .null])), (q_1, .inl (Γ.2 0, 2, .inl (fun _ => 0))), (q_2, .inl (Γ.2 0, 2, .inl (fun _ => 0))), (q_3, .inl (Γ.2 4, 2, .inr (.inr (.inr (.inr (fun i => some (r_4 i))))))), (r_4 0, .inl (Γ.2 0, 60, .inl (fun _ => 0))), (r_4 1, .inl (Γ.2 0, 60, .inl (fun _ => 0)))]) := Wd.to X (List.append_assoc _ _ _)
  refine pF_X8_27 (q0 := w.length + 0) Fx hnm X (ap_at.trans rfl) rfl rfl (Nat.le_of_ble_eq_true rfl) dX8_init_36 (fun H locs X => ?_)
  have X : Wd E Γ A s₀ _ _ (w ++ [(o, .inr (9, [.int (iI (0)), .int (iI ((-1))), .ref (q_1), .null, .null, .ref (q_2), .ref (q_3)])), (q_1, .inl (Γ.2 0, 2, .inl (fun _ => 0))), (q_2, .inl (Γ.2 0, 2, .inl (fun _ => 0))), (q_3, .inl (Γ.2 4, 2, .inr (.inr (.inr (.inr (fun i => some (r_4 i))))))), (r_4 0, .inl (Γ.2 0, 60, .inl (fun _ => 0))), (r_4 1, .inl (Γ.2 0, 60, .inl (fun _ => 0)))]) := Wd.to X (ap_set.trans rfl)
  refine lv_aload_n Fx.1 Fx.2.1 dX8_init_39 rfl (lv_at hl 0 rfl) ?_
  refine lv_aload_n Fx.1 Fx.2.1 dX8_init_40 rfl (lv_at hl 1 rfl) ?_
  refine pF_X8_30 (q0 := w.length + 0) Fx hnm X (ap_at.trans rfl) rfl rfl (Nat.le_of_ble_eq_true rfl) dX8_init_41 (fun H locs X => ?_)
  have X : Wd E Γ A s₀ _ _ (w ++ [(o, .inr (9, [.int (iI (0)), .int (iI ((-1))), .ref (q_1), .ref (t5), .null, .ref (q_2), .ref (q_3)])), (q_1, .inl (Γ.2 0, 2, .inl (fun _ => 0))), (q_2, .inl (Γ.2 0, 2, .inl (fun _ => 0))), (q_3, .inl (Γ.2 4, 2, .inr (.inr (.inr (.inr (fun i => some (r_4 i))))))), (r_4 0, .inl (Γ.2 0, 60, .inl (fun _ => 0))), (r_4 1, .inl (Γ.2 0, 60, .inl (fun _ => 0)))]) := Wd.to X (ap_set.trans rfl)
  refine lv_aload_n Fx.1 Fx.2.1 dX8_init_44 rfl (lv_at hl 0 rfl) ?_
  refine lv_aload_n Fx.1 Fx.2.1 dX8_init_45 rfl (lv_at hl 2 rfl) ?_
  refine pF_X8_34 (q0 := w.length + 0) Fx hnm X (ap_at.trans rfl) rfl rfl (Nat.le_of_ble_eq_true rfl) dX8_init_46 (fun H locs X => ?_)
  have X : Wd E Γ A s₀ _ _ (w ++ [(o, .inr (9, [.int (iI (0)), .int (iI ((-1))), .ref (q_1), .ref (t5), .ref (t6), .ref (q_2), .ref (q_3)])), (q_1, .inl (Γ.2 0, 2, .inl (fun _ => 0))), (q_2, .inl (Γ.2 0, 2, .inl (fun _ => 0))), (q_3, .inl (Γ.2 4, 2, .inr (.inr (.inr (.inr (fun i => some (r_4 i))))))), (r_4 0, .inl (Γ.2 0, 60, .inl (fun _ => 0))), (r_4 1, .inl (Γ.2 0, 60, .inl (fun _ => 0)))]) := Wd.to X (ap_set.trans rfl)
  exact r_vret Fx hr hlk X (by decide) dX8_init_49 (⟨rfl, _, _, _, _, rfl⟩)

