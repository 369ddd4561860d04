theorem ml_oi_X7 : Cond.methodLink RX7 3 objectInit ∈ BG := by decide +kernel
theorem ml_oi_X2 : Cond.methodLink RX2 3 objectInit ∈ BG := by decide +kernel
theorem ml_oi_X4 : Cond.methodLink RX4 3 objectInit ∈ BG := by decide +kernel
theorem ml_oi_X5 : Cond.methodLink RX5 3 objectInit ∈ BG := by decide +kernel
theorem ml_oi_X1 : Cond.methodLink RX1 3 objectInit ∈ BG := by decide +kernel
theorem ml_oi_X0 : Cond.methodLink RX0 3 objectInit ∈ BG := by decide +kernel
theorem ml_oi_X3 : Cond.methodLink RX3 3 objectInit ∈ BG := by decide +kernel
theorem ml_oi_X8 : Cond.methodLink RX8 3 objectInit ∈ BG := by decide +kernel
theorem ml_oi_Jxa1e45 : Cond.methodLink RJxa1e45 1 objectInit ∈ BG := by decide +kernel
abbrev rm_X7_init : Room := ({ frames := 1, cells := 1, slots := 400, locals := 12 } : Room)
set_option maxHeartbeats 4000000 in
set_option maxRecDepth 100000 in
theorem c_X7_init {E : XX} (hE : XS E) (l : Launch) {Γ : GG} {w : va_W} {o : Nat} : Con E l yX7_init cX7_init 1 none rm_X7_init Γ (w ++ [(o, .inr (8, [.null, .int 0]))]) [.ref (o)] (fun v w2 => v = none ∧ ∃ r0, w2 = (w ++ [(o, .inr (8, [.ref (r0), .int (iI (0))])), (r0, .inl (Γ.2 1, 400, .inl (fun _ => 0)))])) := by
  refine Con_mk (by decide) (Nat.le_of_ble_eq_true rfl) ?_
  intro p e s₀ m args below meth c A Fx hr hlk hnm X ls hl
  have hl : lv_has ls 1 [(0, .ref (o))] := hl
  refine lv_aload_n Fx.1 Fx.2.1 dX7_init_0 rfl (lv_at hl 0 rfl) ?_
  refine r_objInit Fx ml_oi_X7 hl.1 dX7_init_1 (by decide) (by decide) ?_
  refine lv_aload_n Fx.1 Fx.2.1 dX7_init_4 rfl (lv_at hl 0 rfl) ?_
  refine k_sipush Fx dX7_init_5 (by decide) ?_
  refine r_newa (t0 := 1) (N := 400) (z := 400) Fx X ac_byte rfl rfl RA_byte (fun _ => rfl) rfl (by decide) (by decide) (by decide) (by decide) dX7_init_8 (fun q_1 H X => ?_)
  have X : Wd E Γ A s₀ _ _ (w ++ [(o, .inr (8, [.null, .int 0])), (q_1, .inl (Γ.2 1, 400, .inl (fun _ => 0)))]) := Wd.to X (List.append_assoc _ _ _)
  refine pF_X7_9 (q0 := w.length + 0) Fx hnm X (ap_at.trans rfl) rfl rfl (Nat.le_of_ble_eq_true rfl) dX7_init_10 (fun H locs X => ?_)
  have X : Wd E Γ A s₀ _ _ (w ++ [(o, .inr (8, [.ref (q_1), .int 0])), (q_1, .inl (Γ.2 1, 400, .inl (fun _ => 0)))]) := Wd.to X (ap_set.trans rfl)
  refine lv_aload_n Fx.1 Fx.2.1 dX7_init_13 rfl (lv_at hl 0 rfl) ?_
  refine k_iconst Fx dX7_init_14 ?_
  refine pf_X7_15 (q0 := w.length + 0) Fx X (ap_at.trans rfl) rfl rfl (Nat.le_of_ble_eq_true rfl) dX7_init_15 (fun H locs X => ?_)
  have X : Wd E Γ A s₀ _ _ (w ++ [(o, .inr (8, [.ref (q_1), .int (iI (0))])), (q_1, .inl (Γ.2 1, 400, .inl (fun _ => 0)))]) := Wd.to X (ap_set.trans rfl)
  exact r_vret Fx hr hlk X (by decide) dX7_init_18 (⟨rfl, _, rfl⟩)

abbrev rm_X2_init : Room := ({ frames := 1, cells := 6, slots := 360, locals := 12 } : Room)
set_option maxHeartbeats 4000000 in
set_option maxRecDepth 100000 in
theorem c_X2_init {E : XX} (hE : XS E) (l : Launch) {Γ : GG} {w : va_W} {o : Nat} : Con E l yX2_init cX2_init 1 none rm_X2_init Γ (w ++ [(o, .inr (3, [.int 0, .null, .int 0, .null, .null, .null, .null, .null]))]) [.ref (o)] (fun v w2 => v = none ∧ ∃ r0 r1 r2 r3 r4 r5, w2 = (w ++ [(o, .inr (3, [.int (iI (0)), .ref (r0), .int (iI (0)), .ref (r1), .ref (r2), .ref (r3), .ref (r4), .ref (r5)])), (r0, .inl (Γ.2 0, 60, .inl (fun _ => 0))), (r1, .inl (Γ.2 0, 60, .inl (fun _ => 0))), (r2, .inl (Γ.2 0, 60, .inl (fun _ => 0))), (r3, .inl (Γ.2 0, 60, .inl (fun _ => 0))), (r4, .inl (Γ.2 0, 60, .inl (fun _ => 0))), (r5, .inl (Γ.2 0, 60, .inl (fun _ => 0)))])) := by
  refine Con_mk (by decide) (Nat.le_of_ble_eq_true rfl) ?_
  intro p e s₀ m args below meth c A Fx hr hlk hnm X ls hl
  have hl : lv_has ls 1 [(0, .ref (o))] := hl
  refine lv_aload_n Fx.1 Fx.2.1 dX2_init_0 rfl (lv_at hl 0 rfl) ?_
  refine r_objInit Fx ml_oi_X2 hl.1 dX2_init_1 (by decide) (by decide) ?_
  refine lv_aload_n Fx.1 Fx.2.1 dX2_init_4 rfl (lv_at hl 0 rfl) ?_
  refine k_iconst Fx dX2_init_5 ?_
  refine pf_X2_9 (q0 := w.length + 0) Fx X (ap_at.trans rfl) rfl rfl (Nat.le_of_ble_eq_true rfl) dX2_init_6 (fun H locs X => ?_)
  have X : Wd E Γ A s₀ _ _ (w ++ [(o, .inr (3, [.int (iI (0)), .null, .int 0, .null, .null, .null, .null, .null]))]) := Wd.to X (ap_set.trans rfl)
  refine lv_aload_n Fx.1 Fx.2.1 dX2_init_9 rfl (lv_at hl 0 rfl) ?_
  refine k_bipush Fx dX2_init_10 (by decide) ?_
  refine r_newa (t0 := 0) (N := 60) (z := 60) Fx X ac_int rfl rfl RA_int (fun _ => rfl) rfl (by decide) (by decide) (by decide) (by decide) dX2_init_12 (fun q_1 H X => ?_)
  have X : Wd E Γ A s₀ _ _ (w ++ [(o, .inr (3, [.int (iI (0)), .null, .int 0, .null, .null, .null, .null, .null])), (q_1, .inl (Γ.2 0, 60, .inl (fun _ => 0)))]) := Wd.to X (List.append_assoc _ _ _)
  refine pF_X2_15 (q0 := w.length + 0) Fx hnm X (ap_at.trans rfl) rfl rfl (Nat.le_of_ble_eq_true rfl) dX2_init_14 (fun H locs X => ?_)
  have X : Wd E Γ A s₀ _ _ (w ++ [(o, .inr (3, [.int (iI (0)), .ref (q_1), .int 0, .null, .null, .null, .null, .null])), (q_1, .inl (Γ.2 0, 60, .inl (fun _ => 0)))]) := Wd.to X (ap_set.trans rfl)
  refine lv_aload_n Fx.1 Fx.2.1 dX2_init_17 rfl (lv_at hl 0 rfl) ?_
  refine k_iconst Fx dX2_init_18 ?_
  refine pf_X2_19 (q0 := w.length + 0) Fx X (ap_at.trans rfl) rfl rfl (Nat.le_of_ble_eq_true rfl) dX2_init_19 (fun H locs X => ?_)
  have X : Wd E Γ A s₀ _ _ (w ++ [(o, .inr (3, [.int (iI (0)), .ref (q_1), .int (iI (0)), .null, .null, .null, .null, .null])), (q_1, .inl (Γ.2 0, 60, .inl (fun _ => 0)))]) := Wd.to X (ap_set.trans rfl)
  refine lv_aload_n Fx.1 Fx.2.1 dX2_init_22 rfl (lv_at hl 0 rfl) ?_
  refine k_bipush Fx dX2_init_23 (by decide) ?_
  refine r_newa (t0 := 0) (N := 60) (z := 60) Fx X ac_int rfl rfl RA_int (fun _ => rfl) rfl (by decide) (by decide) (by decide) (by decide) dX2_init_25 (fun q_2 H X => ?_)
  have X : Wd E Γ A s₀ _ _ (w ++ [(o, .inr (3, [.int (iI (0)), .ref (q_1), .int (iI (0)), .null, .null, .null, .null, .null])), (q_1, .inl (Γ.2 0, 60, .inl (fun _ => 0))), (q_2, .inl (Γ.2 0, 60, .inl (fun _ => 0)))]) := Wd.to X (List.append_assoc _ _ _)
  refine pF_X2_22 (q0 := w.length + 0) Fx hnm X (ap_at.trans rfl) rfl rfl (Nat.le_of_ble_eq_true rfl) dX2_init_27 (fun H locs X => ?_)
  have X : Wd E Γ A s₀ _ _ (w ++ [(o, .inr (3, [.int (iI (0)), .ref (q_1), .int (iI (0)), .ref (q_2), .null, .null, .null, .null])), (q_1, .inl (Γ.2 0, 60, .inl (fun _ => 0))), (q_2, .inl (Γ.2 0, 60, .inl (fun _ => 0)))]) := Wd.to X (ap_set.trans rfl)
  refine lv_aload_n Fx.1 Fx.2.1 dX2_init_30 rfl (lv_at hl 0 rfl) ?_
  refine k_bipush Fx dX2_init_31 (by decide) ?_
  refine r_newa (t0 := 0) (N := 60) (z := 60) Fx X ac_int rfl rfl RA_int (fun _ => rfl) rfl (by decide) (by decide) (by decide) (by decide) dX2_init_33 (fun q_3 H X => ?_)
  have X : Wd E Γ A s₀ _ _ (w ++ [(o, .inr (3, [.int (iI (0)), .ref (q_1), .int (iI (0)), .ref (q_2), .null, .null, .null, .null])), (q_1, .inl (Γ.2 0, 60, .inl (fun _ => 0))), (q_2, .inl (Γ.2 0, 60, .inl (fun _ => 0))), (q_3, .inl (Γ.2 0, 60, .inl (fun _ => 0)))]) := Wd.to X (List.append_assoc _ _ _)
  refine pF_X2_25 (q0 := w.length + 0) Fx hnm X (ap_at.trans rfl) rfl rfl (Nat.le_of_ble_eq_true rfl) dX2_init_35 (fun H locs X => ?_)
  have X : Wd E Γ A s₀ _ _ (w ++ [(o, .inr (3, [.int (iI (0)), .ref (q_1), .int (iI (0)), .ref (q_2), .ref (q_3), .null, .null, .null])), (q_1, .inl (Γ.2 0, 60, .inl (fun _ => 0))), (q_2, .inl (Γ.2 0, 60, .inl (fun _ => 0))), (q_3, .inl (Γ.2 0, 60, .inl (fun _ => 0)))]) := Wd.to X (ap_set.trans rfl)
  refine lv_aload_n Fx.1 Fx.2.1 dX2_init_38 rfl (lv_at hl 0 rfl) ?_
  refine k_bipush Fx dX2_init_39 (by decide) ?_
  refine r_newa (t0 := 0) (N := 60) (z := 60) Fx X ac_int rfl rfl RA_int (fun _ => rfl) rfl (by decide) (by decide) (by decide) (by decide) dX2_init_41 (fun q_4 H X => ?_)
  have X : Wd E Γ A s₀ _ _ (w ++ [(o, .inr (3, [.int (iI (0)), .ref (q_1), .int (iI (0)), .ref (q_2), .ref (q_3), .null, .null, .null])), (q_1, .inl (Γ.2 0, 60, .inl (fun _ => 0))), (q_2, .inl (Γ.2 0, 60, .inl (fun _ => 0))), (q_3, .inl (Γ.2 0, 60, .inl (fun _ => 0))), (q_4, .inl (Γ.2 0, 60, .inl (fun _ => 0)))]) := Wd.to X (List.append_assoc _ _ _)
  refine pF_X2_28 (q0 := w.length + 0) Fx hnm X (ap_at.trans rfl) rfl rfl (Nat.le_of_ble_eq_true rfl) dX2_init_43 (fun H locs X => ?_)
  have X : Wd E Γ A s₀ _ _ (w ++ [(o, .inr (3, [.int (iI (0)), .ref (q_1), .int (iI (0)), .ref (q_2), .ref (q_3), .ref (q_4), .null, .null])), (q_1, .inl (Γ.2 0, 60, .inl (fun _ => 0))), (q_2, .inl (Γ.2 0, 60, .inl (fun _ => 0))), (q_3, .inl (Γ.2 0, 60, .inl (fun _ => 0))), (q_4, .inl (Γ.2 0, 60, .inl (fun _ => 0)))]) := Wd.to X (ap_set.trans rfl)
  refine lv_aload_n Fx.1 Fx.2.1 dX2_init_46 rfl (lv_at hl 0 rfl) ?_
  refine k_bipush Fx dX2_init_47 (by decide) ?_
  refine r_newa (t0 := 0) (N := 60) (z := 60) Fx X ac_int rfl rfl RA_int (fun _ => rfl) rfl (by decide) (by decide) (by decide) (by decide) dX2_init_49 (fun q_5 H X => ?_)
  have X : Wd E Γ A s₀ _ _ (w ++ [(o, .inr (3, [.int (iI (0)), .ref (q_1), .int (iI (0)), .ref (q_2), .ref (q_3), .ref (q_4), .null, .null])), (q_1, .inl (Γ.2 0, 60, .inl (fun _ => 0))), (q_2, .inl (Γ.2 0, 60, .inl (fun _ => 0))), (q_3, .inl (Γ.2 0, 60, .inl (fun _ => 0))), (q_4, .inl (Γ.2 0, 60, .inl (fun _ => 0))), (q_5, .inl (Γ.2 0, 60, .inl (fun _ => 0)))]) := Wd.to X (List.append_assoc _ _ _)
  refine pF_X2_31 (q0 := w.length + 0) Fx hnm X (ap_at.trans rfl) rfl rfl (Nat.le_of_ble_eq_true rfl) dX2_init_51 (fun H locs X => ?_)
  have X : Wd E Γ A s₀ _ _ (w ++ [(o, .inr (3, [.int (iI (0)), .ref (q_1), .int (iI (0)), .ref (q_2), .ref (q_3), .ref (q_4), .ref (q_5), .null])), (q_1, .inl (Γ.2 0, 60, .inl (fun _ => 0))), (q_2, .inl (Γ.2 0, 60, .inl (fun _ => 0))), (q_3, .inl (Γ.2 0, 60, .inl (fun _ => 0))), (q_4, .inl (Γ.2 0, 60, .inl (fun _ => 0))), (q_5, .inl (Γ.2 0, 60, .inl (fun _ => 0)))]) := Wd.to X (ap_set.trans rfl)
  refine lv_aload_n Fx.1 Fx.2.1 dX2_init_54 rfl (lv_at hl 0 rfl) ?_
  refine k_bipush Fx dX2_init_55 (by decide) ?_
  refine r_newa (t0 := 0) (N := 60) (z := 60) Fx X ac_int rfl rfl RA_int (fun _ => rfl) rfl (by decide) (by decide) (by decide) (by decide) dX2_init_57 (fun q_6 H X => ?_)
  have X : Wd E Γ A s₀ _ _ (w ++ [(o, .inr (3, [.int (iI (0)), .ref (q_1), .int (iI (0)), .ref (q_2), .ref (q_3), .ref (q_4), .ref (q_5), .null])), (q_1, .inl (Γ.2 0, 60, .inl (fun _ => 0))), (q_2, .inl (Γ.2 0, 60, .inl (fun _ => 0))), (q_3, .inl (Γ.2 0, 60, .inl (fun _ => 0))), (q_4, .inl (Γ.2 0, 60, .inl (fun _ => 0))), (q_5, .inl (Γ.2 0, 60, .inl (fun _ => 0))), (q_6, .inl (Γ.2 0, 60, .inl (fun _ => 0)))]) := Wd.to X (List.append_assoc _ _ _)
  refine pF_X2_34 (q0 := w.length + 0) Fx hnm X (ap_at.trans rfl) rfl rfl (Nat.le_of_ble_eq_true rfl) dX2_init_59 (fun H locs X => ?_)
  have X : Wd E Γ A s₀ _ _ (w ++ [(o, .inr (3, [.int (iI (0)), .ref (q_1), .int (iI (0)), .ref (q_2), .ref (q_3), .ref (q_4), .ref (q_5), .ref (q_6)])), (q_1, .inl (Γ.2 0, 60, .inl (fun _ => 0))), (q_2, .inl (Γ.2 0, 60, .inl (fun _ => 0))), (q_3, .inl (Γ.2 0, 60, .inl (fun _ => 0))), (q_4, .inl (Γ.2 0, 60, .inl (fun _ => 0))), (q_5, .inl (Γ.2 0, 60, .inl (fun _ => 0))), (q_6, .inl (Γ.2 0, 60, .inl (fun _ => 0)))]) := Wd.to X (ap_set.trans rfl)
  exact r_vret Fx hr hlk X (by decide) dX2_init_62 (⟨rfl, _, _, _, _, _, _, rfl⟩)

abbrev rm_X4_init : Room := ({ frames := 1, cells := 2, slots := 40, locals := 12 } : Room)
set_option maxHeartbeats 4000000 in
set_option maxRecDepth 100000 in
theorem c_X4_init {E : XX} (hE : XS E) (l : Launch) {Γ : GG} {w : va_W} {o : Nat} : Con E l yX4_init cX4_init 1 none rm_X4_init Γ (w ++ [(o, .inr (5, [.null, .null, .int 0]))]) [.ref (o)] (fun v w2 => v = none ∧ ∃ r0 r1, w2 = (w ++ [(o, .inr (5, [.ref (r0), .ref (r1), .int (iI (0))])), (r0, .inl (Γ.2 0, 20, .inl (fun _ => 0))), (r1, .inl (Γ.2 0, 20, .inl (fun _ => 0)))])) := by
  refine Con_mk (by decide) (Nat.le_of_ble_eq_true rfl) ?_
  intro p e s₀ m args below meth c A Fx hr hlk hnm X ls hl
  have hl : lv_has ls 1 [(0, .ref (o))] := hl
  refine lv_aload_n Fx.1 Fx.2.1 dX4_init_0 rfl (lv_at hl 0 rfl) ?_
  refine r_objInit Fx ml_oi_X4 hl.1 dX4_init_1 (by decide) (by decide) ?_
  refine lv_aload_n Fx.1 Fx.2.1 dX4_init_4 rfl (lv_at hl 0 rfl) ?_
  refine k_bipush Fx dX4_init_5 (by decide) ?_
  refine r_newa (t0 := 0) (N := 20) (z := 20) Fx X ac_int rfl rfl RA_int (fun _ => rfl) rfl (by decide) (by decide) (by decide) (by decide) dX4_init_7 (fun q_1 H X => ?_)
  have X : Wd E Γ A s₀ _ _ (w ++ [(o, .inr (5, [.null, .null, .int 0])), (q_1, .inl (Γ.2 0, 20, .inl (fun _ => 0)))]) := Wd.to X (List.append_assoc _ _ _)
  refine pF_X4_9 (q0 := w.length + 0) Fx hnm X (ap_at.trans rfl) rfl rfl (Nat.le_of_ble_eq_true rfl) dX4_init_9 (fun H locs X => ?_)
  have X : Wd E Γ A s₀ _ _ (w ++ [(o, .inr (5, [.ref (q_1), .null, .int 0])), (q_1, .inl (Γ.2 0, 20, .inl (fun _ => 0)))]) := Wd.to X (ap_set.trans rfl)
  refine lv_aload_n Fx.1 Fx.2.1 dX4_init_12 rfl (lv_at hl 0 rfl) ?_
  refine k_bipush Fx dX4_init_13 (by decide) ?_
  refine r_newa (t0 := 0) (N := 20) (z := 20) Fx X ac_int rfl rfl RA_int (fun _ => rfl) rfl (by decide) (by decide) (by decide) (by decide) dX4_init_15 (fun q_2 H X => ?_)
  have X : Wd E Γ A s₀ _ _ (w ++ [(o, .inr (5, [.ref (q_1), .null, .int 0])), (q_1, .inl (Γ.2 0, 20, .inl (fun _ => 0))), (q_2, .inl (Γ.2 0, 20, .inl (fun _ => 0)))]) := Wd.to X (List.append_assoc _ _ _)
  refine pF_X4_15 (q0 := w.length + 0) Fx hnm X (ap_at.trans rfl) rfl rfl (Nat.le_of_ble_eq_true rfl) dX4_init_17 (fun H locs X => ?_)
  have X : Wd E Γ A s₀ _ _ (w ++ [(o, .inr (5, [.ref (q_1), .ref (q_2), .int 0])), (q_1, .inl (Γ.2 0, 20, .inl (fun _ => 0))), (q_2, .inl (Γ.2 0, 20, .inl (fun _ => 0)))]) := Wd.to X (ap_set.trans rfl)
  refine lv_aload_n Fx.1 Fx.2.1 dX4_init_20 rfl (lv_at hl 0 rfl) ?_
  refine k_iconst Fx dX4_init_21 ?_
  refine pf_X4_18 (q0 := w.length + 0) Fx X (ap_at.trans rfl) rfl rfl (Nat.le_of_ble_eq_true rfl) dX4_init_22 (fun H locs X => ?_)
  have X : Wd E Γ A s₀ _ _ (w ++ [(o, .inr (5, [.ref (q_1), .ref (q_2), .int (iI (0))])), (q_1, .inl (Γ.2 0, 20, .inl (fun _ => 0))), (q_2, .inl (Γ.2 0, 20, .inl (fun _ => 0)))]) := Wd.to X (ap_set.trans rfl)
  exact r_vret Fx hr hlk X (by decide) dX4_init_25 (⟨rfl, _, _, rfl⟩)

abbrev rm_X5_init : Room := ({ frames := 1, cells := 3, slots := 6, locals := 12 } : Room)
set_option maxHeartbeats 4000000 in
set_option maxRecDepth 100000 in
theorem c_X5_init {E : XX} (hE : XS E) (l : Launch) {Γ : GG} {w : va_W} {o : Nat} : Con E l yX5_init cX5_init 1 none rm_X5_init Γ (w ++ [(o, .inr (6, [.int 0, .int 0, .int 0, .int 0, .int 0, .int 0, .int 0, .null, .null, .null]))]) [.ref (o)] (fun v w2 => v = none ∧ ∃ r0 r1 r2, w2 = (w ++ [(o, .inr (6, [.int (iI (0)), .int (iI (0)), .int (iI ((-1))), .int (iI ((-1))), .int (iI ((-1))), .int (iI (0)), .int (iI (0)), .ref (r0), .ref (r1), .ref (r2)])), (r0, .inl (Γ.2 0, 2, .inl (fun _ => 0))), (r1, .inl (Γ.2 0, 2, .inl (fun _ => 0))), (r2, .inl (Γ.2 0, 2, .inl (fun _ => 0)))])) := by
  refine Con_mk (by decide) (Nat.le_of_ble_eq_true rfl) ?_
  intro p e s₀ m args below meth c A Fx hr hlk hnm X ls hl
  have hl : lv_has ls 1 [(0, .ref (o))] := hl
  refine lv_aload_n Fx.1 Fx.2.1 dX5_init_0 rfl (lv_at hl 0 rfl) ?_
  refine r_objInit Fx ml_oi_X5 hl.1 dX5_init_1 (by decide) (by decide) ?_
  refine lv_aload_n Fx.1 Fx.2.1 dX5_init_4 rfl (lv_at hl 0 rfl) ?_
  refine k_iconst Fx dX5_init_5 ?_
  refine pf_X5_9 (q0 := w.length + 0) Fx X (ap_at.trans rfl) rfl rfl (Nat.le_of_ble_eq_true rfl) dX5_init_6 (fun H locs X => ?_)
  have X : Wd E Γ A s₀ _ _ (w ++ [(o, .inr (6, [.int (iI (0)), .int 0, .int 0, .int 0, .int 0, .int 0, .int 0, .null, .null, .null]))]) := Wd.to X (ap_set.trans rfl)
  refine lv_aload_n Fx.1 Fx.2.1 dX5_init_9 rfl (lv_at hl 0 rfl) ?_
  refine k_iconst Fx dX5_init_10 ?_
  refine pf_X5_15 (q0 := w.length + 0) Fx X (ap_at.trans rfl) rfl rfl (Nat.le_of_ble_eq_true rfl) dX5_init_11 (fun H locs X => ?_)
  have X : Wd E Γ A s₀ _ _ (w ++ [(o, .inr (6, [.int (iI (0)), .int (iI (0)), .int 0, .int 0, .int 0, .int 0, .int 0, .null, .null, .null]))]) := Wd.to X (ap_set.trans rfl)
  refine lv_aload_n Fx.1 Fx.2.1 dX5_init_14 rfl (lv_at hl 0 rfl) ?_
  refine k_iconst Fx dX5_init_15 ?_
  refine pf_X5_19 (q0 := w.length + 0) Fx X (ap_at.trans rfl) rfl rfl (Nat.le_of_ble_eq_true rfl) dX5_init_16 (fun H locs X => ?_)
  have X : Wd E Γ A s₀ _ _ (w ++ [(o, .inr (6, [.int (iI (0)), .int (iI (0)), .int (iI ((-1))), .int 0, .int 0, .int 0, .int 0, .null, .null, .null]))]) := Wd.to X (ap_set.trans rfl)
  refine lv_aload_n Fx.1 Fx.2.1 dX5_init_19 rfl (lv_at hl 0 rfl) ?_
  refine k_iconst Fx dX5_init_20 ?_
  refine pf_X5_22 (q0 := w.length + 0) Fx X (ap_at.trans rfl) rfl rfl (Nat.le_of_ble_eq_true rfl) dX5_init_21 (fun H locs X => ?_)
  have X : Wd E Γ A s₀ _ _ (w ++ [(o, .inr (6, [.int (iI (0)), .int (iI (0)), .int (iI ((-1))), .int (iI ((-1))), .int 0, .int 0, .int 0, .null, .null, .null]))]) := Wd.to X (ap_set.trans rfl)
  refine lv_aload_n Fx.1 Fx.2.1 dX5_init_24 rfl (lv_at hl 0 rfl) ?_
  refine k_iconst Fx dX5_init_25 ?_
  refine pf_X5_25 (q0 := w.length + 0) Fx X (ap_at.trans rfl) rfl rfl (Nat.le_of_ble_eq_true rfl) dX5_init_26 (fun H locs X => ?_)
  have X : Wd E Γ A s₀ _ _ (w ++ [(o, .inr (6, [.int (iI (0)), .int (iI (0)), .int (iI ((-1))), .int (iI ((-1))), .int (iI ((-1))), .int 0, .int 0, .null, .null, .null]))]) := Wd.to X (ap_set.trans rfl)
  refine lv_aload_n Fx.1 Fx.2.1 dX5_init_29 rfl (lv_at hl 0 rfl) ?_
  refine k_iconst Fx dX5_init_30 ?_
  refine pf_X5_28 (q0 := w.length + 0) Fx X (ap_at.trans rfl) rfl rfl (Nat.le_of_ble_eq_true rfl) dX5_init_31 (fun H locs X => ?_)
  have X : Wd E Γ A s₀ _ _ (w ++ [(o, .inr (6, [.int (iI (0)), .int (iI (0)), .int (iI ((-1))), .int (iI ((-1))), .int (iI ((-1))), .int (iI (0)), .int 0, .null, .null, .null]))]) := Wd.to X (ap_set.trans rfl)
  refine lv_aload_n Fx.1 Fx.2.1 dX5_init_34 rfl (lv_at hl 0 rfl) ?_
  refine k_iconst Fx dX5_init_35 ?_
  refine pf_X5_31 (q0 := w.length + 0) Fx X (ap_at.trans rfl) rfl rfl (Nat.le_of_ble_eq_true rfl) dX5_init_36 (fun H locs X => ?_)
  have X : Wd E Γ A s₀ _ _ (w ++ [(o, .inr (6, [.int (iI (0)), .int (iI (0)), .int (iI ((-1))), .int (iI ((-1))), .int (iI ((-1))), .int (iI (0)), .int (iI (0)), .null, .null, .null]))]) := Wd.to X (ap_set.trans rfl)
  refine lv_aload_n Fx.1 Fx.2.1 dX5_init_39 rfl (lv_at hl 0 rfl) ?_
  refine k_iconst Fx dX5_init_40 ?_
  refine r_newa (t0 := 0) (N := 2) (z := 2) Fx X ac_int rfl rfl RA_int (fun _ => rfl) rfl (by decide) (by decide) (by decide) (by decide) dX5_init_41 (fun q_1 H X => ?_)
  have X : Wd E Γ A s₀ _ _ (w ++ [(o, .inr (6, [.int (iI (0)), .int (iI (0)), .int (iI ((-1))), .int (iI ((-1))), .int (iI ((-1))), .int (iI (0)), .int (iI (0)), .null, .null, .null])), (q_1, .inl (Γ.2 0, 2, .inl (fun _ => 0)))]) := Wd.to X (List.append_assoc _ _ _)
  refine pF_X5_34 (q0 := w.length + 0) Fx hnm X (ap_at.trans rfl) rfl rfl (Nat.le_of_ble_eq_true rfl) dX5_init_43 (fun H locs X => ?_)
  have X : Wd E Γ A s₀ _ _ (w ++ [(o, .inr (6, [.int (iI (0)), .int (iI (0)), .int (iI ((-1))), .int (iI ((-1))), .int (iI ((-1))), .int (iI (0)), .int (iI (0)), .ref (q_1), .null, .null])), (q_1, .inl (Γ.2 0, 2, .inl (fun _ => 0)))]) := Wd.to X (ap_set.trans rfl)
  refine lv_aload_n Fx.1 Fx.2.1 dX5_init_46 rfl (lv_at hl 0 rfl) ?_
  refine k_iconst Fx dX5_init_47 ?_
  refine r_newa (t0 := 0) (N := 2) (z := 2) Fx X ac_int rfl rfl RA_int (fun _ => rfl) rfl (by decide) (by decide) (by decide) (by decide) dX5_init_48 (fun q_2 H X => ?_)
  have X : Wd E Γ A s₀ _ _ (w ++ [(o, .inr (6, [.int (iI (0)), .int (iI (0)), .int (iI ((-1))), .int (iI ((-1))), .int (iI ((-1))), .int (iI (0)), .int (iI (0)), .ref (q_1), .null, .null])), (q_1, .inl (Γ.2 0, 2, .inl (fun _ => 0))), (q_2, .inl (Γ.2 0, 2, .inl (fun _ => 0)))]) := Wd.to X (List.append_assoc _ _ _)
  refine pF_X5_38 (q0 := w.length + 0) Fx hnm X (ap_at.trans rfl) rfl rfl (Nat.le_of_ble_eq_true rfl) dX5_init_50 (fun H locs X => ?_)
  have X : Wd E Γ A s₀ _ _ (w ++ [(o, .inr (6, [.int (iI (0)), .int (iI (0)), .int (iI ((-1))), .int (iI ((-1))), .int (iI ((-1))), .int (iI (0)), .int (iI (0)), .ref (q_1), .ref (q_2), .null])), (q_1, .inl (Γ.2 0, 2, .inl (fun _ => 0))), (q_2, .inl (Γ.2 0, 2, .inl (fun _ => 0)))]) := Wd.to X (ap_set.trans rfl)
  refine lv_aload_n Fx.1 Fx.2.1 dX5_init_53 rfl (lv_at hl 0 rfl) ?_
  refine k_iconst Fx dX5_init_54 ?_
  refine r_newa (t0 := 0) (N := 2) (z := 2) Fx X ac_int rfl rfl RA_int (fun _ => rfl) rfl (by decide) (by decide) (by decide) (by decide) dX5_init_55 (fun q_3 H X => ?_)
  have X : Wd E Γ A s₀ _ _ (w ++ [(o, .inr (6, [.int (iI (0)), .int (iI (0)), .int (iI ((-1))), .int (iI ((-1))), .int (iI ((-1))), .int (iI (0)), .int (iI (0)), .ref (q_1), .ref (q_2), .null])), (q_1, .inl (Γ.2 0, 2, .inl (fun _ => 0))), (q_2, .inl (Γ.2 0, 2, .inl (fun _ => 0))), (q_3, .inl (Γ.2 0, 2, .inl (fun _ => 0)))]) := Wd.to X (List.append_assoc _ _ _)
  refine pF_X5_41 (q0 := w.length + 0) Fx hnm X (ap_at.trans rfl) rfl rfl (Nat.le_of_ble_eq_true rfl) dX5_init_57 (fun H locs X => ?_)
  have X : Wd E Γ A s₀ _ _ (w ++ [(o, .inr (6, [.int (iI (0)), .int (iI (0)), .int (iI ((-1))), .int (iI ((-1))), .int (iI ((-1))), .int (iI (0)), .int (iI (0)), .ref (q_1), .ref (q_2), .ref (q_3)])), (q_1, .inl (Γ.2 0, 2, .inl (fun _ => 0))), (q_2, .inl (Γ.2 0, 2, .inl (fun _ => 0))), (q_3, .inl (Γ.2 0, 2, .inl (fun _ => 0)))]) := Wd.to X (ap_set.trans rfl)
  exact r_vret Fx hr hlk X (by decide) dX5_init_60 (⟨rfl, _, _, _, rfl⟩)

abbrev rm_X1_init : Room := ({ frames := 1, cells := 0, slots := 0, locals := 12 } : Room)
set_option maxHeartbeats 4000000 in
set_option maxRecDepth 100000 in
theorem c_X1_init {E : XX} (hE : XS E) (l : Launch) {Γ : GG} {w : va_W} {o : Nat} {t9 : Nat} : Con E l yX1_init cX1_init 2 none rm_X1_init Γ (w ++ [(o, .inr (2, [.int 0, .int 0, .int 0, .null, .int 0, .int 0, .int 0, .int 0]))]) [.ref (o), .ref (t9)] (fun v w2 => v = none ∧ w2 = (w ++ [(o, .inr (2, [.int (iI (0)), .int (iI ((-1))), .int (iI (0)), .ref (t9), .int (iI (0)), .int (iI (0)), .int (iI (0)), .int (iI ((-1)))]))])) := by
  refine Con_mk (by decide) (Nat.le_of_ble_eq_true rfl) ?_
  intro p e s₀ m args below meth c A Fx hr hlk hnm X ls hl
  have hl : lv_has ls 2 [(0, .ref (o)), (1, .ref (t9))] := hl
  refine lv_aload_n Fx.1 Fx.2.1 dX1_init_0 rfl (lv_at hl 0 rfl) ?_
  refine r_objInit Fx ml_oi_X1 hl.1 dX1_init_1 (by decide) (by decide) ?_
  refine lv_aload_n Fx.1 Fx.2.1 dX1_init_4 rfl (lv_at hl 0 rfl) ?_
  refine k_iconst Fx dX1_init_5 ?_
  refine pf_X1_9 (q0 := w.length + 0) Fx X (ap_at.trans rfl) rfl rfl (Nat.le_of_ble_eq_true rfl) dX1_init_6 (fun H locs X => ?_)
  have X : Wd E Γ A s₀ _ _ (w ++ [(o, .inr (2, [.int (iI (0)), .int 0, .int 0, .null, .int 0, .int 0, .int 0, .int 0]))]) := Wd.to X (ap_set.trans rfl)
  refine lv_aload_n Fx.1 Fx.2.1 dX1_init_9 rfl (lv_at hl 0 rfl) ?_
  refine k_iconst Fx dX1_init_10 ?_
  refine pf_X1_15 (q0 := w.length + 0) Fx X (ap_at.trans rfl) rfl rfl (Nat.le_of_ble_eq_true rfl) dX1_init_11 (fun H locs X => ?_)
  have X : Wd E Γ A s₀ _ _ (w ++ [(o, .inr (2, [.int (iI (0)), .int (iI ((-1))), .int 0, .null, .int 0, .int 0, .int 0, .int 0]))]) := Wd.to X (ap_set.trans rfl)
  refine lv_aload_n Fx.1 Fx.2.1 dX1_init_14 rfl (lv_at hl 0 rfl) ?_
  refine k_iconst Fx dX1_init_15 ?_
  refine pf_X1_18 (q0 := w.length + 0) Fx X (ap_at.trans rfl) rfl rfl (Nat.le_of_ble_eq_true rfl) dX1_init_16 (fun H locs X => ?_)
  have X : Wd E Γ A s₀ _ _ (w ++ [(o, .inr (2, [.int (iI (0)), .int (iI ((-1))), .int (iI (0)), .null, .int 0, .int 0, .int 0, .int 0]))]) := Wd.to X (ap_set.trans rfl)
  refine lv_aload_n Fx.1 Fx.2.1 dX1_init_19 rfl (lv_at hl 0 rfl) ?_
  refine k_iconst Fx dX1_init_20 ?_
  refine pf_X1_21 (q0 := w.length + 0) Fx X (ap_at.trans rfl) rfl rfl (Nat.le_of_ble_eq_true rfl) dX1_init_21 (fun H locs X => ?_)
  have X : Wd E Γ A s₀ _ _ (w ++ [(o, .inr (2, [.int (iI (0)), .int (iI ((-1))), .int (iI (0)), .null, .int (iI (0)), .int 0, .int 0, .int 0]))]) := Wd.to X (ap_set.trans rfl)
  refine lv_aload_n Fx.1 Fx.2.1 dX1_init_24 rfl (lv_at hl 0 rfl) ?_
  refine k_iconst Fx dX1_init_25 ?_
  refine pf_X1_24 (q0 := w.length + 0) Fx X (ap_at.trans rfl) rfl rfl (Nat.le_of_ble_eq_true rfl) dX1_init_26 (fun H locs X => ?_)
  have X : Wd E Γ A s₀ _ _ (w ++ [(o, .inr (2, [.int (iI (0)), .int (iI ((-1))), .int (iI (0)), .null, .int (iI (0)), .int (iI (0)), .int 0, .int 0]))]) := Wd.to X (ap_set.trans rfl)
  refine lv_aload_n Fx.1 Fx.2.1 dX1_init_29 rfl (lv_at hl 0 rfl) ?_
  refine k_iconst Fx dX1_init_30 ?_
  refine pf_X1_27 (q0 := w.length + 0) Fx X (ap_at.trans rfl) rfl rfl (Nat.le_of_ble_eq_true rfl) dX1_init_31 (fun H locs X => ?_)
  have X : Wd E Γ A s₀ _ _ (w ++ [(o, .inr (2, [.int (iI (0)), .int (iI ((-1))), .int (iI (0)), .null, .int (iI (0)), .int (iI (0)), .int (iI (0)), .int 0]))]) := Wd.to X (ap_set.trans rfl)
  refine lv_aload_n Fx.1 Fx.2.1 dX1_init_34 rfl (lv_at hl 0 rfl) ?_
  refine k_iconst Fx dX1_init_35 ?_
  refine pf_X1_30 (q0 := w.length + 0) Fx X (ap_at.trans rfl) rfl rfl (Nat.le_of_ble_eq_true rfl) dX1_init_36 (fun H locs X => ?_)
  have X : Wd E Γ A s₀ _ _ (w ++ [(o, .inr (2, [.int (iI (0)), .int (iI ((-1))), .int (iI (0)), .null, .int (iI (0)), .int (iI (0)), .int (iI (0)), .int (iI ((-1)))]))]) := Wd.to X (ap_set.trans rfl)
  refine lv_aload_n Fx.1 Fx.2.1 dX1_init_39 rfl (lv_at hl 0 rfl) ?_
  refine lv_aload_n Fx.1 Fx.2.1 dX1_init_40 rfl (lv_at hl 1 rfl) ?_
  refine pF_X1_33 (q0 := w.length + 0) Fx hnm X (ap_at.trans rfl) rfl rfl (Nat.le_of_ble_eq_true rfl) dX1_init_41 (fun H locs X => ?_)
  have X : Wd E Γ A s₀ _ _ (w ++ [(o, .inr (2, [.int (iI (0)), .int (iI ((-1))), .int (iI (0)), .ref (t9), .int (iI (0)), .int (iI (0)), .int (iI (0)), .int (iI ((-1)))]))]) := Wd.to X (ap_set.trans rfl)
  exact r_vret Fx hr hlk X (by decide) dX1_init_44 (⟨rfl, rfl⟩)

abbrev rm_X0_init : Room := ({ frames := 2, cells := 2, slots := 12, locals := 44 } : Room)
set_option maxHeartbeats 4000000 in
set_option maxRecDepth 100000 in
theorem c_X0_init {E : XX} (hE : XS E) (l : Launch) {Γ : GG} {w : va_W} {o : Nat} : Con E l yX0_init cX0_init 1 none rm_X0_init Γ (w ++ [(o, .inr (1, [.null, .null, .int 0, .int 0, .int 0]))]) [.ref (o)] (fun v w2 => v = none ∧ ∃ r0 r1 F1 G1, w2 = w ++ [(o, .inr (1, [.ref r0, .ref r1, .int (iI 0), .int (iI 12), .int (iI 1)])), (r0, .inl (Γ.2 0, 6, .inl (F1))), (r1, .inl (Γ.2 2, 6, .inl (G1)))] ∧ (∀ k, k < 6 → F1 k = iI 1) ∧ (∀ k, k < 6 → G1 k = bI False)) := by
  refine Con_mk (by decide) (Nat.le_of_ble_eq_true rfl) ?_
  intro p e s₀ m args below meth c A Fx hr hlk hnm X ls hl
  have hl : lv_has ls 1 [(0, .ref (o))] := hl
  refine lv_aload_n Fx.1 Fx.2.1 dX0_init_0 rfl (lv_at hl 0 rfl) ?_
  refine r_objInit Fx ml_oi_X0 hl.1 dX0_init_1 (by decide) (by decide) ?_
  refine lv_aload_n Fx.1 Fx.2.1 dX0_init_4 rfl (lv_at hl 0 rfl) ?_
  refine k_bipush Fx dX0_init_5 (by decide) ?_
  refine r_newa (t0 := 0) (N := 6) (z := 6) Fx X ac_int rfl rfl RA_int (fun _ => rfl) rfl (by decide) (by decide) (by decide) (by decide) dX0_init_7 (fun q_1 H X => ?_)
  have X : Wd E Γ A s₀ _ _ (w ++ [(o, .inr (1, [.null, .null, .int 0, .int 0, .int 0])), (q_1, .inl (Γ.2 0, 6, .inl (fun _ => 0)))]) := Wd.to X (List.append_assoc _ _ _)
  refine pF_X0_9 (q0 := w.length + 0) Fx hnm X (ap_at.trans rfl) rfl rfl (Nat.le_of_ble_eq_true rfl) dX0_init_9 (fun H locs X => ?_)
  have X : Wd E Γ A s₀ _ _ (w ++ [(o, .inr (1, [.ref (q_1), .null, .int 0, .int 0, .int 0])), (q_1, .inl (Γ.2 0, 6, .inl (fun _ => 0)))]) := Wd.to X (ap_set.trans rfl)
  refine lv_aload_n Fx.1 Fx.2.1 dX0_init_12 rfl (lv_at hl 0 rfl) ?_
  refine k_bipush Fx dX0_init_13 (by decide) ?_
  refine r_newa (t0 := 2) (N := 6) (z := 6) Fx X ac_bool rfl rfl RA_bool (fun _ => rfl) rfl (by decide) (by decide) (by decide) (by decide) dX0_init_15 (fun q_2 H X => ?_)
  have X : Wd E Γ A s₀ _ _ (w ++ [(o, .inr (1, [.ref (q_1), .null, .int 0, .int 0, .int 0])), (q_1, .inl (Γ.2 0, 6, .inl (fun _ => 0))), (q_2, .inl (Γ.2 2, 6, .inl (fun _ => 0)))]) := Wd.to X (List.append_assoc _ _ _)
  refine pF_X0_15 (q0 := w.length + 0) Fx hnm X (ap_at.trans rfl) rfl rfl (Nat.le_of_ble_eq_true rfl) dX0_init_17 (fun H locs X => ?_)
  have X : Wd E Γ A s₀ _ _ (w ++ [(o, .inr (1, [.ref (q_1), .ref (q_2), .int 0, .int 0, .int 0])), (q_1, .inl (Γ.2 0, 6, .inl (fun _ => 0))), (q_2, .inl (Γ.2 2, 6, .inl (fun _ => 0)))]) := Wd.to X (ap_set.trans rfl)
  refine lv_aload_n Fx.1 Fx.2.1 dX0_init_20 rfl (lv_at hl 0 rfl) ?_
  have hd : dL (w ++ [(o, .inr (1, [.ref q_1, .ref q_2, .int (0), .int (0), .int (0)])), (q_1, .inl (Γ.2 0, 6, .inl (fun _ => 0))), (q_2, .inl (Γ.2 2, 6, .inl (fun _ => 0)))]) (w.length + 0) (w.length + 1) (w.length + 2) := ⟨by omega, by rw [List.length_append]; show _ < _ + 3; omega, by rw [List.length_append]; show _ < _ + 3; omega, by rw [List.length_append]; show _ < _ + 3; omega⟩
  have X := Wd.to X (show _ = wL Γ (w ++ [(o, .inr (1, [.ref q_1, .ref q_2, .int (0), .int (0), .int (0)])), (q_1, .inl (Γ.2 0, 6, .inl (fun _ => 0))), (q_2, .inl (Γ.2 2, 6, .inl (fun _ => 0)))]) (w.length + 0) (w.length + 1) (w.length + 2) o q_1 q_2 (fun _ => 0) (fun _ => 0) 0 0 0 by unfold wL; rw [ap_set, ap_set, ap_set]; rfl)
  refine r_callV (As := []) (rest := []) hE Fx X (c_X0_reset hE l hd) cV_X0_19 (va_recv X.1 X.2.1 (ci := 1) (q0 := w.length + 0) rfl (wL_0 hd)) rfl rfl (Nat.le_of_ble_eq_true rfl) (by decide) hl.1 dX0_init_21 (fun v9 w9 H locs hq X => ?_)
  obtain ⟨rfl, F1, G1, rfl, hF1, hG1⟩ := hq
  have X : Wd E Γ A s₀ H locs (w ++ [(o, .inr (1, [.ref q_1, .ref q_2, .int (iI 0), .int (iI 12), .int (iI 1)])), (q_1, .inl (Γ.2 0, 6, .inl (F1))), (q_2, .inl (Γ.2 2, 6, .inl (G1)))]) := Wd.to X (by unfold wL; rw [ap_set, ap_set, ap_set]; rfl)
  exact r_vret Fx hr hlk X (by decide) dX0_init_24 (⟨rfl, _, _, F1, G1, rfl, hF1, hG1⟩)

abbrev rm_Jxa1e45_init_da8c8 : Room := ({ frames := 1, cells := 0, slots := 0, locals := 12 } : Room)
set_option maxHeartbeats 4000000 in
set_option maxRecDepth 100000 in
theorem c_Jxa1e45_init_da8c8 {E : XX} (hE : XS E) (l : Launch) {Γ : GG} {w : va_W} {o : Nat} : Con E l yJxa1e45_init_da8c8 cJxa1e45_init_da8c8 1 none rm_Jxa1e45_init_da8c8 Γ (w ++ [(o, .inr (0, [.int 0, .null, .int 0]))]) [.ref (o)] (fun v w2 => v = none ∧ w2 = w ++ [(o, .inr (0, [.int 0, .null, .int 0]))]) := by
  refine Con_mk (by decide) (Nat.le_of_ble_eq_true rfl) ?_
  intro p e s₀ m args below meth c A Fx hr hlk hnm X ls hl
  have hl : lv_has ls 1 [(0, .ref (o))] := hl
  refine lv_aload_n Fx.1 Fx.2.1 dJxa1e45_init_da8c8_0 rfl (lv_at hl 0 rfl) ?_
  refine r_objInit Fx ml_oi_Jxa1e45 hl.1 dJxa1e45_init_da8c8_1 (by decide) (by decide) ?_
  exact r_vret Fx hr hlk X (by decide) dJxa1e45_init_da8c8_4 (⟨rfl, rfl⟩)

abbrev rm_Jxc12de_init_da8c8 : Room := ({ frames := 2, cells := 0, slots := 0, locals := 32 } : Room)
set_option maxHeartbeats 4000000 in
set_option maxRecDepth 100000 in
theorem c_Jxc12de_init_da8c8 {E : XX} (hE : XS E) (l : Launch) {Γ : GG} {w : va_W} {o : Nat} : Con E l yJxc12de_init_da8c8 cJxc12de_init_da8c8 1 none rm_Jxc12de_init_da8c8 Γ (w ++ [(o, .inr (0, [.int 0, .null, .int 0]))]) [.ref (o)] (fun v w2 => v = none ∧ w2 = w ++ [(o, .inr (0, [.int (iI 0), .null, .int 0]))]) := by
  refine Con_mk (by decide) (Nat.le_of_ble_eq_true rfl) ?_
  intro p e s₀ m args below meth c A Fx hr hlk hnm X ls hl
  have hl : lv_has ls 1 [(0, .ref (o))] := hl
  refine lv_aload_n Fx.1 Fx.2.1 dJxc12de_init_da8c8_0 rfl (lv_at hl 0 rfl) ?_
  refine r_callI (As := []) (rest := []) hE Fx X (c_Jxa1e45_init_da8c8 hE l) cI_Jxc12de_1 rfl rfl (Nat.le_of_ble_eq_true rfl) (by decide) hl.1 dJxc12de_init_da8c8_1 (fun v9 w9 H locs hq X => ?_)
  obtain ⟨rfl, hw9⟩ := hq
  have X := Wd.to X hw9
  refine lv_aload_n Fx.1 Fx.2.1 dJxc12de_init_da8c8_4 rfl (lv_at hl 0 rfl) ?_
  refine k_iconst Fx dJxc12de_init_da8c8_5 ?_
  refine pf_Jxc12de_7 (q0 := w.length + 0) Fx X (ap_at.trans rfl) rfl rfl (Nat.le_of_ble_eq_true rfl) dJxc12de_init_da8c8_6 (fun H locs X => ?_)
  have X : Wd E Γ A s₀ _ _ (w ++ [(o, .inr (0, [.int (iI (0)), .null, .int 0]))]) := Wd.to X (ap_set.trans rfl)
  exact r_vret Fx hr hlk X (by decide) dJxc12de_init_da8c8_9 (⟨rfl, rfl⟩)

abbrev rm_Jx4a65c_init_da8c8 : Room := ({ frames := 3, cells := 0, slots := 0, locals := 52 } : Room)
set_option maxHeartbeats 4000000 in
set_option maxRecDepth 100000 in
theorem c_Jx4a65c_init_da8c8 {E : XX} (hE : XS E) (l : Launch) {Γ : GG} {κ : KK} (hN : EN E κ) {w : va_W} {o : Nat} : Con E l yJx4a65c_init_da8c8 cJx4a65c_init_da8c8 1 none rm_Jx4a65c_init_da8c8 Γ (w ++ [(o, .inr (0, [.int 0, .null, .int 0]))]) [.ref (o)] (fun v w2 => v = none ∧ w2 = w ++ [(o, .inr (0, [.int (iI 0), .ref κ.2.2.1, .int 0]))]) := by
  refine Con_mk (by decide) (Nat.le_of_ble_eq_true rfl) ?_
  intro p e s₀ m args below meth c A Fx hr hlk hnm X ls hl
  have hl : lv_has ls 1 [(0, .ref (o))] := hl
  refine lv_aload_n Fx.1 Fx.2.1 dJx4a65c_init_da8c8_0 rfl (lv_at hl 0 rfl) ?_
  refine r_callI (As := []) (rest := []) hE Fx X (c_Jxc12de_init_da8c8 hE l) cI_Jx4a65c_1 rfl rfl (Nat.le_of_ble_eq_true rfl) (by decide) hl.1 dJx4a65c_init_da8c8_1 (fun v9 w9 H locs hq X => ?_)
  obtain ⟨rfl, hw9⟩ := hq
  have X : Wd E Γ A s₀ H locs (w ++ [(o, .inr (0, [.int (iI 0), .null, .int 0]))]) := Wd.to X hw9
  refine lv_aload_n Fx.1 Fx.2.1 dJx4a65c_init_da8c8_4 rfl (lv_at hl 0 rfl) ?_
  refine va_gets Fx.1 Fx.2.1 (X.ef hN).2.2.2.1.1 X.2.2.2.1 Fx.2.2.2.1 (Fx.2.2.2.2 _ kf_39) (fun _ h => h) dJx4a65c_init_da8c8_5 ?_
  refine pf_Jx4a65c_9 (q0 := w.length + 0) Fx X (ap_at.trans rfl) rfl rfl (Nat.le_of_ble_eq_true rfl) dJx4a65c_init_da8c8_8 (fun H locs X => ?_)
  have X : Wd E Γ A s₀ _ _ (w ++ [(o, .inr (0, [.int (iI 0), .ref (κ.2.2.1), .int 0]))]) := Wd.to X (ap_set.trans rfl)
  exact r_vret Fx hr hlk X (by decide) dJx4a65c_init_da8c8_11 (⟨rfl, rfl⟩)

