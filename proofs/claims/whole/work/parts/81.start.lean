/-! the start: what the tables and the premises give -/
abbrev FLT : List Cond := flatC (Jvm.Cond.and given_1 narrow_1)
theorem st_ex : ∀ i, i < 12 → Cond.exactly (.string RX1 (kwI.getD i 0)) "java/lang/String" ∈ FLT := by decide +kernel
theorem st_co : ∀ i, i < 12 → Cond.eq (.field (.string RX1 (kwI.getD i 0)) "java/lang/String" "coder" "B") (.int 0) ∈ FLT := by decide +kernel
theorem st_ar : ∀ i, i < 12 → Cond.arrayOf (.field (.string RX1 (kwI.getD i 0)) "java/lang/String" "value" "[B") .byte ∈ FLT := by decide +kernel
theorem st_le : ∀ i, i < 12 → Cond.eq (.length (.field (.string RX1 (kwI.getD i 0)) "java/lang/String" "value" "[B")) (.int (Int32.ofNat (kwL.getD i 0))) ∈ FLT := by decide +kernel
theorem st_el : ∀ i, i < 12 → ∀ j, j < kwL.getD i 0 → Cond.eq (.elem (.field (.string RX1 (kwI.getD i 0)) "java/lang/String" "value" "[B") (.int (Int32.ofNat j))) (.int ((kwB.getD i []).getD j 0)) ∈ FLT := by decide +kernel
theorem st_ne : ∀ i, i < 12 → ∀ j, j < 12 → i ≠ j → Cond.not (Cond.eq (.string RX1 (kwI.getD i 0)) (.string RX1 (kwI.getD j 0))) ∈ FLT ∨ Cond.not (Cond.eq (.string RX1 (kwI.getD j 0)) (.string RX1 (kwI.getD i 0))) ∈ FLT := by decide +kernel
theorem st_sr : ∀ i, i < 12 → Cond.stringRef RX1 (kwI.getD i 0) (kwT.getD i "") ∈ tables_1 := by decide +kernel
theorem st_kl : ∀ i, i < 12 → kwL.getD i 0 < 2 ^ 31 := by decide +kernel
theorem st_fn : Cond.methodLinkNest RX9 18 yX7_init RX9 ∈ tables_1 ∧ Cond.methodLinkNest RX9 34 yX3_init RX9 ∈ tables_1 ∧ Cond.methodLinkNest RX9 41 yX2_init RX9 ∈ tables_1 ∧ Cond.methodLinkNest RX9 48 yX4_init RX9 ∈ tables_1 ∧ Cond.methodLinkNest RX9 64 yX5_init RX9 ∈ tables_1 ∧ Cond.methodLinkNest RX3 91 yX9_missOf RX9 ∈ tables_1 ∧ Cond.methodLinkNest RX5 44 yX9_below RX9 ∈ tables_1 := by decide +kernel
theorem st_fo : Cond.arrayOver (.object "java/lang/Object") ∈ tables_1 ∧ Cond.arrayOver (.array .int) ∈ tables_1 ∧ Cond.castable "HedgeCourt$Saying" "java/lang/Object" ∈ tables_1 := by decide +kernel
theorem st_st : (Cond.laysStatic "java/util/ArrayList" "DEFAULTCAPACITY_EMPTY_ELEMENTDATA" "[Ljava/lang/Object;" ∈ tables_1 ∧ Cond.initialized "java/util/ArrayList" ∈ tables_1) ∧ (Cond.laysStatic "java/lang/String" "COMPACT_STRINGS" "Z" ∈ tables_1 ∧ Cond.initialized "java/lang/String" ∈ tables_1) ∧ (Cond.laysStatic "jdk/internal/util/Preconditions" "SIOOBE_FORMATTER" "Ljava/util/function/BiFunction;" ∈ tables_1 ∧ Cond.initialized "jdk/internal/util/Preconditions" ∈ tables_1) ∧ Cond.declares ⟨"java/lang/Object", "getClass", "()Ljava/lang/Class;"⟩ ∈ tables_1 := by decide +kernel
theorem st_gv : Cond.arrayOf (.static "java/util/ArrayList" "DEFAULTCAPACITY_EMPTY_ELEMENTDATA" "[Ljava/lang/Object;") (.object "java/lang/Object") ∈ FLT ∧ Cond.eq (.length (.static "java/util/ArrayList" "DEFAULTCAPACITY_EMPTY_ELEMENTDATA" "[Ljava/lang/Object;")) (.int (Int32.ofNat 0)) ∈ FLT ∧ Cond.eq (.static "java/lang/String" "COMPACT_STRINGS" "Z") (.int 1) ∈ FLT ∧ Cond.isRef (.static "jdk/internal/util/Preconditions" "SIOOBE_FORMATTER" "Ljava/util/function/BiFunction;") ∈ FLT ∧ Cond.isRef (.mirror "[Ljava/lang/Object;") ∈ FLT := by decide +kernel
theorem ef_start {s : State} {b : Nat} {A : Nat → Prop} (hts : ∀ w ∈ lw_tbl, w.before #[Value.ref b] s = true) (hgv : (Jvm.Cond.and given_1 narrow_1).before #[Value.ref b] s = true) (hA : ∀ a : Nat, a < s.heap.size → ¬ A a) : ∃ κ : KK, EF κ A s s.heap := by
  have hG : ∀ w ∈ FLT, w.before #[Value.ref b] s = true := flat_of_before _ hgv
  have hT : ∀ w ∈ tables_1, w.before #[Value.ref b] s = true := fun w hw => hts w (List.mem_append_right _ hw)
  obtain ⟨adK, adV, hS, hE⟩ := vk_Sof (args := #[Value.ref b]) (s := s) (N := 12) (tm := fun i => .string RX1 (kwI.getD i 0)) (len := kwL) (byt := kwB) (A := A) st_kl (fun i hi => hG _ (st_ex i hi)) (fun i hi => hG _ (st_co i hi)) (fun i hi => hG _ (st_ar i hi)) (fun i hi => hG _ (st_le i hi)) (fun i hi j hj => hG _ (st_el i hi j hj)) (fun i j hi hj hij => (st_ne i hi j hj hij).imp (hG _) (hG _)) hA
  obtain ⟨t, ht, hT0⟩ := va_Tof (args := #[Value.ref b]) (s := s) (ty := .object "java/lang/Object") (N := 0) (f := fun _ => .null) (A := A) (by decide) (hG _ st_gv.1) (va_eqt (hG _ st_gv.2.1)) (fun j hj => absurd hj (Nat.not_lt_zero j)) hA
  obtain ⟨mi, hmi⟩ := va_Mi.of (hG _ st_gv.2.2.2.2)
  refine ⟨(adK, adV, t, mi), ?_, ?_, ⟨hS, fun i hi => vk_R.of (hT _ (st_sr i hi)) (hE i hi)⟩, ⟨va_Zof (hT _ st_st.1.1) (hT _ st_st.1.2) ht hA, hT0⟩, ⟨va_Zof (hT _ st_st.2.1.1) (hT _ st_st.2.1.2) (va_eqt (hG _ st_gv.2.2.1)) hA, va_Zqof (hT _ st_st.2.2.1.1) (hT _ st_st.2.2.1.2) (hG _ st_gv.2.2.2.1) hA⟩, hmi, va_Dc.of (hT _ st_st.2.2.2)⟩
  · exact ⟨va_Nw.of rfl (hT _ st_fn.1), va_Nw.of rfl (hT _ st_fn.2.1), va_Nw.of rfl (hT _ st_fn.2.2.1), va_Nw.of rfl (hT _ st_fn.2.2.2.1), va_Nw.of rfl (hT _ st_fn.2.2.2.2.1), va_Nw.of rfl (hT _ st_fn.2.2.2.2.2.1), va_Nw.of rfl (hT _ st_fn.2.2.2.2.2.2)⟩
  · exact ⟨va_AO.of (hT _ st_fo.1), hT _ st_fo.2.1, va_Nw.of rfl (hT _ st_fo.2.2)⟩

theorem st_in : Cond.instantiable RJx4a65c 3 ∈ tables_1 ∧ Cond.instantiable RX0 5 ∈ tables_1 ∧ Cond.instantiable RX1 8 ∈ tables_1 ∧ Cond.instantiable RX2 8 ∈ tables_1 ∧ Cond.instantiable RX3 3 ∈ tables_1 ∧ Cond.instantiable RX4 3 ∈ tables_1 ∧ Cond.instantiable RX5 10 ∈ tables_1 ∧ Cond.instantiable RX6 7 ∈ tables_1 ∧ Cond.instantiable RX7 2 ∈ tables_1 ∧ Cond.instantiable RX8 7 ∈ tables_1 ∧ Cond.instantiable RX9 11 ∈ tables_1 ∧ Cond.instantiable RX10 50 ∈ tables_1 := by decide +kernel
theorem gt_of {s : State} {b : Nat} {ty : FieldType} (h : (Cond.arrayClass ty).before #[Value.ref b] s = true) : ∃ c : ClassId, ArrOfT s c ty ∧ s.vm.findClass ("[" ++ ty.toString) = some c := by
  obtain ⟨c, k, comp, h1, h2, h3⟩ := Cond.arrayClass_spec h
  exact ⟨c, fun N z => ⟨(fun k h => by cases h), k, h2, comp, h3⟩, h1⟩
set_option maxHeartbeats 4000000 in
theorem kn_start {s : State} {b : Nat} (hts : ∀ w ∈ lw_tbl, w.before #[Value.ref b] s = true) : ∃ Γ : GG, va_K Γ.1 vwCl (gT Γ) s := by
  have hT : ∀ w ∈ tables_1, w.before #[Value.ref b] s = true := fun w hw => hts w (List.mem_append_right _ hw)
  obtain ⟨c0, i0, k0⟩ := u_known (C := RJx4a65c) (T := TJx4a65c) (N := 3) (n := 3) hts (fun w h => BG_in w (inlJx4a65c w h)) (hT _ st_in.1)
  obtain ⟨c1, i1, k1⟩ := u_known (C := RX0) (T := TX0) (N := 5) (n := 5) hts (fun w h => BG_in w (inlX0 w h)) (hT _ st_in.2.1)
  obtain ⟨c2, i2, k2⟩ := u_known (C := RX1) (T := TX1) (N := 8) (n := 8) hts (fun w h => BG_in w (inlX1 w h)) (hT _ st_in.2.2.1)
  obtain ⟨c3, i3, k3⟩ := u_known (C := RX2) (T := TX2) (N := 8) (n := 8) hts (fun w h => BG_in w (inlX2 w h)) (hT _ st_in.2.2.2.1)
  obtain ⟨c4, i4, k4⟩ := u_known (C := RX3) (T := TX3) (N := 3) (n := 3) hts (fun w h => BG_in w (inlX3 w h)) (hT _ st_in.2.2.2.2.1)
  obtain ⟨c5, i5, k5⟩ := u_known (C := RX4) (T := TX4) (N := 3) (n := 3) hts (fun w h => BG_in w (inlX4 w h)) (hT _ st_in.2.2.2.2.2.1)
  obtain ⟨c6, i6, k6⟩ := u_known (C := RX5) (T := TX5) (N := 10) (n := 10) hts (fun w h => BG_in w (inlX5 w h)) (hT _ st_in.2.2.2.2.2.2.1)
  obtain ⟨c7, i7, k7⟩ := u_known (C := RX6) (T := TX6) (N := 7) (n := 7) hts (fun w h => BG_in w (inlX6 w h)) (hT _ st_in.2.2.2.2.2.2.2.1)
  obtain ⟨c8, i8, k8⟩ := u_known (C := RX7) (T := TX7) (N := 2) (n := 2) hts (fun w h => BG_in w (inlX7 w h)) (hT _ st_in.2.2.2.2.2.2.2.2.1)
  obtain ⟨c9, i9, k9⟩ := u_known (C := RX8) (T := TX8) (N := 7) (n := 7) hts (fun w h => BG_in w (inlX8 w h)) (hT _ st_in.2.2.2.2.2.2.2.2.2.1)
  obtain ⟨c10, i10, k10⟩ := u_known (C := RX9) (T := TX9) (N := 11) (n := 11) hts (fun w h => BG_in w (inlX9 w h)) (hT _ st_in.2.2.2.2.2.2.2.2.2.2.1)
  obtain ⟨c11, i11, k11⟩ := u_known (C := RX10) (T := TX10) (N := 50) (n := 50) hts (fun w h => BG_in w (inlX10 w h)) (hT _ st_in.2.2.2.2.2.2.2.2.2.2.2)
  obtain ⟨a0, p0, q0⟩ := gt_of (hts _ (BG_in _ ac_int))
  obtain ⟨a1, p1, q1⟩ := gt_of (hts _ (BG_in _ ac_byte))
  obtain ⟨a2, p2, q2⟩ := gt_of (hts _ (BG_in _ ac_bool))
  obtain ⟨o3, a3, d3, r1, -, r2, r3, r4⟩ := Cond.arrayOver_spec (hT _ st_fo.1)
  obtain ⟨o4, a4, d4, u1, -, u2, u3, u4⟩ := arrayOverA_spec (hT _ st_fo.2.1)
  refine ⟨((fun k => [c0, c1, c2, c3, c4, c5, c6, c7, c8, c9, c10, c11].getD k c0, fun k => [i0, i1, i2, i3, i4, i5, i6, i7, i8, i9, i10, i11].getD k i0), fun k => [a0, a1, a2, a3, a4].getD k a0), ?_, ?_⟩
  · intro k q hq
    match k, hq with
    | 0, hq => cases hq; exact k0
    | 1, hq => cases hq; exact k1
    | 2, hq => cases hq; exact k2
    | 3, hq => cases hq; exact k3
    | 4, hq => cases hq; exact k4
    | 5, hq => cases hq; exact k5
    | 6, hq => cases hq; exact k6
    | 7, hq => cases hq; exact k7
    | 8, hq => cases hq; exact k8
    | 9, hq => cases hq; exact k9
    | 10, hq => cases hq; exact k10
    | 11, hq => cases hq; exact k11
    | k + 12, hq => exact absurd (List.getElem?_eq_some_iff.mp hq).1 (by show ¬ k + 12 < 12; omega)
  · intro k q hq
    match k, hq with
    | 0, hq => cases hq; exact ⟨p0, q0⟩
    | 1, hq => cases hq; exact ⟨p1, q1⟩
    | 2, hq => cases hq; exact ⟨p2, q2⟩
    | 3, hq => cases hq; exact ⟨fun N z => ⟨(fun k h => by cases h), d3, r2, o3, r3⟩, d3, o3, r2, r3, r1, r4⟩
    | 4, hq => cases hq; exact ⟨fun N z => ⟨(fun k h => by cases h), d4, u2, o4, u3⟩, u4⟩
    | k + 5, hq => exact absurd (List.getElem?_eq_some_iff.mp hq).1 (by show ¬ k + 5 < 5; omega)
