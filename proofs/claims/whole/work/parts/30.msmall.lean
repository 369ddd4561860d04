abbrev rm_X10_isIn : Room := ({ frames := 0, cells := 0, slots := 0, locals := 0 } : Room)
set_option maxHeartbeats 4000000 in
set_option maxRecDepth 100000 in
theorem c_X10_isIn {E : XX} (hE : XS E) (l : Launch) {Γ : GG} {w : va_W} {v a b : Int} (hv : -2147483648 ≤ v ∧ v < 2147483648) (ha : -2147483648 ≤ a ∧ a < 2147483648) (hb : -2147483648 ≤ b ∧ b < 2147483648) : Con E l yX10_isIn cX10_isIn 3 (some .boolean) rm_X10_isIn Γ w [.int (iI (v)), .int (iI (a)), .int (iI (b))] (Qi (bI (a ≤ v ∧ v ≤ b)) w) := by
  refine Con_mk (by decide) (Nat.le_of_ble_eq_true rfl) ?_
  intro p e s₀ m args below meth c A Fx hr hlk hnm X ls hl
  have hl : lv_has ls 3 [(0, .int (iI (v))), (1, .int (iI (a))), (2, .int (iI (b)))] := hl
  refine lv_iload_n Fx.1 Fx.2.1 dX10_isIn_0 rfl (lv_at hl 0 rfl) ?_
  refine lv_iload_n Fx.1 Fx.2.1 dX10_isIn_1 rfl (lv_at hl 1 rfl) ?_
  refine k_icmp_lt (a := v) (b := a) (tgt := 14) Fx dX10_isIn_2 (by decide) (by omega) (by omega) (fun c_2 => ?_) (fun c_2 => ?_)
  · refine k_iconst Fx dX10_isIn_14 ?_
    exact r_zret Fx hr hlk X (by decide) dX10_isIn_15 rfl (Qi_mk (bI_0 (by omega)))
  · refine lv_iload_n Fx.1 Fx.2.1 dX10_isIn_5 rfl (lv_at hl 0 rfl) ?_
    refine lv_iload_n Fx.1 Fx.2.1 dX10_isIn_6 rfl (lv_at hl 2 rfl) ?_
    refine k_icmp_gt (a := v) (b := b) (tgt := 14) Fx dX10_isIn_7 (by decide) (by omega) (by omega) (fun c_7 => ?_) (fun c_7 => ?_)
    · refine k_iconst Fx dX10_isIn_14 ?_
      exact r_zret Fx hr hlk X (by decide) dX10_isIn_15 rfl (Qi_mk (bI_0 (by omega)))
    · refine k_iconst Fx dX10_isIn_10 ?_
      refine lv_goto (tgt := 15) Fx.1 Fx.2.1 dX10_isIn_11 (by decide) ?_
      exact r_zret Fx hr hlk X (by decide) dX10_isIn_15 rfl (Qi_mk (bI_1 (by omega)))

abbrev rm_X10_isStation : Room := ({ frames := 1, cells := 0, slots := 0, locals := 22 } : Room)
set_option maxHeartbeats 4000000 in
set_option maxRecDepth 100000 in
theorem c_X10_isStation {E : XX} (hE : XS E) (l : Launch) {Γ : GG} {w : va_W} {v : Int} (hv : -2147483648 ≤ v ∧ v < 2147483648) : Con E l yX10_isStation cX10_isStation 1 (some .boolean) rm_X10_isStation Γ w [.int (iI (v))] (Qi (bI (0 ≤ v ∧ v ≤ 9)) w) := by
  refine Con_mk (by decide) (Nat.le_of_ble_eq_true rfl) ?_
  intro p e s₀ m args below meth c A Fx hr hlk hnm X ls hl
  have hl : lv_has ls 1 [(0, .int (iI (v)))] := hl
  refine lv_iload_n Fx.1 Fx.2.1 dX10_isStation_0 rfl (lv_at hl 0 rfl) ?_
  refine k_iconst Fx dX10_isStation_1 ?_
  refine k_bipush Fx dX10_isStation_2 (by decide) ?_
  refine r_callSi (As := [.int (iI (v)), .int (iI (0)), .int (iI (9))]) (rest := []) hE Fx X (c_X10_isIn hE l (v := v) (a := 0) (b := 9) (by omega) (by omega) (by omega)) cS_X10_90 rfl rfl (Nat.le_of_ble_eq_true rfl) (by decide) hl.1 dX10_isStation_4 (fun H locs X => ?_)
  exact r_zret Fx hr hlk X (by decide) dX10_isStation_7 (bI_nar _) (Qi_mk (bI_c (by omega)))

abbrev rm_X10_isFoot : Room := ({ frames := 1, cells := 0, slots := 0, locals := 22 } : Room)
set_option maxHeartbeats 4000000 in
set_option maxRecDepth 100000 in
theorem c_X10_isFoot {E : XX} (hE : XS E) (l : Launch) {Γ : GG} {w : va_W} {v : Int} (hv : -2147483648 ≤ v ∧ v < 2147483648) : Con E l yX10_isFoot cX10_isFoot 1 (some .boolean) rm_X10_isFoot Γ w [.int (iI (v))] (Qi (bI (0 ≤ v ∧ v ≤ 79)) w) := by
  refine Con_mk (by decide) (Nat.le_of_ble_eq_true rfl) ?_
  intro p e s₀ m args below meth c A Fx hr hlk hnm X ls hl
  have hl : lv_has ls 1 [(0, .int (iI (v)))] := hl
  refine lv_iload_n Fx.1 Fx.2.1 dX10_isFoot_0 rfl (lv_at hl 0 rfl) ?_
  refine k_iconst Fx dX10_isFoot_1 ?_
  refine k_bipush Fx dX10_isFoot_2 (by decide) ?_
  refine r_callSi (As := [.int (iI (v)), .int (iI (0)), .int (iI (79))]) (rest := []) hE Fx X (c_X10_isIn hE l (v := v) (a := 0) (b := 79) (by omega) (by omega) (by omega)) cS_X10_90 rfl rfl (Nat.le_of_ble_eq_true rfl) (by decide) hl.1 dX10_isFoot_4 (fun H locs X => ?_)
  exact r_zret Fx hr hlk X (by decide) dX10_isFoot_7 (bI_nar _) (Qi_mk (bI_c (by omega)))

abbrev rm_X10_isYear : Room := ({ frames := 1, cells := 0, slots := 0, locals := 22 } : Room)
set_option maxHeartbeats 4000000 in
set_option maxRecDepth 100000 in
theorem c_X10_isYear {E : XX} (hE : XS E) (l : Launch) {Γ : GG} {w : va_W} {v : Int} (hv : -2147483648 ≤ v ∧ v < 2147483648) : Con E l yX10_isYear cX10_isYear 1 (some .boolean) rm_X10_isYear Γ w [.int (iI (v))] (Qi (bI (0 ≤ v ∧ v ≤ 999)) w) := by
  refine Con_mk (by decide) (Nat.le_of_ble_eq_true rfl) ?_
  intro p e s₀ m args below meth c A Fx hr hlk hnm X ls hl
  have hl : lv_has ls 1 [(0, .int (iI (v)))] := hl
  refine lv_iload_n Fx.1 Fx.2.1 dX10_isYear_0 rfl (lv_at hl 0 rfl) ?_
  refine k_iconst Fx dX10_isYear_1 ?_
  refine k_sipush Fx dX10_isYear_2 (by decide) ?_
  refine r_callSi (As := [.int (iI (v)), .int (iI (0)), .int (iI (999))]) (rest := []) hE Fx X (c_X10_isIn hE l (v := v) (a := 0) (b := 999) (by omega) (by omega) (by omega)) cS_X10_90 rfl rfl (Nat.le_of_ble_eq_true rfl) (by decide) hl.1 dX10_isYear_5 (fun H locs X => ?_)
  exact r_zret Fx hr hlk X (by decide) dX10_isYear_8 (bI_nar _) (Qi_mk (bI_c (by omega)))

abbrev rm_X10_isSpan : Room := ({ frames := 2, cells := 0, slots := 0, locals := 42 } : Room)
set_option maxHeartbeats 4000000 in
set_option maxRecDepth 100000 in
theorem c_X10_isSpan {E : XX} (hE : XS E) (l : Launch) {Γ : GG} {w : va_W} {a b : Int} (ha : -2147483648 ≤ a ∧ a < 2147483648) (hb : -2147483648 ≤ b ∧ b < 2147483648) : Con E l yX10_isSpan cX10_isSpan 2 (some .boolean) rm_X10_isSpan Γ w [.int (iI (a)), .int (iI (b))] (Qi (bI (0 ≤ a ∧ a ≤ b ∧ b ≤ 9)) w) := by
  refine Con_mk (by decide) (Nat.le_of_ble_eq_true rfl) ?_
  intro p e s₀ m args below meth c A Fx hr hlk hnm X ls hl
  have hl : lv_has ls 2 [(0, .int (iI (a))), (1, .int (iI (b)))] := hl
  refine lv_iload_n Fx.1 Fx.2.1 dX10_isSpan_0 rfl (lv_at hl 0 rfl) ?_
  refine r_callSi (As := [.int (iI (a))]) (rest := []) hE Fx X (c_X10_isStation hE l (v := a) (by omega)) cS_X10_94 rfl rfl (Nat.le_of_ble_eq_true rfl) (by decide) hl.1 dX10_isSpan_1 (fun H locs X => ?_)
  refine k_bif_eq (tgt := 23) Fx dX10_isSpan_4 (by decide) (fun c_4 => ?_) (fun c_4 => ?_)
  · refine k_iconst Fx dX10_isSpan_23 ?_
    exact r_zret Fx hr hlk X (by decide) dX10_isSpan_24 rfl (Qi_mk (bI_0 (by omega)))
  · refine lv_iload_n Fx.1 Fx.2.1 dX10_isSpan_7 rfl (lv_at hl 1 rfl) ?_
    refine r_callSi (As := [.int (iI (b))]) (rest := []) hE Fx X (c_X10_isStation hE l (v := b) (by omega)) cS_X10_94 rfl rfl (Nat.le_of_ble_eq_true rfl) (by decide) hl.1 dX10_isSpan_8 (fun H locs X => ?_)
    refine k_bif_eq (tgt := 23) Fx dX10_isSpan_11 (by decide) (fun c_11 => ?_) (fun c_11 => ?_)
    · refine k_iconst Fx dX10_isSpan_23 ?_
      exact r_zret Fx hr hlk X (by decide) dX10_isSpan_24 rfl (Qi_mk (bI_0 (by omega)))
    · refine lv_iload_n Fx.1 Fx.2.1 dX10_isSpan_14 rfl (lv_at hl 0 rfl) ?_
      refine lv_iload_n Fx.1 Fx.2.1 dX10_isSpan_15 rfl (lv_at hl 1 rfl) ?_
      refine k_icmp_gt (a := a) (b := b) (tgt := 23) Fx dX10_isSpan_16 (by decide) (by omega) (by omega) (fun c_16 => ?_) (fun c_16 => ?_)
      · refine k_iconst Fx dX10_isSpan_23 ?_
        exact r_zret Fx hr hlk X (by decide) dX10_isSpan_24 rfl (Qi_mk (bI_0 (by omega)))
      · refine k_iconst Fx dX10_isSpan_19 ?_
        refine lv_goto (tgt := 24) Fx.1 Fx.2.1 dX10_isSpan_20 (by decide) ?_
        exact r_zret Fx hr hlk X (by decide) dX10_isSpan_24 rfl (Qi_mk (bI_1 (by omega)))

abbrev rm_X10_abs : Room := ({ frames := 0, cells := 0, slots := 0, locals := 0 } : Room)
set_option maxHeartbeats 4000000 in
set_option maxRecDepth 100000 in
theorem c_X10_abs {E : XX} (hE : XS E) (l : Launch) {Γ : GG} {w : va_W} {v : Int} (hv : -2147483648 < v ∧ v < 2147483648) : Con E l yX10_abs cX10_abs 1 (some .int) rm_X10_abs Γ w [.int (iI (v))] (Qi (iI (if v < 0 then -v else v)) w) := by
  refine Con_mk (by decide) (Nat.le_of_ble_eq_true rfl) ?_
  intro p e s₀ m args below meth c A Fx hr hlk hnm X ls hl
  have hl : lv_has ls 1 [(0, .int (iI (v)))] := hl
  refine lv_iload_n Fx.1 Fx.2.1 dX10_abs_0 rfl (lv_at hl 0 rfl) ?_
  refine k_if_ge (a := v) (tgt := 9) Fx dX10_abs_1 (by decide) (by omega) (fun c_1 => ?_) (fun c_1 => ?_)
  · refine lv_iload_n Fx.1 Fx.2.1 dX10_abs_9 rfl (lv_at hl 0 rfl) ?_
    exact r_iret Fx hr hlk X (by decide) dX10_abs_10 (Qi_mk (congrArg iI (by split <;> omega)))
  · refine lv_iload_n Fx.1 Fx.2.1 dX10_abs_4 rfl (lv_at hl 0 rfl) ?_
    refine k_ineg Fx dX10_abs_5 ?_
    refine lv_goto (tgt := 10) Fx.1 Fx.2.1 dX10_abs_6 (by decide) ?_
    exact r_iret Fx hr hlk X (by decide) dX10_abs_10 (Qi_mk (congrArg iI (by split <;> omega)))

abbrev rm_X10_isLetter : Room := ({ frames := 1, cells := 0, slots := 0, locals := 22 } : Room)
set_option maxHeartbeats 4000000 in
set_option maxRecDepth 100000 in
theorem c_X10_isLetter {E : XX} (hE : XS E) (l : Launch) {Γ : GG} {w : va_W} {v : Int} (hv : -2147483648 ≤ v ∧ v < 2147483648) : Con E l yX10_isLetter cX10_isLetter 1 (some .boolean) rm_X10_isLetter Γ w [.int (iI (v))] (Qi (bI ((97 ≤ v ∧ v ≤ 122) ∨ (65 ≤ v ∧ v ≤ 90))) w) := by
  refine Con_mk (by decide) (Nat.le_of_ble_eq_true rfl) ?_
  intro p e s₀ m args below meth c A Fx hr hlk hnm X ls hl
  have hl : lv_has ls 1 [(0, .int (iI (v)))] := hl
  refine lv_iload_n Fx.1 Fx.2.1 dX10_isLetter_0 rfl (lv_at hl 0 rfl) ?_
  refine k_bipush Fx dX10_isLetter_1 (by decide) ?_
  refine k_bipush Fx dX10_isLetter_3 (by decide) ?_
  refine r_callSi (As := [.int (iI (v)), .int (iI (97)), .int (iI (122))]) (rest := []) hE Fx X (c_X10_isIn hE l (v := v) (a := 97) (b := 122) (by omega) (by omega) (by omega)) cS_X10_90 rfl rfl (Nat.le_of_ble_eq_true rfl) (by decide) hl.1 dX10_isLetter_5 (fun H locs X => ?_)
  refine k_bif_ne (tgt := 22) Fx dX10_isLetter_8 (by decide) (fun c_8 => ?_) (fun c_8 => ?_)
  · refine k_iconst Fx dX10_isLetter_22 ?_
    refine lv_goto (tgt := 27) Fx.1 Fx.2.1 dX10_isLetter_23 (by decide) ?_
    exact r_zret Fx hr hlk X (by decide) dX10_isLetter_27 rfl (Qi_mk (bI_1 (by omega)))
  · refine lv_iload_n Fx.1 Fx.2.1 dX10_isLetter_11 rfl (lv_at hl 0 rfl) ?_
    refine k_bipush Fx dX10_isLetter_12 (by decide) ?_
    refine k_bipush Fx dX10_isLetter_14 (by decide) ?_
    refine r_callSi (As := [.int (iI (v)), .int (iI (65)), .int (iI (90))]) (rest := []) hE Fx X (c_X10_isIn hE l (v := v) (a := 65) (b := 90) (by omega) (by omega) (by omega)) cS_X10_90 rfl rfl (Nat.le_of_ble_eq_true rfl) (by decide) hl.1 dX10_isLetter_16 (fun H locs X => ?_)
    refine k_bif_eq (tgt := 26) Fx dX10_isLetter_19 (by decide) (fun c_19 => ?_) (fun c_19 => ?_)
    · refine k_iconst Fx dX10_isLetter_26 ?_
      exact r_zret Fx hr hlk X (by decide) dX10_isLetter_27 rfl (Qi_mk (bI_0 (by omega)))
    · refine k_iconst Fx dX10_isLetter_22 ?_
      refine lv_goto (tgt := 27) Fx.1 Fx.2.1 dX10_isLetter_23 (by decide) ?_
      exact r_zret Fx hr hlk X (by decide) dX10_isLetter_27 rfl (Qi_mk (bI_1 (by omega)))

abbrev rm_X10_isDigit : Room := ({ frames := 1, cells := 0, slots := 0, locals := 22 } : Room)
set_option maxHeartbeats 4000000 in
set_option maxRecDepth 100000 in
theorem c_X10_isDigit {E : XX} (hE : XS E) (l : Launch) {Γ : GG} {w : va_W} {v : Int} (hv : -2147483648 ≤ v ∧ v < 2147483648) : Con E l yX10_isDigit cX10_isDigit 1 (some .boolean) rm_X10_isDigit Γ w [.int (iI (v))] (Qi (bI (48 ≤ v ∧ v ≤ 57)) w) := by
  refine Con_mk (by decide) (Nat.le_of_ble_eq_true rfl) ?_
  intro p e s₀ m args below meth c A Fx hr hlk hnm X ls hl
  have hl : lv_has ls 1 [(0, .int (iI (v)))] := hl
  refine lv_iload_n Fx.1 Fx.2.1 dX10_isDigit_0 rfl (lv_at hl 0 rfl) ?_
  refine k_bipush Fx dX10_isDigit_1 (by decide) ?_
  refine k_bipush Fx dX10_isDigit_3 (by decide) ?_
  refine r_callSi (As := [.int (iI (v)), .int (iI (48)), .int (iI (57))]) (rest := []) hE Fx X (c_X10_isIn hE l (v := v) (a := 48) (b := 57) (by omega) (by omega) (by omega)) cS_X10_90 rfl rfl (Nat.le_of_ble_eq_true rfl) (by decide) hl.1 dX10_isDigit_5 (fun H locs X => ?_)
  exact r_zret Fx hr hlk X (by decide) dX10_isDigit_8 (bI_nar _) (Qi_mk (bI_c (by omega)))

