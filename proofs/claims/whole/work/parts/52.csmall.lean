theorem mlM_X9_262 : Cond.methodLink RX9 262 Lib.Math.max.name ∈ BG := by decide +kernel
theorem cN_X9_missOf : gSN yX9_missOf cX9_missOf 3 (some .int) 3 := by decide +kernel
theorem cN_X9_below : gSN yX9_below cX9_below 2 (some .boolean) 2 := by decide +kernel
theorem bI_fit (P : Prop) : fits .boolean (.int (bI P)) = true := by
  by_cases h : P
  · rw [bI_t h]; rfl
  · rw [bI_f h]; rfl
abbrev rm_X9_below : Room := ({ frames := 0, cells := 0, slots := 0, locals := 0 } : Room)
set_option maxHeartbeats 4000000 in
set_option maxRecDepth 100000 in
theorem c_X9_below {E : XX} (hE : XS E) (l : Launch) {Γ : GG} {w : va_W} {a b : Int} (ha : -2147483648 ≤ a ∧ a < 2147483648) (hb : -2147483648 ≤ b ∧ b < 2147483648) : Con E l yX9_below cX9_below 2 (some .boolean) rm_X9_below Γ w [.int (iI (a)), .int (iI (b))] (Qi (bI (0 ≤ a ∧ a < b)) w) := by
  refine Con_mk (by decide) (Nat.le_of_ble_eq_true rfl) ?_
  intro p e s₀ m args below meth c A Fx hr hlk hnm X ls hl
  have hl : lv_has ls 2 [(0, .int (iI (a))), (1, .int (iI (b)))] := hl
  refine lv_iload_n Fx.1 Fx.2.1 dX9_below_0 rfl (lv_at hl 0 rfl) ?_
  refine k_if_lt (a := a) (tgt := 13) Fx dX9_below_1 (by decide) (by omega) (fun c_1 => ?_) (fun c_1 => ?_)
  · refine k_iconst Fx dX9_below_13 ?_
    exact r_zret Fx hr hlk X (by decide) dX9_below_14 rfl (Qi_mk (bI_0 (by omega)))
  · refine lv_iload_n Fx.1 Fx.2.1 dX9_below_4 rfl (lv_at hl 0 rfl) ?_
    refine lv_iload_n Fx.1 Fx.2.1 dX9_below_5 rfl (lv_at hl 1 rfl) ?_
    refine k_icmp_ge (a := a) (b := b) (tgt := 13) Fx dX9_below_6 (by decide) (by omega) (by omega) (fun c_6 => ?_) (fun c_6 => ?_)
    · refine k_iconst Fx dX9_below_13 ?_
      exact r_zret Fx hr hlk X (by decide) dX9_below_14 rfl (Qi_mk (bI_0 (by omega)))
    · refine k_iconst Fx dX9_below_9 ?_
      refine lv_goto (tgt := 14) Fx.1 Fx.2.1 dX9_below_10 (by decide) ?_
      exact r_zret Fx hr hlk X (by decide) dX9_below_14 rfl (Qi_mk (bI_1 (by omega)))

abbrev rm_X9_isStretch : Room := ({ frames := 0, cells := 0, slots := 0, locals := 0 } : Room)
set_option maxHeartbeats 4000000 in
set_option maxRecDepth 100000 in
theorem c_X9_isStretch {E : XX} (hE : XS E) (l : Launch) {Γ : GG} {w : va_W} {a b b2 : Int} (ha : -2147483648 ≤ a ∧ a < 2147483648) (hb : -2147483648 ≤ b ∧ b < 2147483648) (hb2 : -2147483648 ≤ b2 ∧ b2 < 2147483648) : Con E l yX9_isStretch cX9_isStretch 3 (some .boolean) rm_X9_isStretch Γ w [.int (iI (a)), .int (iI (b)), .int (iI (b2))] (Qi (bI (0 ≤ a ∧ a ≤ b ∧ b < b2)) w) := by
  refine Con_mk (by decide) (Nat.le_of_ble_eq_true rfl) ?_
  intro p e s₀ m args below meth c A Fx hr hlk hnm X ls hl
  have hl : lv_has ls 3 [(0, .int (iI (a))), (1, .int (iI (b))), (2, .int (iI (b2)))] := hl
  refine lv_iload_n Fx.1 Fx.2.1 dX9_isStretch_0 rfl (lv_at hl 0 rfl) ?_
  refine k_if_lt (a := a) (tgt := 18) Fx dX9_isStretch_1 (by decide) (by omega) (fun c_1 => ?_) (fun c_1 => ?_)
  · refine k_iconst Fx dX9_isStretch_18 ?_
    exact r_zret Fx hr hlk X (by decide) dX9_isStretch_19 rfl (Qi_mk (bI_0 (by omega)))
  · refine lv_iload_n Fx.1 Fx.2.1 dX9_isStretch_4 rfl (lv_at hl 0 rfl) ?_
    refine lv_iload_n Fx.1 Fx.2.1 dX9_isStretch_5 rfl (lv_at hl 1 rfl) ?_
    refine k_icmp_gt (a := a) (b := b) (tgt := 18) Fx dX9_isStretch_6 (by decide) (by omega) (by omega) (fun c_6 => ?_) (fun c_6 => ?_)
    · refine k_iconst Fx dX9_isStretch_18 ?_
      exact r_zret Fx hr hlk X (by decide) dX9_isStretch_19 rfl (Qi_mk (bI_0 (by omega)))
    · refine lv_iload_n Fx.1 Fx.2.1 dX9_isStretch_9 rfl (lv_at hl 1 rfl) ?_
      refine lv_iload_n Fx.1 Fx.2.1 dX9_isStretch_10 rfl (lv_at hl 2 rfl) ?_
      refine k_icmp_ge (a := b) (b := b2) (tgt := 18) Fx dX9_isStretch_11 (by decide) (by omega) (by omega) (fun c_11 => ?_) (fun c_11 => ?_)
      · refine k_iconst Fx dX9_isStretch_18 ?_
        exact r_zret Fx hr hlk X (by decide) dX9_isStretch_19 rfl (Qi_mk (bI_0 (by omega)))
      · refine k_iconst Fx dX9_isStretch_14 ?_
        refine lv_goto (tgt := 19) Fx.1 Fx.2.1 dX9_isStretch_15 (by decide) ?_
        exact r_zret Fx hr hlk X (by decide) dX9_isStretch_19 rfl (Qi_mk (bI_1 (by omega)))

abbrev rm_X9_missOf : Room := ({ frames := 1, cells := 0, slots := 0, locals := 14 } : Room)
set_option maxHeartbeats 4000000 in
set_option maxRecDepth 100000 in
theorem c_X9_missOf {E : XX} (hE : XS E) (l : Launch) {Γ : GG} {w : va_W} {t lo hi : Nat} (ht : t < 80) (hlo : lo < 80) (hhi : hi < 80) : Con E l yX9_missOf cX9_missOf 3 (some .int) rm_X9_missOf Γ w [.int (iI (((t : Nat) : Int))), .int (iI (((lo : Nat) : Int))), .int (iI (((hi : Nat) : Int)))] (Qi (iI (max 0 (max (((lo : Nat) : Int) - ((t : Nat) : Int)) (((t : Nat) : Int) - ((hi : Nat) : Int))))) w) := by
  refine Con_mk (by decide) (Nat.le_of_ble_eq_true rfl) ?_
  intro p e s₀ m args below meth c A Fx hr hlk hnm X ls hl
  have hl : lv_has ls 3 [(0, .int (iI (((t : Nat) : Int)))), (1, .int (iI (((lo : Nat) : Int)))), (2, .int (iI (((hi : Nat) : Int))))] := hl
  refine k_iconst Fx dX9_missOf_0 ?_
  refine lv_iload_n Fx.1 Fx.2.1 dX9_missOf_1 rfl (lv_at hl 1 rfl) ?_
  refine lv_iload_n Fx.1 Fx.2.1 dX9_missOf_2 rfl (lv_at hl 0 rfl) ?_
  refine k_isub Fx dX9_missOf_3 ?_
  refine lv_iload_n Fx.1 Fx.2.1 dX9_missOf_4 rfl (lv_at hl 0 rfl) ?_
  refine lv_iload_n Fx.1 Fx.2.1 dX9_missOf_5 rfl (lv_at hl 2 rfl) ?_
  refine k_isub Fx dX9_missOf_6 ?_
  refine r_max (a := (((lo : Nat) : Int) - ((t : Nat) : Int))) (b := (((t : Nat) : Int) - ((hi : Nat) : Int))) Fx mlM_X9_262 (by omega) (by omega) hl.1 (by decide) (Nat.le_of_ble_eq_true rfl) (by decide) (by decide) dX9_missOf_7 ?_
  refine r_max (a := 0) (b := (if (((lo : Nat) : Int) - ((t : Nat) : Int)) < (((t : Nat) : Int) - ((hi : Nat) : Int)) then (((t : Nat) : Int) - ((hi : Nat) : Int)) else (((lo : Nat) : Int) - ((t : Nat) : Int)))) Fx mlM_X9_262 (by omega) (by split <;> omega) hl.1 (by decide) (Nat.le_of_ble_eq_true rfl) (by decide) (by decide) dX9_missOf_10 ?_
  exact r_iret Fx hr hlk X (by decide) dX9_missOf_13 (Qi_mk (congrArg iI (by (repeat' split) <;> omega)))

abbrev rm_X5_isParty : Room := ({ frames := 1, cells := 0, slots := 0, locals := 21 } : Room)
set_option maxHeartbeats 4000000 in
set_option maxRecDepth 100000 in
theorem c_X5_isParty {E : XX} (hE : XS E) (l : Launch) {Γ : GG} {κ : KK} (hN : EN E κ) {w : va_W} {a b c9 : Int} (ha : -2147483648 ≤ a ∧ a < 2147483648) (hb : -2147483648 ≤ b ∧ b < 2147483648) (hc9 : -2147483648 ≤ c9 ∧ c9 < 2147483648) : Con E l yX5_isParty cX5_isParty 3 (some .boolean) rm_X5_isParty Γ w [.int (iI (a)), .int (iI (b)), .int (iI (c9))] (Qi (bI ((0 ≤ a ∧ a < 100) ∧ (0 ≤ b ∧ b < 1000) ∧ (1 ≤ c9 ∧ c9 ≤ 99))) w) := by
  refine Con_mk (by decide) (Nat.le_of_ble_eq_true rfl) ?_
  intro p e s₀ m args below meth c A Fx hr hlk hnm X ls hl
  have hl : lv_has ls 3 [(0, .int (iI (a))), (1, .int (iI (b))), (2, .int (iI (c9)))] := hl
  refine lv_iload_n Fx.1 Fx.2.1 dX5_isParty_0 rfl (lv_at hl 0 rfl) ?_
  refine k_bipush Fx dX5_isParty_1 (by decide) ?_
  refine r_callSN (As := [.int (iI (a)), .int (iI (100))]) (rest := []) hE Fx X (c_X9_below hE l (a := a) (b := 100) (by omega) (by omega)) cN_X9_below (X.ef hN).1.2.2.2.2.2.2 rfl rfl (Nat.le_of_ble_eq_true rfl) (by decide) hl.1 dX5_isParty_3 (fun H locs X => ?_)
  refine k_bif_eq (tgt := 34) Fx dX5_isParty_6 (by decide) (fun c_6 => ?_) (fun c_6 => ?_)
  · refine k_iconst Fx dX5_isParty_34 ?_
    exact r_zret Fx hr hlk X (by decide) dX5_isParty_35 rfl (Qi_mk (bI_0 (by omega)))
  · refine lv_iload_n Fx.1 Fx.2.1 dX5_isParty_9 rfl (lv_at hl 1 rfl) ?_
    refine k_sipush Fx dX5_isParty_10 (by decide) ?_
    refine r_callSN (As := [.int (iI (b)), .int (iI (1000))]) (rest := []) hE Fx X (c_X9_below hE l (a := b) (b := 1000) (by omega) (by omega)) cN_X9_below (X.ef hN).1.2.2.2.2.2.2 rfl rfl (Nat.le_of_ble_eq_true rfl) (by decide) hl.1 dX5_isParty_13 (fun H locs X => ?_)
    refine k_bif_eq (tgt := 34) Fx dX5_isParty_16 (by decide) (fun c_16 => ?_) (fun c_16 => ?_)
    · refine k_iconst Fx dX5_isParty_34 ?_
      exact r_zret Fx hr hlk X (by decide) dX5_isParty_35 rfl (Qi_mk (bI_0 (by omega)))
    · refine lv_iload_n Fx.1 Fx.2.1 dX5_isParty_19 rfl (lv_at hl 2 rfl) ?_
      refine k_iconst Fx dX5_isParty_20 ?_
      refine k_icmp_lt (a := c9) (b := 1) (tgt := 34) Fx dX5_isParty_21 (by decide) (by omega) (by omega) (fun c_21 => ?_) (fun c_21 => ?_)
      · refine k_iconst Fx dX5_isParty_34 ?_
        exact r_zret Fx hr hlk X (by decide) dX5_isParty_35 rfl (Qi_mk (bI_0 (by omega)))
      · refine lv_iload_n Fx.1 Fx.2.1 dX5_isParty_24 rfl (lv_at hl 2 rfl) ?_
        refine k_bipush Fx dX5_isParty_25 (by decide) ?_
        refine k_icmp_gt (a := c9) (b := 99) (tgt := 34) Fx dX5_isParty_27 (by decide) (by omega) (by omega) (fun c_27 => ?_) (fun c_27 => ?_)
        · refine k_iconst Fx dX5_isParty_34 ?_
          exact r_zret Fx hr hlk X (by decide) dX5_isParty_35 rfl (Qi_mk (bI_0 (by omega)))
        · refine k_iconst Fx dX5_isParty_30 ?_
          refine lv_goto (tgt := 35) Fx.1 Fx.2.1 dX5_isParty_31 (by decide) ?_
          exact r_zret Fx hr hlk X (by decide) dX5_isParty_35 rfl (Qi_mk (bI_1 (by omega)))

