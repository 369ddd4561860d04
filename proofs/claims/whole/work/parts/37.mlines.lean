abbrev rm_X10_bad : Room := ({ frames := 0, cells := 0, slots := 0, locals := 0 } : Room)
set_option maxHeartbeats 4000000 in
set_option maxRecDepth 100000 in
theorem c_X10_bad {E : XX} (hE : XS E) (l : Launch) {Γ : GG} {ad : Nat → Nat} {f : Nat → Int32} {g : Nat → Nat → Int32} {k a : Int} (hk : -2147483648 ≤ k ∧ k < 2147483648) (h20 : f 20 = iI a) : Con E l yX10_bad cX10_bad 2 (some .boolean) rm_X10_bad Γ (wM Γ ad f g) [.ref (ad 0), .int (iI (k))] (fun v w2 => v = some (.int (bI False)) ∧ w2 = wM Γ ad (upd (upd f 22 (iI k)) 23 (iI a)) g) := by
  refine Con_mk (by decide) (Nat.le_of_ble_eq_true rfl) ?_
  intro p e s₀ m args below meth c A Fx hr hlk hnm X ls hl
  have hl : lv_has ls 2 [(0, .ref (ad 0)), (1, .int (iI (k)))] := hl
  refine lv_aload_n Fx.1 Fx.2.1 dX10_bad_0 rfl (lv_at hl 0 rfl) ?_
  refine lv_iload_n Fx.1 Fx.2.1 dX10_bad_1 rfl (lv_at hl 1 rfl) ?_
  refine pM_22 Fx X dX10_bad_2 (fun H locs X => ?_)
  refine lv_aload_n Fx.1 Fx.2.1 dX10_bad_5 rfl (lv_at hl 0 rfl) ?_
  refine lv_aload_n Fx.1 Fx.2.1 dX10_bad_6 rfl (lv_at hl 0 rfl) ?_
  refine gM_20 (x := (iI (a))) Fx X (h20) dX10_bad_7 ?_
  refine pM_23 Fx X dX10_bad_10 (fun H locs X => ?_)
  refine k_iconst Fx dX10_bad_13 ?_
  exact r_zret Fx hr hlk X (by decide) dX10_bad_14 rfl (⟨(by rw [bI_f (fun h => h)]; rfl), rfl⟩)

abbrev rm_X10_aKind : Room := ({ frames := 3, cells := 0, slots := 0, locals := 66 } : Room)
set_option maxHeartbeats 4000000 in
set_option maxRecDepth 100000 in
theorem c_X10_aKind {E : XX} (hE : XS E) (l : Launch) {Γ : GG} {ad : Nat → Nat} {f : Nat → Int32} {g : Nat → Nat → Int32} {tn : Nat} {tb : Nat → Nat} (hT : TapM tn tb f g) (hTB : TapB tn tb) {i : Nat} (hi : i ≤ tn) (hK : TokM tn tb i f) {j : Nat} (hj : j < 20) (h25 : f 25 = iI (j : Nat)) : Con E l yX10_aKind cX10_aKind 1 (some .boolean) rm_X10_aKind Γ (wM Γ ad f g) [.ref (ad 0)] (fun v w2 => ((300 ≤ tkT tn tb i ∧ tkT tn tb i ≤ 305) ∧ v = some (.int (bI True)) ∧ ∃ f1, w2 = wM Γ ad f1 (updA g 16 (upd (g 16) (3 * j + 1) (iI (tkT tn tb i - 300)))) ∧ TokM tn tb (tkN tn tb i) f1 ∧ FrN f1 f) ∨ (¬ (300 ≤ tkT tn tb i ∧ tkT tn tb i ≤ 305) ∧ v = some (.int (bI False)) ∧ ∃ f1, w2 = wM Γ ad f1 g ∧ f1 22 = iI 1 ∧ f1 23 = iI (tkA tn tb i : Nat) ∧ FrT f1 f)) := by
  refine Con_mk (by decide) (Nat.le_of_ble_eq_true rfl) ?_
  intro p e s₀ m args below meth c A Fx hr hlk hnm X ls hl
  have hl : lv_has ls 1 [(0, .ref (ad 0))] := hl
  have hFT := FrT_r f
  have bt_x := tkT_b tn tb i
  have hT2 := hTB.1
  refine lv_aload_n Fx.1 Fx.2.1 dX10_aKind_0 rfl (lv_at hl 0 rfl) ?_
  refine gM_19 (x := (iI (tkT tn tb i))) Fx X (hK.2.1) dX10_aKind_1 ?_
  refine k_sipush Fx dX10_aKind_4 (by decide) ?_
  refine k_sipush Fx dX10_aKind_7 (by decide) ?_
  refine r_callSi (As := [.int (iI (tkT tn tb i)), .int (iI (300)), .int (iI (305))]) (rest := []) hE Fx X (c_X10_isIn hE l (v := tkT tn tb i) (a := 300) (b := 305) (by omega) (by omega) (by omega)) cS_X10_90 rfl rfl (Nat.le_of_ble_eq_true rfl) (by decide) hl.1 dX10_aKind_10 (fun H locs X => ?_)
  refine k_bif_ne (tgt := 22) Fx dX10_aKind_13 (by decide) (fun c_13 => ?_) (fun c_13 => ?_)
  · refine lv_aload_n Fx.1 Fx.2.1 dX10_aKind_22 rfl (lv_at hl 0 rfl) ?_
    refine gM_16 Fx X dX10_aKind_23 ?_
    refine k_iconst Fx dX10_aKind_26 ?_
    refine lv_aload_n Fx.1 Fx.2.1 dX10_aKind_27 rfl (lv_at hl 0 rfl) ?_
    refine gM_25 (x := (iI (((j : Nat) : Int)))) Fx X (h25) dX10_aKind_28 ?_
    refine k_imul Fx dX10_aKind_31 ?_
    refine k_iconst Fx dX10_aKind_32 ?_
    refine k_iadd Fx dX10_aKind_33 ?_
    refine lv_aload_n Fx.1 Fx.2.1 dX10_aKind_34 rfl (lv_at hl 0 rfl) ?_
    refine gM_19 (x := (iI (tkT tn tb i))) Fx X (hK.2.1) dX10_aKind_35 ?_
    refine k_sipush Fx dX10_aKind_38 (by decide) ?_
    refine k_isub Fx dX10_aKind_41 ?_
    refine stM_16 (z := ((3 * ((j : Nat) : Int)) + 1)) (i := (3 * j + 1)) Fx X (by omega) (by omega) dX10_aKind_42 (fun H locs X => ?_)
    refine lv_aload_n Fx.1 Fx.2.1 dX10_aKind_43 rfl (lv_at hl 0 rfl) ?_
    have hi := tkN_le (tb := tb) hi
    refine r_callV (As := []) (rest := []) hE Fx X (c_X10_next0 hE l (by exact hT) hTB (i := tkN tn tb i) hi (by exact hK.1)) cV_X10_174 (recM X) rfl rfl (Nat.le_of_ble_eq_true rfl) (by decide) hl.1 dX10_aKind_44 (fun v9 w9 H locs hq X => ?_)
    obtain ⟨rfl, f_1, rfl, hK, hN⟩ := hq
    have hT := TapM_fr (hN 17 (by omega) (by omega) (by omega) (by omega)) rfl hT
    have bt_x := tkT_b tn tb (tkN tn tb i)
    have hFT := FrT_tr (FrN_T hN) hFT
    refine k_iconst Fx dX10_aKind_47 ?_
    exact r_zret Fx hr hlk X (by decide) dX10_aKind_48 rfl (Or.inl ⟨by omega, (by rw [bI_t trivial]; rfl), _, rfl, hK, hN⟩)
  · refine lv_aload_n Fx.1 Fx.2.1 dX10_aKind_16 rfl (lv_at hl 0 rfl) ?_
    refine k_iconst Fx dX10_aKind_17 ?_
    refine r_callV (As := [.int (iI (1))]) (rest := []) hE Fx X (c_X10_bad hE l (k := 1) (by omega) (hK.2.2.1)) cV_X10_168 (recM X) rfl rfl (Nat.le_of_ble_eq_true rfl) (by decide) hl.1 dX10_aKind_18 (fun v9 w9 H locs hq X => ?_)
    obtain ⟨rfl, rfl⟩ := hq
    exact r_zret Fx hr hlk X (by decide) dX10_aKind_21 (bI_nar _) (Or.inr ⟨by omega, rfl, _, rfl, rfl, rfl, FrT_u (by omega) (FrT_u (by omega) hFT)⟩)

abbrev rm_X10_aNumber : Room := ({ frames := 3, cells := 0, slots := 0, locals := 66 } : Room)
set_option maxHeartbeats 4000000 in
set_option maxRecDepth 100000 in
theorem c_X10_aNumber {E : XX} (hE : XS E) (l : Launch) {Γ : GG} {ad : Nat → Nat} {f : Nat → Int32} {g : Nat → Nat → Int32} {tn : Nat} {tb : Nat → Nat} (hT : TapM tn tb f g) (hTB : TapB tn tb) {i : Nat} (hi : i ≤ tn) (hK : TokM tn tb i f) {j : Nat} (hj : j < 20) (h25 : f 25 = iI (j : Nat)) {lo hi9 : Int} (hlo : -2147483648 ≤ lo ∧ lo < 2147483648) (hhi9 : -2147483648 ≤ hi9 ∧ hi9 < 2147483648) : Con E l yX10_aNumber cX10_aNumber 3 (some .boolean) rm_X10_aNumber Γ (wM Γ ad f g) [.ref (ad 0), .int (iI (lo)), .int (iI (hi9))] (fun v w2 => ((tkT tn tb i = 2 ∧ lo ≤ tkV tn tb i ∧ tkV tn tb i ≤ hi9) ∧ v = some (.int (bI True)) ∧ ∃ f1, w2 = wM Γ ad f1 (updA g 16 (upd (g 16) (3 * j + 2) (iI (tkV tn tb i)))) ∧ TokM tn tb (tkN tn tb i) f1 ∧ FrN f1 f) ∨ (¬ (tkT tn tb i = 2 ∧ lo ≤ tkV tn tb i ∧ tkV tn tb i ≤ hi9) ∧ v = some (.int (bI False)) ∧ ∃ f1, w2 = wM Γ ad f1 g ∧ f1 22 = iI (if tkT tn tb i = 2 then 2 else 1) ∧ f1 23 = iI (tkA tn tb i : Nat) ∧ FrT f1 f)) := by
  refine Con_mk (by decide) (Nat.le_of_ble_eq_true rfl) ?_
  intro p e s₀ m args below meth c A Fx hr hlk hnm X ls hl
  have hl : lv_has ls 3 [(0, .ref (ad 0)), (1, .int (iI (lo))), (2, .int (iI (hi9)))] := hl
  have hFT := FrT_r f
  have bt_x := tkT_b tn tb i
  have hT2 := hTB.1
  refine lv_aload_n Fx.1 Fx.2.1 dX10_aNumber_0 rfl (lv_at hl 0 rfl) ?_
  refine gM_19 (x := (iI (tkT tn tb i))) Fx X (hK.2.1) dX10_aNumber_1 ?_
  refine k_iconst Fx dX10_aNumber_4 ?_
  refine k_icmp_eq (a := tkT tn tb i) (b := 2) (tgt := 14) Fx dX10_aNumber_5 (by decide) (by omega) (by omega) (fun c_5 => ?_) (fun c_5 => ?_)
  · have bv_x := tkV_b tn tb i
    refine lv_aload_n Fx.1 Fx.2.1 dX10_aNumber_14 rfl (lv_at hl 0 rfl) ?_
    refine gM_21 (x := (iI (tkV tn tb i))) Fx X (hK.2.2.2 c_5) dX10_aNumber_15 ?_
    refine lv_iload_n Fx.1 Fx.2.1 dX10_aNumber_18 rfl (lv_at hl 1 rfl) ?_
    refine lv_iload_n Fx.1 Fx.2.1 dX10_aNumber_19 rfl (lv_at hl 2 rfl) ?_
    refine r_callSi (As := [.int (iI (tkV tn tb i)), .int (iI (lo)), .int (iI (hi9))]) (rest := []) hE Fx X (c_X10_isIn hE l (v := tkV tn tb i) (a := lo) (b := hi9) (by omega) (by omega) (by omega)) cS_X10_90 rfl rfl (Nat.le_of_ble_eq_true rfl) (by decide) hl.1 dX10_aNumber_20 (fun H locs X => ?_)
    refine k_bif_ne (tgt := 32) Fx dX10_aNumber_23 (by decide) (fun c_23 => ?_) (fun c_23 => ?_)
    · refine lv_aload_n Fx.1 Fx.2.1 dX10_aNumber_32 rfl (lv_at hl 0 rfl) ?_
      refine gM_16 Fx X dX10_aNumber_33 ?_
      refine k_iconst Fx dX10_aNumber_36 ?_
      refine lv_aload_n Fx.1 Fx.2.1 dX10_aNumber_37 rfl (lv_at hl 0 rfl) ?_
      refine gM_25 (x := (iI (((j : Nat) : Int)))) Fx X (h25) dX10_aNumber_38 ?_
      refine k_imul Fx dX10_aNumber_41 ?_
      refine k_iconst Fx dX10_aNumber_42 ?_
      refine k_iadd Fx dX10_aNumber_43 ?_
      refine lv_aload_n Fx.1 Fx.2.1 dX10_aNumber_44 rfl (lv_at hl 0 rfl) ?_
      refine gM_21 (x := (iI (tkV tn tb i))) Fx X (hK.2.2.2 c_5) dX10_aNumber_45 ?_
      refine stM_16 (z := ((3 * ((j : Nat) : Int)) + 2)) (i := (3 * j + 2)) Fx X (by omega) (by omega) dX10_aNumber_48 (fun H locs X => ?_)
      refine lv_aload_n Fx.1 Fx.2.1 dX10_aNumber_49 rfl (lv_at hl 0 rfl) ?_
      have hi := tkN_le (tb := tb) hi
      refine r_callV (As := []) (rest := []) hE Fx X (c_X10_next0 hE l (by exact hT) hTB (i := tkN tn tb i) hi (by exact hK.1)) cV_X10_174 (recM X) rfl rfl (Nat.le_of_ble_eq_true rfl) (by decide) hl.1 dX10_aNumber_50 (fun v9 w9 H locs hq X => ?_)
      obtain ⟨rfl, f_1, rfl, hK, hN⟩ := hq
      have hT := TapM_fr (hN 17 (by omega) (by omega) (by omega) (by omega)) rfl hT
      have bt_x := tkT_b tn tb (tkN tn tb i)
      have hFT := FrT_tr (FrN_T hN) hFT
      refine k_iconst Fx dX10_aNumber_53 ?_
      exact r_zret Fx hr hlk X (by decide) dX10_aNumber_54 rfl (Or.inl ⟨by omega, (by rw [bI_t trivial]; rfl), _, rfl, hK, hN⟩)
    · refine lv_aload_n Fx.1 Fx.2.1 dX10_aNumber_26 rfl (lv_at hl 0 rfl) ?_
      refine k_iconst Fx dX10_aNumber_27 ?_
      refine r_callV (As := [.int (iI (2))]) (rest := []) hE Fx X (c_X10_bad hE l (k := 2) (by omega) (hK.2.2.1)) cV_X10_168 (recM X) rfl rfl (Nat.le_of_ble_eq_true rfl) (by decide) hl.1 dX10_aNumber_28 (fun v9 w9 H locs hq X => ?_)
      obtain ⟨rfl, rfl⟩ := hq
      exact r_zret Fx hr hlk X (by decide) dX10_aNumber_31 (bI_nar _) (Or.inr ⟨by omega, rfl, _, rfl, congrArg iI (if_pos (by omega)).symm, rfl, FrT_u (by omega) (FrT_u (by omega) hFT)⟩)
  · refine lv_aload_n Fx.1 Fx.2.1 dX10_aNumber_8 rfl (lv_at hl 0 rfl) ?_
    refine k_iconst Fx dX10_aNumber_9 ?_
    refine r_callV (As := [.int (iI (1))]) (rest := []) hE Fx X (c_X10_bad hE l (k := 1) (by omega) (hK.2.2.1)) cV_X10_168 (recM X) rfl rfl (Nat.le_of_ble_eq_true rfl) (by decide) hl.1 dX10_aNumber_10 (fun v9 w9 H locs hq X => ?_)
    obtain ⟨rfl, rfl⟩ := hq
    exact r_zret Fx hr hlk X (by decide) dX10_aNumber_13 (bI_nar _) (Or.inr ⟨by omega, rfl, _, rfl, congrArg iI (if_neg (by omega)).symm, rfl, FrT_u (by omega) (FrT_u (by omega) hFT)⟩)

abbrev rm_X10_aLine : Room := ({ frames := 4, cells := 0, slots := 0, locals := 88 } : Room)
set_option maxHeartbeats 4000000 in
set_option maxRecDepth 100000 in
theorem c_X10_aLine {E : XX} (hE : XS E) (l : Launch) {Γ : GG} {ad : Nat → Nat} {f : Nat → Int32} {g : Nat → Nat → Int32} {tn : Nat} {tb : Nat → Nat} (hT : TapM tn tb f g) (hTB : TapB tn tb) {i : Nat} (hi : i ≤ tn) (hK : TokM tn tb i f) {j : Nat} (hj : j ≤ 20) (h25 : f 25 = iI (j : Nat)) (h22 : f 22 = f 22) : Con E l yX10_aLine cX10_aLine 2 (some .boolean) rm_X10_aLine Γ (wM Γ ad f g) [.ref (ad 0)] (LnPost tn tb j i Γ ad f g) := by
  refine Con_mk (by decide) (Nat.le_of_ble_eq_true rfl) ?_
  intro p e s₀ m args below meth c A Fx hr hlk hnm X ls hl
  have hl : lv_has ls 2 [(0, .ref (ad 0))] := hl
  have hFT := FrT_r f
  have bt_x := tkT_b tn tb i
  have hT2 := hTB.1
  refine lv_aload_n Fx.1 Fx.2.1 dX10_aLine_0 rfl (lv_at hl 0 rfl) ?_
  refine gM_19 (x := (iI (tkT tn tb i))) Fx X (hK.2.1) dX10_aLine_1 ?_
  refine lv_istore_n (lv' := [(1, .int (iI (tkT tn tb i))), (0, .ref (ad 0))]) Fx.1 Fx.2.1 dX10_aLine_4 rfl hl (by decide) rfl (fun ls hl => ?_)
  refine lv_iload_n Fx.1 Fx.2.1 dX10_aLine_5 rfl (lv_at hl 0 rfl) ?_
  refine k_iconst Fx dX10_aLine_6 ?_
  refine k_bipush Fx dX10_aLine_7 (by decide) ?_
  refine r_callSi (As := [.int (iI (tkT tn tb i)), .int (iI (3)), .int (iI (7))]) (rest := []) hE Fx X (c_X10_isIn hE l (v := tkT tn tb i) (a := 3) (b := 7) (by omega) (by omega) (by omega)) cS_X10_90 rfl rfl (Nat.le_of_ble_eq_true rfl) (by decide) hl.1 dX10_aLine_9 (fun H locs X => ?_)
  refine k_bif_ne (tgt := 21) Fx dX10_aLine_12 (by decide) (fun c_12 => ?_) (fun c_12 => ?_)
  · refine lv_aload_n Fx.1 Fx.2.1 dX10_aLine_21 rfl (lv_at hl 1 rfl) ?_
    refine gM_25 (x := (iI (((j : Nat) : Int)))) Fx X (h25) dX10_aLine_22 ?_
    refine k_bipush Fx dX10_aLine_25 (by decide) ?_
    refine k_icmp_ne (a := ((j : Nat) : Int)) (b := 20) (tgt := 36) Fx dX10_aLine_27 (by decide) (by omega) (by omega) (fun c_27 => ?_) (fun c_27 => ?_)
    · refine lv_aload_n Fx.1 Fx.2.1 dX10_aLine_36 rfl (lv_at hl 1 rfl) ?_
      refine gM_16 Fx X dX10_aLine_37 ?_
      refine k_iconst Fx dX10_aLine_40 ?_
      refine lv_aload_n Fx.1 Fx.2.1 dX10_aLine_41 rfl (lv_at hl 1 rfl) ?_
      refine gM_25 (x := (iI (((j : Nat) : Int)))) Fx X (h25) dX10_aLine_42 ?_
      refine k_imul Fx dX10_aLine_45 ?_
      refine lv_iload_n Fx.1 Fx.2.1 dX10_aLine_46 rfl (lv_at hl 0 rfl) ?_
      refine stM_16 (z := (3 * ((j : Nat) : Int))) (i := (3 * j)) Fx X (by omega) (by omega) dX10_aLine_47 (fun H locs X => ?_)
      refine lv_aload_n Fx.1 Fx.2.1 dX10_aLine_48 rfl (lv_at hl 1 rfl) ?_
      have hi := tkN_le (tb := tb) hi
      refine r_callV (As := []) (rest := []) hE Fx X (c_X10_next0 hE l (by exact hT) hTB (i := tkN tn tb i) hi (by exact hK.1)) cV_X10_174 (recM X) rfl rfl (Nat.le_of_ble_eq_true rfl) (by decide) hl.1 dX10_aLine_49 (fun v9 w9 H locs hq X => ?_)
      obtain ⟨rfl, f_1, rfl, hK, hN⟩ := hq
      have hT := TapM_fr (hN 17 (by omega) (by omega) (by omega) (by omega)) rfl hT
      have bt_x := tkT_b tn tb (tkN tn tb i)
      have h25 := (hN 25 (by omega) (by omega) (by omega) (by omega)).trans h25
      have h22 := (hN 22 (by omega) (by omega) (by omega) (by omega)).trans h22
      have hFT := FrT_tr (FrN_T hN) hFT
      refine lv_iload_n Fx.1 Fx.2.1 dX10_aLine_52 rfl (lv_at hl 0 rfl) ?_
      refine k_iconst Fx dX10_aLine_53 ?_
      refine k_icmp_eq (a := tkT tn tb i) (b := 3) (tgt := 63) Fx dX10_aLine_54 (by decide) (by omega) (by omega) (fun c_54 => ?_) (fun c_54 => ?_)
      · refine lv_aload_n Fx.1 Fx.2.1 dX10_aLine_63 rfl (lv_at hl 1 rfl) ?_
        refine r_callV (As := []) (rest := []) hE Fx X (c_X10_aKind hE l (by exact hT) hTB hi (by exact hK) (j := j) (by omega) (by exact h25)) cV_X10_177 (recM X) rfl rfl (Nat.le_of_ble_eq_true rfl) (by decide) hl.1 dX10_aLine_64 (fun v9 w9 H locs hq X => ?_)
        rcases hq with ⟨hkk, rfl, f_2, rfl, hK, hN⟩ | ⟨hkk, rfl, f_3, rfl, hw22, hw23, hFT1⟩
        · have hT := TapM_fr (g := (updA g 16 (upd (g 16) (3 * j) (iI (tkT tn tb i))))) (hN 17 (by omega) (by omega) (by omega) (by omega)) rfl hT
          have hi := tkN_le (tb := tb) hi
          have bt_x := tkT_b tn tb (tkN tn tb (tkN tn tb i))
          have h25 := (hN 25 (by omega) (by omega) (by omega) (by omega)).trans h25
          have h22 := (hN 22 (by omega) (by omega) (by omega) (by omega)).trans h22
          have hFT := FrT_tr (FrN_T hN) hFT
          refine k_bif_ne (tgt := 72) Fx dX10_aLine_67 (by decide) (fun c_67 => ?_) (fun c_67 => ?_)
          rotate_left
          · exact absurd trivial c_67
          refine lv_iload_n Fx.1 Fx.2.1 dX10_aLine_72 rfl (lv_at hl 0 rfl) ?_
          refine k_bipush Fx dX10_aLine_73 (by decide) ?_
          refine k_icmp_eq (a := tkT tn tb i) (b := 7) (tgt := 119) Fx dX10_aLine_75 (by decide) (by omega) (by omega) (fun c_75 => ?_) (fun c_75 => ?_)
          · exact absurd c_75 (by omega)
          · refine lv_aload_n Fx.1 Fx.2.1 dX10_aLine_78 rfl (lv_at hl 1 rfl) ?_
            refine lv_iload_n Fx.1 Fx.2.1 dX10_aLine_79 rfl (lv_at hl 0 rfl) ?_
            refine k_iconst Fx dX10_aLine_80 ?_
            refine k_icmp_ne (a := tkT tn tb i) (b := 5) (tgt := 88) Fx dX10_aLine_81 (by decide) (by omega) (by omega) (fun c_81 => ?_) (fun c_81 => ?_)
            · refine k_iconst Fx dX10_aLine_88 ?_
              refine lv_iload_n Fx.1 Fx.2.1 dX10_aLine_89 rfl (lv_at hl 0 rfl) ?_
              refine k_iconst Fx dX10_aLine_90 ?_
              refine k_icmp_ne (a := tkT tn tb i) (b := 3) (tgt := 99) Fx dX10_aLine_91 (by decide) (by omega) (by omega) (fun c_91 => ?_) (fun c_91 => ?_)
              · exact absurd c_91 (by omega)
              · refine k_bipush Fx dX10_aLine_94 (by decide) ?_
                refine lv_goto (tgt := 111) Fx.1 Fx.2.1 dX10_aLine_96 (by decide) ?_
                refine r_callV (As := [.int (iI (0)), .int (iI (20))]) (rest := []) hE Fx X (c_X10_aNumber hE l (by exact hT) hTB hi (by exact hK) (j := j) (by omega) (by exact h25) (lo := 0) (hi9 := 20) (by omega) (by omega)) cV_X10_181 (recM X) rfl rfl (Nat.le_of_ble_eq_true rfl) (by decide) hl.1 dX10_aLine_111 (fun v9 w9 H locs hq X => ?_)
                rcases hq with ⟨hkn, rfl, f_4, rfl, hK, hN⟩ | ⟨hkn, rfl, f_5, rfl, hw22, hw23, hFT1⟩
                · have hT := TapM_fr (g := (updA (updA g 16 (upd (g 16) (3 * j) (iI (tkT tn tb i)))) 16 (upd ((updA g 16 (upd (g 16) (3 * j) (iI (tkT tn tb i)))) 16) (3 * j + 1) (iI (tkT tn tb (tkN tn tb i) - 300))))) (hN 17 (by omega) (by omega) (by omega) (by omega)) rfl hT
                  have hi := tkN_le (tb := tb) hi
                  have bt_x := tkT_b tn tb (tkN tn tb (tkN tn tb (tkN tn tb i)))
                  have h25 := (hN 25 (by omega) (by omega) (by omega) (by omega)).trans h25
                  have h22 := (hN 22 (by omega) (by omega) (by omega) (by omega)).trans h22
                  have hFT := FrT_tr (FrN_T hN) hFT
                  refine k_bif_ne (tgt := 119) Fx dX10_aLine_114 (by decide) (fun c_114 => ?_) (fun c_114 => ?_)
                  rotate_left
                  · exact absurd trivial c_114
                  refine lv_aload_n Fx.1 Fx.2.1 dX10_aLine_119 rfl (lv_at hl 1 rfl) ?_
                  refine lv_dup Fx.1 Fx.2.1 dX10_aLine_120 rfl ?_
                  refine gM_25 (x := (iI (((j : Nat) : Int)))) Fx X (h25) dX10_aLine_121 ?_
                  refine k_iconst Fx dX10_aLine_124 ?_
                  refine k_iadd Fx dX10_aLine_125 ?_
                  refine pM_25 Fx X dX10_aLine_126 (fun H locs X => ?_)
                  have h25 : (upd f_4 25 (iI ((((j : Nat) : Int) + 1)))) 25 = iI ((j + 1 : Nat) : Int) := rfl
                  have hFT := FrT_u (k := 25) (x := iI (((j : Nat) : Int) + 1)) (by omega) hFT
                  refine lv_aload_n Fx.1 Fx.2.1 dX10_aLine_129 rfl (lv_at hl 1 rfl) ?_
                  refine gM_19 (x := (iI (tkT tn tb (tkN tn tb (tkN tn tb (tkN tn tb i)))))) Fx X (hK.2.1) dX10_aLine_130 ?_
                  refine k_bipush Fx dX10_aLine_133 (by decide) ?_
                  refine k_icmp_eq (a := tkT tn tb (tkN tn tb (tkN tn tb (tkN tn tb i)))) (b := 59) (tgt := 144) Fx dX10_aLine_135 (by decide) (by omega) (by omega) (fun c_135 => ?_) (fun c_135 => ?_)
                  · refine lv_aload_n Fx.1 Fx.2.1 dX10_aLine_144 rfl (lv_at hl 1 rfl) ?_
                    have hi := tkN_le (tb := tb) hi
                    refine r_callV (As := []) (rest := []) hE Fx X (c_X10_next0 hE l (by exact hT) hTB (i := tkN tn tb (tkN tn tb (tkN tn tb (tkN tn tb i)))) hi (by exact hK.1)) cV_X10_174 (recM X) rfl rfl (Nat.le_of_ble_eq_true rfl) (by decide) hl.1 dX10_aLine_145 (fun v9 w9 H locs hq X => ?_)
                    obtain ⟨rfl, f_6, rfl, hK, hN⟩ := hq
                    have hT := TapM_fr (hN 17 (by omega) (by omega) (by omega) (by omega)) rfl hT
                    have bt_x := tkT_b tn tb (tkN tn tb (tkN tn tb (tkN tn tb (tkN tn tb i))))
                    have h25 := (hN 25 (by omega) (by omega) (by omega) (by omega)).trans h25
                    have h22 := (hN 22 (by omega) (by omega) (by omega) (by omega)).trans h22
                    have hFT := FrT_tr (FrN_T hN) hFT
                    refine k_iconst Fx dX10_aLine_148 ?_
                    exact r_zret Fx hr hlk X (by decide) dX10_aLine_149 rfl (Or.inl ⟨lnF_0 (by omega) (by omega) (fun _ => hkk) (fun _ => al_kn (lnK_t (by omega)) hkn (by rw [if_neg (by omega)]) (by rw [if_pos (by omega)])) (by rw [(lnM_f (by omega)).trans (congrArg (tkN tn tb) (lnK_t (by omega)))]; omega), (by rw [bI_t trivial]; rfl), _, _, rfl, (by unfold lnN; rw [(lnM_f (by omega)).trans (congrArg (tkN tn tb) (lnK_t (by omega)))]; exact hK), h25, h22, hFT, fun k hk => ((updA_n hk).trans (updA_n hk)).trans (updA_n hk), ⟨(tb_keep (by omega) (tb_keep (by omega) (by rw [updA_s, upd_s]))), (fun _ => (tb_keep (by omega) (by rw [updA_s, upd_s]))), (fun _ => (by rw [(lnK_t (by omega))]; exact (by rw [updA_s, upd_s])))⟩, fun q hq => (tb_keep (by omega) (tb_keep (by omega) (tb_keep (by omega) rfl)))⟩)
                  · refine lv_aload_n Fx.1 Fx.2.1 dX10_aLine_138 rfl (lv_at hl 1 rfl) ?_
                    refine k_iconst Fx dX10_aLine_139 ?_
                    refine r_callV (As := [.int (iI (1))]) (rest := []) hE Fx X (c_X10_bad hE l (k := 1) (by omega) (hK.2.2.1)) cV_X10_168 (recM X) rfl rfl (Nat.le_of_ble_eq_true rfl) (by decide) hl.1 dX10_aLine_140 (fun v9 w9 H locs hq X => ?_)
                    obtain ⟨rfl, rfl⟩ := hq
                    exact r_zret Fx hr hlk X (by decide) dX10_aLine_143 (bI_nar _) (Or.inr ⟨by rw [(lnF_f (tn := tn) (tb := tb) (i := i) (j := j) (by omega) (by omega) (fun _ => hkk) (fun _ => al_kn (lnK_t (by omega)) hkn (by rw [if_neg (by omega)]) (by rw [if_pos (by omega)])) (by rw [(lnM_f (by omega)).trans (congrArg (tkN tn tb) (lnK_t (by omega)))]; omega)).1]; decide, rfl, _, _, rfl, congrArg iI (lnF_f (tn := tn) (tb := tb) (i := i) (j := j) (by omega) (by omega) (fun _ => hkk) (fun _ => al_kn (lnK_t (by omega)) hkn (by rw [if_neg (by omega)]) (by rw [if_pos (by omega)])) (by rw [(lnM_f (by omega)).trans (congrArg (tkN tn tb) (lnK_t (by omega)))]; omega)).1.symm, congrArg (fun z : Nat => iI z) ((congrArg (tkA tn tb) ((lnM_f (by omega)).trans (congrArg (tkN tn tb) (lnK_t (by omega))))).symm.trans (lnF_f (tn := tn) (tb := tb) (i := i) (j := j) (by omega) (by omega) (fun _ => hkk) (fun _ => al_kn (lnK_t (by omega)) hkn (by rw [if_neg (by omega)]) (by rw [if_pos (by omega)])) (by rw [(lnM_f (by omega)).trans (congrArg (tkN tn tb) (lnK_t (by omega)))]; omega)).2.symm), FrT_u (by omega) (FrT_u (by omega) hFT), fun k hk => ((updA_n hk).trans (updA_n hk)).trans (updA_n hk)⟩)
                · have hFT := FrT_tr hFT1 hFT
                  refine k_bif_ne (tgt := 119) Fx dX10_aLine_114 (by decide) (fun c_114 => ?_) (fun c_114 => ?_)
                  · exact absurd c_114 (fun h => h)
                  refine k_iconst Fx dX10_aLine_117 ?_
                  exact r_zret Fx hr hlk X (by decide) dX10_aLine_118 rfl (al_nf (i := i) (j := j) (by omega) (by omega) (fun _ => hkk) (by omega) (lnK_t (by omega)) hkn (by rw [if_neg (by omega)]) (by rw [if_pos (by omega)]) hw22 hw23 hFT (bI_f (fun h => h)).symm (fun k hk => (updA_n hk).trans (updA_n hk)))
            · exact absurd c_81 (by omega)
        · have hFT := FrT_tr hFT1 hFT
          refine k_bif_ne (tgt := 72) Fx dX10_aLine_67 (by decide) (fun c_67 => ?_) (fun c_67 => ?_)
          · exact absurd c_67 (fun h => h)
          refine k_iconst Fx dX10_aLine_70 ?_
          exact r_zret Fx hr hlk X (by decide) dX10_aLine_71 rfl (Or.inr ⟨by rw [(lnF_c (tn := tn) (tb := tb) (i := i) (j := j) (by omega) (by omega) (by omega) hkk).1]; decide, (by rw [bI_f (fun h => h)]; rfl), _, _, rfl, hw22.trans (congrArg iI (lnF_c (tn := tn) (tb := tb) (i := i) (j := j) (by omega) (by omega) (by omega) hkk).1.symm), hw23.trans (congrArg (fun z : Nat => iI z) (lnF_c (tn := tn) (tb := tb) (i := i) (j := j) (by omega) (by omega) (by omega) hkk).2.symm), hFT, fun k hk => updA_n hk⟩)
      · refine lv_iload_n Fx.1 Fx.2.1 dX10_aLine_57 rfl (lv_at hl 0 rfl) ?_
        refine k_bipush Fx dX10_aLine_58 (by decide) ?_
        refine k_icmp_ne (a := tkT tn tb i) (b := 7) (tgt := 72) Fx dX10_aLine_60 (by decide) (by omega) (by omega) (fun c_60 => ?_) (fun c_60 => ?_)
        · refine lv_iload_n Fx.1 Fx.2.1 dX10_aLine_72 rfl (lv_at hl 0 rfl) ?_
          refine k_bipush Fx dX10_aLine_73 (by decide) ?_
          refine k_icmp_eq (a := tkT tn tb i) (b := 7) (tgt := 119) Fx dX10_aLine_75 (by decide) (by omega) (by omega) (fun c_75 => ?_) (fun c_75 => ?_)
          · exact absurd c_75 (by omega)
          · refine lv_aload_n Fx.1 Fx.2.1 dX10_aLine_78 rfl (lv_at hl 1 rfl) ?_
            refine lv_iload_n Fx.1 Fx.2.1 dX10_aLine_79 rfl (lv_at hl 0 rfl) ?_
            refine k_iconst Fx dX10_aLine_80 ?_
            refine k_icmp_ne (a := tkT tn tb i) (b := 5) (tgt := 88) Fx dX10_aLine_81 (by decide) (by omega) (by omega) (fun c_81 => ?_) (fun c_81 => ?_)
            · refine k_iconst Fx dX10_aLine_88 ?_
              refine lv_iload_n Fx.1 Fx.2.1 dX10_aLine_89 rfl (lv_at hl 0 rfl) ?_
              refine k_iconst Fx dX10_aLine_90 ?_
              refine k_icmp_ne (a := tkT tn tb i) (b := 3) (tgt := 99) Fx dX10_aLine_91 (by decide) (by omega) (by omega) (fun c_91 => ?_) (fun c_91 => ?_)
              · refine lv_iload_n Fx.1 Fx.2.1 dX10_aLine_99 rfl (lv_at hl 0 rfl) ?_
                refine k_iconst Fx dX10_aLine_100 ?_
                refine k_icmp_ne (a := tkT tn tb i) (b := 5) (tgt := 109) Fx dX10_aLine_101 (by decide) (by omega) (by omega) (fun c_101 => ?_) (fun c_101 => ?_)
                · refine k_bipush Fx dX10_aLine_109 (by decide) ?_
                  refine r_callV (As := [.int (iI (0)), .int (iI (9))]) (rest := []) hE Fx X (c_X10_aNumber hE l (by exact hT) hTB hi (by exact hK) (j := j) (by omega) (by exact h25) (lo := 0) (hi9 := 9) (by omega) (by omega)) cV_X10_181 (recM X) rfl rfl (Nat.le_of_ble_eq_true rfl) (by decide) hl.1 dX10_aLine_111 (fun v9 w9 H locs hq X => ?_)
                  rcases hq with ⟨hkn, rfl, f_7, rfl, hK, hN⟩ | ⟨hkn, rfl, f_8, rfl, hw22, hw23, hFT1⟩
                  · have hT := TapM_fr (g := (updA g 16 (upd (g 16) (3 * j) (iI (tkT tn tb i))))) (hN 17 (by omega) (by omega) (by omega) (by omega)) rfl hT
                    have hi := tkN_le (tb := tb) hi
                    have bt_x := tkT_b tn tb (tkN tn tb (tkN tn tb i))
                    have h25 := (hN 25 (by omega) (by omega) (by omega) (by omega)).trans h25
                    have h22 := (hN 22 (by omega) (by omega) (by omega) (by omega)).trans h22
                    have hFT := FrT_tr (FrN_T hN) hFT
                    refine k_bif_ne (tgt := 119) Fx dX10_aLine_114 (by decide) (fun c_114 => ?_) (fun c_114 => ?_)
                    rotate_left
                    · exact absurd trivial c_114
                    refine lv_aload_n Fx.1 Fx.2.1 dX10_aLine_119 rfl (lv_at hl 1 rfl) ?_
                    refine lv_dup Fx.1 Fx.2.1 dX10_aLine_120 rfl ?_
                    refine gM_25 (x := (iI (((j : Nat) : Int)))) Fx X (h25) dX10_aLine_121 ?_
                    refine k_iconst Fx dX10_aLine_124 ?_
                    refine k_iadd Fx dX10_aLine_125 ?_
                    refine pM_25 Fx X dX10_aLine_126 (fun H locs X => ?_)
                    have h25 : (upd f_7 25 (iI ((((j : Nat) : Int) + 1)))) 25 = iI ((j + 1 : Nat) : Int) := rfl
                    have hFT := FrT_u (k := 25) (x := iI (((j : Nat) : Int) + 1)) (by omega) hFT
                    refine lv_aload_n Fx.1 Fx.2.1 dX10_aLine_129 rfl (lv_at hl 1 rfl) ?_
                    refine gM_19 (x := (iI (tkT tn tb (tkN tn tb (tkN tn tb i))))) Fx X (hK.2.1) dX10_aLine_130 ?_
                    refine k_bipush Fx dX10_aLine_133 (by decide) ?_
                    refine k_icmp_eq (a := tkT tn tb (tkN tn tb (tkN tn tb i))) (b := 59) (tgt := 144) Fx dX10_aLine_135 (by decide) (by omega) (by omega) (fun c_135 => ?_) (fun c_135 => ?_)
                    · refine lv_aload_n Fx.1 Fx.2.1 dX10_aLine_144 rfl (lv_at hl 1 rfl) ?_
                      have hi := tkN_le (tb := tb) hi
                      refine r_callV (As := []) (rest := []) hE Fx X (c_X10_next0 hE l (by exact hT) hTB (i := tkN tn tb (tkN tn tb (tkN tn tb i))) hi (by exact hK.1)) cV_X10_174 (recM X) rfl rfl (Nat.le_of_ble_eq_true rfl) (by decide) hl.1 dX10_aLine_145 (fun v9 w9 H locs hq X => ?_)
                      obtain ⟨rfl, f_9, rfl, hK, hN⟩ := hq
                      have hT := TapM_fr (hN 17 (by omega) (by omega) (by omega) (by omega)) rfl hT
                      have bt_x := tkT_b tn tb (tkN tn tb (tkN tn tb (tkN tn tb i)))
                      have h25 := (hN 25 (by omega) (by omega) (by omega) (by omega)).trans h25
                      have h22 := (hN 22 (by omega) (by omega) (by omega) (by omega)).trans h22
                      have hFT := FrT_tr (FrN_T hN) hFT
                      refine k_iconst Fx dX10_aLine_148 ?_
                      exact r_zret Fx hr hlk X (by decide) dX10_aLine_149 rfl (Or.inl ⟨lnF_0 (by omega) (by omega) (fun z => absurd z (by omega)) (fun _ => al_kn (lnK_f (by omega)) hkn (by rw [if_neg (by omega)]) (by rw [if_neg (by omega), if_neg (by omega)])) (by rw [(lnM_f (by omega)).trans (congrArg (tkN tn tb) (lnK_f (by omega)))]; omega), (by rw [bI_t trivial]; rfl), _, _, rfl, (by unfold lnN; rw [(lnM_f (by omega)).trans (congrArg (tkN tn tb) (lnK_f (by omega)))]; exact hK), h25, h22, hFT, fun k hk => (updA_n hk).trans (updA_n hk), ⟨(tb_keep (by omega) (by rw [updA_s, upd_s])), (fun z => absurd z (by omega)), (fun _ => (by rw [(lnK_f (by omega))]; exact (by rw [updA_s, upd_s])))⟩, fun q hq => (tb_keep (by omega) (tb_keep (by omega) rfl))⟩)
                    · refine lv_aload_n Fx.1 Fx.2.1 dX10_aLine_138 rfl (lv_at hl 1 rfl) ?_
                      refine k_iconst Fx dX10_aLine_139 ?_
                      refine r_callV (As := [.int (iI (1))]) (rest := []) hE Fx X (c_X10_bad hE l (k := 1) (by omega) (hK.2.2.1)) cV_X10_168 (recM X) rfl rfl (Nat.le_of_ble_eq_true rfl) (by decide) hl.1 dX10_aLine_140 (fun v9 w9 H locs hq X => ?_)
                      obtain ⟨rfl, rfl⟩ := hq
                      exact r_zret Fx hr hlk X (by decide) dX10_aLine_143 (bI_nar _) (Or.inr ⟨by rw [(lnF_f (tn := tn) (tb := tb) (i := i) (j := j) (by omega) (by omega) (fun z => absurd z (by omega)) (fun _ => al_kn (lnK_f (by omega)) hkn (by rw [if_neg (by omega)]) (by rw [if_neg (by omega), if_neg (by omega)])) (by rw [(lnM_f (by omega)).trans (congrArg (tkN tn tb) (lnK_f (by omega)))]; omega)).1]; decide, rfl, _, _, rfl, congrArg iI (lnF_f (tn := tn) (tb := tb) (i := i) (j := j) (by omega) (by omega) (fun z => absurd z (by omega)) (fun _ => al_kn (lnK_f (by omega)) hkn (by rw [if_neg (by omega)]) (by rw [if_neg (by omega), if_neg (by omega)])) (by rw [(lnM_f (by omega)).trans (congrArg (tkN tn tb) (lnK_f (by omega)))]; omega)).1.symm, congrArg (fun z : Nat => iI z) ((congrArg (tkA tn tb) ((lnM_f (by omega)).trans (congrArg (tkN tn tb) (lnK_f (by omega))))).symm.trans (lnF_f (tn := tn) (tb := tb) (i := i) (j := j) (by omega) (by omega) (fun z => absurd z (by omega)) (fun _ => al_kn (lnK_f (by omega)) hkn (by rw [if_neg (by omega)]) (by rw [if_neg (by omega), if_neg (by omega)])) (by rw [(lnM_f (by omega)).trans (congrArg (tkN tn tb) (lnK_f (by omega)))]; omega)).2.symm), FrT_u (by omega) (FrT_u (by omega) hFT), fun k hk => (updA_n hk).trans (updA_n hk)⟩)
                  · have hFT := FrT_tr hFT1 hFT
                    refine k_bif_ne (tgt := 119) Fx dX10_aLine_114 (by decide) (fun c_114 => ?_) (fun c_114 => ?_)
                    · exact absurd c_114 (fun h => h)
                    refine k_iconst Fx dX10_aLine_117 ?_
                    exact r_zret Fx hr hlk X (by decide) dX10_aLine_118 rfl (al_nf (i := i) (j := j) (by omega) (by omega) (fun z => absurd z (by omega)) (by omega) (lnK_f (by omega)) hkn (by rw [if_neg (by omega)]) (by rw [if_neg (by omega), if_neg (by omega)]) hw22 hw23 hFT (bI_f (fun h => h)).symm (fun k hk => updA_n hk))
                · exact absurd c_101 (by omega)
              · exact absurd c_91 (by omega)
            · refine k_iconst Fx dX10_aLine_84 ?_
              refine lv_goto (tgt := 89) Fx.1 Fx.2.1 dX10_aLine_85 (by decide) ?_
              refine lv_iload_n Fx.1 Fx.2.1 dX10_aLine_89 rfl (lv_at hl 0 rfl) ?_
              refine k_iconst Fx dX10_aLine_90 ?_
              refine k_icmp_ne (a := tkT tn tb i) (b := 3) (tgt := 99) Fx dX10_aLine_91 (by decide) (by omega) (by omega) (fun c_91 => ?_) (fun c_91 => ?_)
              · refine lv_iload_n Fx.1 Fx.2.1 dX10_aLine_99 rfl (lv_at hl 0 rfl) ?_
                refine k_iconst Fx dX10_aLine_100 ?_
                refine k_icmp_ne (a := tkT tn tb i) (b := 5) (tgt := 109) Fx dX10_aLine_101 (by decide) (by omega) (by omega) (fun c_101 => ?_) (fun c_101 => ?_)
                · exact absurd c_101 (by omega)
                · refine k_bipush Fx dX10_aLine_104 (by decide) ?_
                  refine lv_goto (tgt := 111) Fx.1 Fx.2.1 dX10_aLine_106 (by decide) ?_
                  refine r_callV (As := [.int (iI (1)), .int (iI (99))]) (rest := []) hE Fx X (c_X10_aNumber hE l (by exact hT) hTB hi (by exact hK) (j := j) (by omega) (by exact h25) (lo := 1) (hi9 := 99) (by omega) (by omega)) cV_X10_181 (recM X) rfl rfl (Nat.le_of_ble_eq_true rfl) (by decide) hl.1 dX10_aLine_111 (fun v9 w9 H locs hq X => ?_)
                  rcases hq with ⟨hkn, rfl, f_10, rfl, hK, hN⟩ | ⟨hkn, rfl, f_11, rfl, hw22, hw23, hFT1⟩
                  · have hT := TapM_fr (g := (updA g 16 (upd (g 16) (3 * j) (iI (tkT tn tb i))))) (hN 17 (by omega) (by omega) (by omega) (by omega)) rfl hT
                    have hi := tkN_le (tb := tb) hi
                    have bt_x := tkT_b tn tb (tkN tn tb (tkN tn tb i))
                    have h25 := (hN 25 (by omega) (by omega) (by omega) (by omega)).trans h25
                    have h22 := (hN 22 (by omega) (by omega) (by omega) (by omega)).trans h22
                    have hFT := FrT_tr (FrN_T hN) hFT
                    refine k_bif_ne (tgt := 119) Fx dX10_aLine_114 (by decide) (fun c_114 => ?_) (fun c_114 => ?_)
                    rotate_left
                    · exact absurd trivial c_114
                    refine lv_aload_n Fx.1 Fx.2.1 dX10_aLine_119 rfl (lv_at hl 1 rfl) ?_
                    refine lv_dup Fx.1 Fx.2.1 dX10_aLine_120 rfl ?_
                    refine gM_25 (x := (iI (((j : Nat) : Int)))) Fx X (h25) dX10_aLine_121 ?_
                    refine k_iconst Fx dX10_aLine_124 ?_
                    refine k_iadd Fx dX10_aLine_125 ?_
                    refine pM_25 Fx X dX10_aLine_126 (fun H locs X => ?_)
                    have h25 : (upd f_10 25 (iI ((((j : Nat) : Int) + 1)))) 25 = iI ((j + 1 : Nat) : Int) := rfl
                    have hFT := FrT_u (k := 25) (x := iI (((j : Nat) : Int) + 1)) (by omega) hFT
                    refine lv_aload_n Fx.1 Fx.2.1 dX10_aLine_129 rfl (lv_at hl 1 rfl) ?_
                    refine gM_19 (x := (iI (tkT tn tb (tkN tn tb (tkN tn tb i))))) Fx X (hK.2.1) dX10_aLine_130 ?_
                    refine k_bipush Fx dX10_aLine_133 (by decide) ?_
                    refine k_icmp_eq (a := tkT tn tb (tkN tn tb (tkN tn tb i))) (b := 59) (tgt := 144) Fx dX10_aLine_135 (by decide) (by omega) (by omega) (fun c_135 => ?_) (fun c_135 => ?_)
                    · refine lv_aload_n Fx.1 Fx.2.1 dX10_aLine_144 rfl (lv_at hl 1 rfl) ?_
                      have hi := tkN_le (tb := tb) hi
                      refine r_callV (As := []) (rest := []) hE Fx X (c_X10_next0 hE l (by exact hT) hTB (i := tkN tn tb (tkN tn tb (tkN tn tb i))) hi (by exact hK.1)) cV_X10_174 (recM X) rfl rfl (Nat.le_of_ble_eq_true rfl) (by decide) hl.1 dX10_aLine_145 (fun v9 w9 H locs hq X => ?_)
                      obtain ⟨rfl, f_12, rfl, hK, hN⟩ := hq
                      have hT := TapM_fr (hN 17 (by omega) (by omega) (by omega) (by omega)) rfl hT
                      have bt_x := tkT_b tn tb (tkN tn tb (tkN tn tb (tkN tn tb i)))
                      have h25 := (hN 25 (by omega) (by omega) (by omega) (by omega)).trans h25
                      have h22 := (hN 22 (by omega) (by omega) (by omega) (by omega)).trans h22
                      have hFT := FrT_tr (FrN_T hN) hFT
                      refine k_iconst Fx dX10_aLine_148 ?_
                      exact r_zret Fx hr hlk X (by decide) dX10_aLine_149 rfl (Or.inl ⟨lnF_0 (by omega) (by omega) (fun z => absurd z (by omega)) (fun _ => al_kn (lnK_f (by omega)) hkn (by rw [if_pos (by omega)]) (by rw [if_neg (by omega), if_pos (by omega)])) (by rw [(lnM_f (by omega)).trans (congrArg (tkN tn tb) (lnK_f (by omega)))]; omega), (by rw [bI_t trivial]; rfl), _, _, rfl, (by unfold lnN; rw [(lnM_f (by omega)).trans (congrArg (tkN tn tb) (lnK_f (by omega)))]; exact hK), h25, h22, hFT, fun k hk => (updA_n hk).trans (updA_n hk), ⟨(tb_keep (by omega) (by rw [updA_s, upd_s])), (fun z => absurd z (by omega)), (fun _ => (by rw [(lnK_f (by omega))]; exact (by rw [updA_s, upd_s])))⟩, fun q hq => (tb_keep (by omega) (tb_keep (by omega) rfl))⟩)
                    · refine lv_aload_n Fx.1 Fx.2.1 dX10_aLine_138 rfl (lv_at hl 1 rfl) ?_
                      refine k_iconst Fx dX10_aLine_139 ?_
                      refine r_callV (As := [.int (iI (1))]) (rest := []) hE Fx X (c_X10_bad hE l (k := 1) (by omega) (hK.2.2.1)) cV_X10_168 (recM X) rfl rfl (Nat.le_of_ble_eq_true rfl) (by decide) hl.1 dX10_aLine_140 (fun v9 w9 H locs hq X => ?_)
                      obtain ⟨rfl, rfl⟩ := hq
                      exact r_zret Fx hr hlk X (by decide) dX10_aLine_143 (bI_nar _) (Or.inr ⟨by rw [(lnF_f (tn := tn) (tb := tb) (i := i) (j := j) (by omega) (by omega) (fun z => absurd z (by omega)) (fun _ => al_kn (lnK_f (by omega)) hkn (by rw [if_pos (by omega)]) (by rw [if_neg (by omega), if_pos (by omega)])) (by rw [(lnM_f (by omega)).trans (congrArg (tkN tn tb) (lnK_f (by omega)))]; omega)).1]; decide, rfl, _, _, rfl, congrArg iI (lnF_f (tn := tn) (tb := tb) (i := i) (j := j) (by omega) (by omega) (fun z => absurd z (by omega)) (fun _ => al_kn (lnK_f (by omega)) hkn (by rw [if_pos (by omega)]) (by rw [if_neg (by omega), if_pos (by omega)])) (by rw [(lnM_f (by omega)).trans (congrArg (tkN tn tb) (lnK_f (by omega)))]; omega)).1.symm, congrArg (fun z : Nat => iI z) ((congrArg (tkA tn tb) ((lnM_f (by omega)).trans (congrArg (tkN tn tb) (lnK_f (by omega))))).symm.trans (lnF_f (tn := tn) (tb := tb) (i := i) (j := j) (by omega) (by omega) (fun z => absurd z (by omega)) (fun _ => al_kn (lnK_f (by omega)) hkn (by rw [if_pos (by omega)]) (by rw [if_neg (by omega), if_pos (by omega)])) (by rw [(lnM_f (by omega)).trans (congrArg (tkN tn tb) (lnK_f (by omega)))]; omega)).2.symm), FrT_u (by omega) (FrT_u (by omega) hFT), fun k hk => (updA_n hk).trans (updA_n hk)⟩)
                  · have hFT := FrT_tr hFT1 hFT
                    refine k_bif_ne (tgt := 119) Fx dX10_aLine_114 (by decide) (fun c_114 => ?_) (fun c_114 => ?_)
                    · exact absurd c_114 (fun h => h)
                    refine k_iconst Fx dX10_aLine_117 ?_
                    exact r_zret Fx hr hlk X (by decide) dX10_aLine_118 rfl (al_nf (i := i) (j := j) (by omega) (by omega) (fun z => absurd z (by omega)) (by omega) (lnK_f (by omega)) hkn (by rw [if_pos (by omega)]) (by rw [if_neg (by omega), if_pos (by omega)]) hw22 hw23 hFT (bI_f (fun h => h)).symm (fun k hk => updA_n hk))
              · exact absurd c_91 (by omega)
        · refine lv_aload_n Fx.1 Fx.2.1 dX10_aLine_63 rfl (lv_at hl 1 rfl) ?_
          refine r_callV (As := []) (rest := []) hE Fx X (c_X10_aKind hE l (by exact hT) hTB hi (by exact hK) (j := j) (by omega) (by exact h25)) cV_X10_177 (recM X) rfl rfl (Nat.le_of_ble_eq_true rfl) (by decide) hl.1 dX10_aLine_64 (fun v9 w9 H locs hq X => ?_)
          rcases hq with ⟨hkk, rfl, f_13, rfl, hK, hN⟩ | ⟨hkk, rfl, f_14, rfl, hw22, hw23, hFT1⟩
          · have hT := TapM_fr (g := (updA g 16 (upd (g 16) (3 * j) (iI (tkT tn tb i))))) (hN 17 (by omega) (by omega) (by omega) (by omega)) rfl hT
            have hi := tkN_le (tb := tb) hi
            have bt_x := tkT_b tn tb (tkN tn tb (tkN tn tb i))
            have h25 := (hN 25 (by omega) (by omega) (by omega) (by omega)).trans h25
            have h22 := (hN 22 (by omega) (by omega) (by omega) (by omega)).trans h22
            have hFT := FrT_tr (FrN_T hN) hFT
            refine k_bif_ne (tgt := 72) Fx dX10_aLine_67 (by decide) (fun c_67 => ?_) (fun c_67 => ?_)
            rotate_left
            · exact absurd trivial c_67
            refine lv_iload_n Fx.1 Fx.2.1 dX10_aLine_72 rfl (lv_at hl 0 rfl) ?_
            refine k_bipush Fx dX10_aLine_73 (by decide) ?_
            refine k_icmp_eq (a := tkT tn tb i) (b := 7) (tgt := 119) Fx dX10_aLine_75 (by decide) (by omega) (by omega) (fun c_75 => ?_) (fun c_75 => ?_)
            · refine lv_aload_n Fx.1 Fx.2.1 dX10_aLine_119 rfl (lv_at hl 1 rfl) ?_
              refine lv_dup Fx.1 Fx.2.1 dX10_aLine_120 rfl ?_
              refine gM_25 (x := (iI (((j : Nat) : Int)))) Fx X (h25) dX10_aLine_121 ?_
              refine k_iconst Fx dX10_aLine_124 ?_
              refine k_iadd Fx dX10_aLine_125 ?_
              refine pM_25 Fx X dX10_aLine_126 (fun H locs X => ?_)
              have h25 : (upd f_13 25 (iI ((((j : Nat) : Int) + 1)))) 25 = iI ((j + 1 : Nat) : Int) := rfl
              have hFT := FrT_u (k := 25) (x := iI (((j : Nat) : Int) + 1)) (by omega) hFT
              refine lv_aload_n Fx.1 Fx.2.1 dX10_aLine_129 rfl (lv_at hl 1 rfl) ?_
              refine gM_19 (x := (iI (tkT tn tb (tkN tn tb (tkN tn tb i))))) Fx X (hK.2.1) dX10_aLine_130 ?_
              refine k_bipush Fx dX10_aLine_133 (by decide) ?_
              refine k_icmp_eq (a := tkT tn tb (tkN tn tb (tkN tn tb i))) (b := 59) (tgt := 144) Fx dX10_aLine_135 (by decide) (by omega) (by omega) (fun c_135 => ?_) (fun c_135 => ?_)
              · refine lv_aload_n Fx.1 Fx.2.1 dX10_aLine_144 rfl (lv_at hl 1 rfl) ?_
                have hi := tkN_le (tb := tb) hi
                refine r_callV (As := []) (rest := []) hE Fx X (c_X10_next0 hE l (by exact hT) hTB (i := tkN tn tb (tkN tn tb (tkN tn tb i))) hi (by exact hK.1)) cV_X10_174 (recM X) rfl rfl (Nat.le_of_ble_eq_true rfl) (by decide) hl.1 dX10_aLine_145 (fun v9 w9 H locs hq X => ?_)
                obtain ⟨rfl, f_15, rfl, hK, hN⟩ := hq
                have hT := TapM_fr (hN 17 (by omega) (by omega) (by omega) (by omega)) rfl hT
                have bt_x := tkT_b tn tb (tkN tn tb (tkN tn tb (tkN tn tb i)))
                have h25 := (hN 25 (by omega) (by omega) (by omega) (by omega)).trans h25
                have h22 := (hN 22 (by omega) (by omega) (by omega) (by omega)).trans h22
                have hFT := FrT_tr (FrN_T hN) hFT
                refine k_iconst Fx dX10_aLine_148 ?_
                exact r_zret Fx hr hlk X (by decide) dX10_aLine_149 rfl (Or.inl ⟨lnF_0 (by omega) (by omega) (fun _ => hkk) (fun z => absurd (show _ from c_75) z) (by rw [(lnM_t (by omega)).trans (lnK_t (by omega))]; omega), (by rw [bI_t trivial]; rfl), _, _, rfl, (by unfold lnN; rw [(lnM_t (by omega)).trans (lnK_t (by omega))]; exact hK), h25, h22, hFT, fun k hk => (updA_n hk).trans (updA_n hk), ⟨(tb_keep (by omega) (by rw [updA_s, upd_s])), (fun _ => (by rw [updA_s, upd_s])), (fun z => absurd c_75 z)⟩, fun q hq => (tb_keep (by omega) (tb_keep (by omega) rfl))⟩)
              · refine lv_aload_n Fx.1 Fx.2.1 dX10_aLine_138 rfl (lv_at hl 1 rfl) ?_
                refine k_iconst Fx dX10_aLine_139 ?_
                refine r_callV (As := [.int (iI (1))]) (rest := []) hE Fx X (c_X10_bad hE l (k := 1) (by omega) (hK.2.2.1)) cV_X10_168 (recM X) rfl rfl (Nat.le_of_ble_eq_true rfl) (by decide) hl.1 dX10_aLine_140 (fun v9 w9 H locs hq X => ?_)
                obtain ⟨rfl, rfl⟩ := hq
                exact r_zret Fx hr hlk X (by decide) dX10_aLine_143 (bI_nar _) (Or.inr ⟨by rw [(lnF_f (tn := tn) (tb := tb) (i := i) (j := j) (by omega) (by omega) (fun _ => hkk) (fun z => absurd (show _ from c_75) z) (by rw [(lnM_t (by omega)).trans (lnK_t (by omega))]; omega)).1]; decide, rfl, _, _, rfl, congrArg iI (lnF_f (tn := tn) (tb := tb) (i := i) (j := j) (by omega) (by omega) (fun _ => hkk) (fun z => absurd (show _ from c_75) z) (by rw [(lnM_t (by omega)).trans (lnK_t (by omega))]; omega)).1.symm, congrArg (fun z : Nat => iI z) ((congrArg (tkA tn tb) ((lnM_t (by omega)).trans (lnK_t (by omega)))).symm.trans (lnF_f (tn := tn) (tb := tb) (i := i) (j := j) (by omega) (by omega) (fun _ => hkk) (fun z => absurd (show _ from c_75) z) (by rw [(lnM_t (by omega)).trans (lnK_t (by omega))]; omega)).2.symm), FrT_u (by omega) (FrT_u (by omega) hFT), fun k hk => (updA_n hk).trans (updA_n hk)⟩)
            · exact absurd c_75 (by omega)
          · have hFT := FrT_tr hFT1 hFT
            refine k_bif_ne (tgt := 72) Fx dX10_aLine_67 (by decide) (fun c_67 => ?_) (fun c_67 => ?_)
            · exact absurd c_67 (fun h => h)
            refine k_iconst Fx dX10_aLine_70 ?_
            exact r_zret Fx hr hlk X (by decide) dX10_aLine_71 rfl (Or.inr ⟨by rw [(lnF_c (tn := tn) (tb := tb) (i := i) (j := j) (by omega) (by omega) (by omega) hkk).1]; decide, (by rw [bI_f (fun h => h)]; rfl), _, _, rfl, hw22.trans (congrArg iI (lnF_c (tn := tn) (tb := tb) (i := i) (j := j) (by omega) (by omega) (by omega) hkk).1.symm), hw23.trans (congrArg (fun z : Nat => iI z) (lnF_c (tn := tn) (tb := tb) (i := i) (j := j) (by omega) (by omega) (by omega) hkk).2.symm), hFT, fun k hk => updA_n hk⟩)
    · refine lv_aload_n Fx.1 Fx.2.1 dX10_aLine_30 rfl (lv_at hl 1 rfl) ?_
      refine k_iconst Fx dX10_aLine_31 ?_
      refine r_callV (As := [.int (iI (3))]) (rest := []) hE Fx X (c_X10_bad hE l (k := 3) (by omega) (hK.2.2.1)) cV_X10_168 (recM X) rfl rfl (Nat.le_of_ble_eq_true rfl) (by decide) hl.1 dX10_aLine_32 (fun v9 w9 H locs hq X => ?_)
      obtain ⟨rfl, rfl⟩ := hq
      exact r_zret Fx hr hlk X (by decide) dX10_aLine_35 (bI_nar _) (Or.inr ⟨by rw [(lnF_b (by omega) (by omega)).1]; decide, rfl, _, _, rfl, congrArg iI (lnF_b (by omega) (by omega)).1.symm, congrArg (fun z : Nat => iI z) (lnF_b (by omega) (by omega)).2.symm, FrT_u (by omega) (FrT_u (by omega) hFT), fun _ _ => rfl⟩)
  · refine lv_aload_n Fx.1 Fx.2.1 dX10_aLine_15 rfl (lv_at hl 1 rfl) ?_
    refine k_iconst Fx dX10_aLine_16 ?_
    refine r_callV (As := [.int (iI (1))]) (rest := []) hE Fx X (c_X10_bad hE l (k := 1) (by omega) (hK.2.2.1)) cV_X10_168 (recM X) rfl rfl (Nat.le_of_ble_eq_true rfl) (by decide) hl.1 dX10_aLine_17 (fun v9 w9 H locs hq X => ?_)
    obtain ⟨rfl, rfl⟩ := hq
    exact r_zret Fx hr hlk X (by decide) dX10_aLine_20 (bI_nar _) (Or.inr ⟨by rw [(lnF_a (by omega)).1]; decide, rfl, _, _, rfl, congrArg iI (lnF_a (by omega)).1.symm, congrArg (fun z : Nat => iI z) (lnF_a (j := j) (by omega)).2.symm, FrT_u (by omega) (FrT_u (by omega) hFT), fun _ _ => rfl⟩)

