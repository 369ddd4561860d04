abbrev rm_X10_spells_ : Room := ({ frames := 5, cells := 0, slots := 0, locals := 120 } : Room)
set_option maxHeartbeats 4000000 in
set_option maxRecDepth 100000 in
theorem c_X10_spells_ {E : XX} (hE : XS E) (l : Launch) {Γ : GG} {ad : Nat → Nat} {f : Nat → Int32} {g : Nat → Nat → Int32} {n : Nat} {S : Nat → Nat → Nat} (hS : SayM n S f g) (hB : SayB n S) {wt : Nat → Nat} {nw : Nat → Prop} {th ho be : Nat} (hL : LawM wt nw th ho be f g) (hLB : LawB wt th ho be) {mn : Nat} {M : Nat → Nat → Nat} (hM : MowM mn M f g) (hMB : MowB mn M) {pn : Nat} {P : Nat → Nat → Nat} (hP : ProM pn P f g) (hPB : ProB pn P) {z u : Int} (hz : -2147483648 ≤ z ∧ z < 2147483648) (hu : -2147483648 ≤ u ∧ u < 2147483648) : Con E l yX10_spells_ cX10_spells_ 3 (some .int) rm_X10_spells_ Γ (wM Γ ad f g) [.ref (ad 0), .int (iI (z)), .int (iI (u))] (fun v w2 => ∃ f1 g1, v = some (.int (iI (aSpe n S wt nw th be ho mn M pn P z u))) ∧ w2 = wM Γ ad f1 g1 ∧ (∀ k, k ≠ 39 → k ≠ 40 → f1 k = f k) ∧ (∀ k, k ≠ 27 → k ≠ 28 → k ≠ 36 → k ≠ 37 → k ≠ 38 → g1 k = g k)) := by
  refine Con_mk (by decide) (Nat.le_of_ble_eq_true rfl) ?_
  intro p e s₀ m args below meth c A Fx hr hlk hnm X ls hl
  have hl : lv_has ls 3 [(0, .ref (ad 0)), (1, .int (iI (z))), (2, .int (iI (u)))] := hl
  refine lv_iload_n Fx.1 Fx.2.1 dX10_spells__0 rfl (lv_at hl 1 rfl) ?_
  refine r_callSi (As := [.int (iI (z))]) (rest := []) hE Fx X (c_X10_isStation hE l (v := z) (by omega)) cS_X10_94 rfl rfl (Nat.le_of_ble_eq_true rfl) (by decide) hl.1 dX10_spells__1 (fun H locs X => ?_)
  refine k_bif_eq (tgt := 16) Fx dX10_spells__4 (by decide) (fun c_4 => ?_) (fun c_4 => ?_)
  · refine k_iconst Fx dX10_spells__16 ?_
    exact r_iret Fx hr hlk X (by decide) dX10_spells__17 (⟨_, _, by unfold aSpe; rw [if_neg (by omega)], rfl, fun _ _ _ => rfl, fun _ _ _ _ _ _ => rfl⟩)
  · refine lv_iload_n Fx.1 Fx.2.1 dX10_spells__7 rfl (lv_at hl 2 rfl) ?_
    refine k_iconst Fx dX10_spells__8 ?_
    refine k_iconst Fx dX10_spells__9 ?_
    refine r_callSi (As := [.int (iI (u)), .int (iI (0)), .int (iI (2))]) (rest := []) hE Fx X (c_X10_isIn hE l (v := u) (a := 0) (b := 2) (by omega) (by omega) (by omega)) cS_X10_90 rfl rfl (Nat.le_of_ble_eq_true rfl) (by decide) hl.1 dX10_spells__10 (fun H locs X => ?_)
    refine k_bif_ne (tgt := 18) Fx dX10_spells__13 (by decide) (fun c_13 => ?_) (fun c_13 => ?_)
    · have hl := lv_rp hl 1 rfl (show (iI (z)) = (iI (((z.toNat : Nat) : Int))) from congrArg iI (by omega))
      refine lv_aload_n Fx.1 Fx.2.1 dX10_spells__18 rfl (lv_at hl 0 rfl) ?_
      refine lv_iload_n Fx.1 Fx.2.1 dX10_spells__19 rfl (lv_at hl 1 rfl) ?_
      refine r_callV (As := [.int (iI (((z.toNat : Nat) : Int)))]) (rest := []) hE Fx X (c_X10_spells hE l hS hB hL hLB hM hMB hP hPB (s := z.toNat) (by omega)) cV_X10_237 (recM X) rfl rfl (Nat.le_of_ble_eq_true rfl) (by decide) hl.1 dX10_spells__20 (fun v9 w9 H locs hq X => ?_)
      obtain ⟨rfl, f_1, g_2, rfl, hSp, hF9, hG9⟩ := hq
      refine lv_iload_n Fx.1 Fx.2.1 dX10_spells__23 rfl (lv_at hl 2 rfl) ?_
      refine k_iconst Fx dX10_spells__24 ?_
      refine k_icmp_ne (a := u) (b := 2) (tgt := 35) Fx dX10_spells__25 (by decide) (by omega) (by omega) (fun c_25 => ?_) (fun c_25 => ?_)
      · refine lv_aload_n Fx.1 Fx.2.1 dX10_spells__35 rfl (lv_at hl 0 rfl) ?_
        refine gM_36 Fx X dX10_spells__36 ?_
        refine lv_iload_n Fx.1 Fx.2.1 dX10_spells__39 rfl (lv_at hl 2 rfl) ?_
        refine ldM_36 (z := u) (i := u.toNat) (x := (iI (((aMy (spB M mn P pn z.toNat ((aPp n S wt nw th be z.toNat : Nat) : Int)) ho (u.toNat) 1000 : Nat) : Int)))) Fx X (by omega) (by omega) (hSp.2.2.1 (u.toNat) (by omega) |>.trans (congrArg (fun k9 : Nat => iI (aMy (spB M mn P pn z.toNat ((aPp n S wt nw th be z.toNat : Nat) : Int)) ho (u.toNat) k9 : Nat)) (by unfold kyT; split <;> rfl))) dX10_spells__40 ?_
        exact r_iret Fx hr hlk X (by decide) dX10_spells__41 (⟨_, _, by unfold aSpe; rw [if_pos (by omega), if_neg (by omega)]; rfl, rfl, hF9, hG9⟩)
      · refine lv_aload_n Fx.1 Fx.2.1 dX10_spells__28 rfl (lv_at hl 0 rfl) ?_
        refine gM_40 (x := (iI ((aTL (spF M mn z.toNat) (spB M mn P pn z.toNat ((aPp n S wt nw th be z.toNat : Nat) : Int)) ho ((aPp n S wt nw th be z.toNat : Nat) : Int) 2000).2))) Fx X (hSp.2.1) dX10_spells__29 ?_
        refine lv_goto (tgt := 41) Fx.1 Fx.2.1 dX10_spells__32 (by decide) ?_
        exact r_iret Fx hr hlk X (by decide) dX10_spells__41 (⟨_, _, by unfold aSpe; rw [if_pos (by omega), if_pos (by omega)]; rfl, rfl, hF9, hG9⟩)
    · refine k_iconst Fx dX10_spells__16 ?_
      exact r_iret Fx hr hlk X (by decide) dX10_spells__17 (⟨_, _, by unfold aSpe; rw [if_neg (by omega)], rfl, fun _ _ _ => rfl, fun _ _ _ _ _ _ => rfl⟩)

abbrev rm_X10_line : Room := ({ frames := 5, cells := 0, slots := 0, locals := 120 } : Room)
set_option maxHeartbeats 4000000 in
set_option maxRecDepth 100000 in
theorem c_X10_line {E : XX} (hE : XS E) (l : Launch) {Γ : GG} {ad : Nat → Nat} {f : Nat → Int32} {g : Nat → Nat → Int32} {n : Nat} {S : Nat → Nat → Nat} (hS : SayM n S f g) (hB : SayB n S) {wt : Nat → Nat} {nw : Nat → Prop} {th ho be : Nat} (hL : LawM wt nw th ho be f g) (hLB : LawB wt th ho be) {mn : Nat} {M : Nat → Nat → Nat} (hM : MowM mn M f g) (hMB : MowB mn M) {pn : Nat} {P : Nat → Nat → Nat} (hP : ProM pn P f g) (hPB : ProB pn P) {z : Int} (hz : -2147483648 ≤ z ∧ z < 2147483648) : Con E l yX10_line cX10_line 2 (some .int) rm_X10_line Γ (wM Γ ad f g) [.ref (ad 0), .int (iI (z))] (fun v w2 => ∃ f1 g1, v = some (.int (iI (aLin n S wt nw th be ho mn M pn P z))) ∧ w2 = wM Γ ad f1 g1 ∧ (∀ k, k ≠ 39 → k ≠ 40 → f1 k = f k) ∧ (∀ k, k ≠ 27 → k ≠ 28 → k ≠ 36 → k ≠ 37 → k ≠ 38 → g1 k = g k)) := by
  refine Con_mk (by decide) (Nat.le_of_ble_eq_true rfl) ?_
  intro p e s₀ m args below meth c A Fx hr hlk hnm X ls hl
  have hl : lv_has ls 2 [(0, .ref (ad 0)), (1, .int (iI (z)))] := hl
  refine lv_iload_n Fx.1 Fx.2.1 dX10_line_0 rfl (lv_at hl 1 rfl) ?_
  refine r_callSi (As := [.int (iI (z))]) (rest := []) hE Fx X (c_X10_isStation hE l (v := z) (by omega)) cS_X10_94 rfl rfl (Nat.le_of_ble_eq_true rfl) (by decide) hl.1 dX10_line_1 (fun H locs X => ?_)
  refine k_bif_ne (tgt := 9) Fx dX10_line_4 (by decide) (fun c_4 => ?_) (fun c_4 => ?_)
  · have hl := lv_rp hl 1 rfl (show (iI (z)) = (iI (((z.toNat : Nat) : Int))) from congrArg iI (by omega))
    refine lv_aload_n Fx.1 Fx.2.1 dX10_line_9 rfl (lv_at hl 0 rfl) ?_
    refine lv_iload_n Fx.1 Fx.2.1 dX10_line_10 rfl (lv_at hl 1 rfl) ?_
    refine r_callV (As := [.int (iI (((z.toNat : Nat) : Int)))]) (rest := []) hE Fx X (c_X10_spells hE l hS hB hL hLB hM hMB hP hPB (s := z.toNat) (by omega)) cV_X10_237 (recM X) rfl rfl (Nat.le_of_ble_eq_true rfl) (by decide) hl.1 dX10_line_11 (fun v9 w9 H locs hq X => ?_)
    obtain ⟨rfl, f_1, g_2, rfl, hSp, hF9, hG9⟩ := hq
    refine lv_aload_n Fx.1 Fx.2.1 dX10_line_14 rfl (lv_at hl 0 rfl) ?_
    refine gM_39 (x := (iI ((aTL (spF M mn z.toNat) (spB M mn P pn z.toNat ((aPp n S wt nw th be z.toNat : Nat) : Int)) ho ((aPp n S wt nw th be z.toNat : Nat) : Int) 2000).1))) Fx X (hSp.1) dX10_line_15 ?_
    exact r_iret Fx hr hlk X (by decide) dX10_line_18 (⟨_, _, by unfold aLin; rw [if_pos (by omega)]; rfl, rfl, hF9, hG9⟩)
  · refine k_iconst Fx dX10_line_7 ?_
    exact r_iret Fx hr hlk X (by decide) dX10_line_8 (⟨_, _, by unfold aLin; rw [if_neg (by omega)], rfl, fun _ _ _ => rfl, fun _ _ _ _ _ _ => rfl⟩)

