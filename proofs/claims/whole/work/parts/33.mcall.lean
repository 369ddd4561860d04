abbrev rm_X10_paper : Room := ({ frames := 4, cells := 0, slots := 0, locals := 97 } : Room)
set_option maxHeartbeats 4000000 in
set_option maxRecDepth 100000 in
theorem c_X10_paper {E : XX} (hE : XS E) (l : Launch) {Γ : GG} {ad : Nat → Nat} {f : Nat → Int32} {g : Nat → Nat → Int32} {n : Nat} {S : Nat → Nat → Nat} (hS : SayM n S f g) (hB : SayB n S) {wt : Nat → Nat} {nw : Nat → Prop} {th ho be : Nat} (hL : LawM wt nw th ho be f g) (hLB : LawB wt th ho be) {z : Int} (hz : -2147483648 ≤ z ∧ z < 2147483648) : Con E l yX10_paper cX10_paper 2 (some .int) rm_X10_paper Γ (wM Γ ad f g) [.ref (ad 0), .int (iI (z))] (fun v w2 => ∃ g1, v = some (.int (iI (aPaper n S wt nw th be z))) ∧ w2 = wM Γ ad f g1 ∧ (∀ k, k ≠ 27 → k ≠ 28 → g1 k = g k)) := by
  refine Con_mk (by decide) (Nat.le_of_ble_eq_true rfl) ?_
  intro p e s₀ m args below meth c A Fx hr hlk hnm X ls hl
  have hl : lv_has ls 2 [(0, .ref (ad 0)), (1, .int (iI (z)))] := hl
  refine lv_iload_n Fx.1 Fx.2.1 dX10_paper_0 rfl (lv_at hl 1 rfl) ?_
  refine k_iconst Fx dX10_paper_1 ?_
  refine k_bipush Fx dX10_paper_2 (by decide) ?_
  refine r_callSi (As := [.int (iI (z)), .int (iI ((-1))), .int (iI (9))]) (rest := []) hE Fx X (c_X10_isIn hE l (v := z) (a := (-1)) (b := 9) (by omega) (by omega) (by omega)) cS_X10_90 rfl rfl (Nat.le_of_ble_eq_true rfl) (by decide) hl.1 dX10_paper_4 (fun H locs X => ?_)
  refine k_bif_ne (tgt := 13) Fx dX10_paper_7 (by decide) (fun c_7 => ?_) (fun c_7 => ?_)
  · refine lv_aload_n Fx.1 Fx.2.1 dX10_paper_13 rfl (lv_at hl 0 rfl) ?_
    refine r_callV (As := []) (rest := []) hE Fx X (c_X10_lines hE l hS hB hL hLB) cV_X10_216 (recM X) rfl rfl (Nat.le_of_ble_eq_true rfl) (by decide) hl.1 dX10_paper_14 (fun v9 w9 H locs hq X => ?_)
    obtain ⟨rfl, g_1, rfl, hF, hC, hPp⟩ := hq
    have hS := SayM_fr hF hS
    have hL := LawM_fr hF hL
    refine lv_iload_n Fx.1 Fx.2.1 dX10_paper_17 rfl (lv_at hl 1 rfl) ?_
    refine k_iconst Fx dX10_paper_18 ?_
    refine k_icmp_ne (a := z) (b := (-1)) (tgt := 36) Fx dX10_paper_19 (by decide) (by omega) (by omega) (fun c_19 => ?_) (fun c_19 => ?_)
    · refine lv_aload_n Fx.1 Fx.2.1 dX10_paper_36 rfl (lv_at hl 0 rfl) ?_
      refine gM_28 Fx X dX10_paper_37 ?_
      refine lv_iload_n Fx.1 Fx.2.1 dX10_paper_40 rfl (lv_at hl 1 rfl) ?_
      refine ldM_28 (z := z) (i := z.toNat) (x := (iI (((aPp n S wt nw th be z.toNat : Nat) : Int)))) Fx X (by omega) (by omega) (hPp z.toNat (by omega)) dX10_paper_41 ?_
      exact r_iret Fx hr hlk X (by decide) dX10_paper_42 (⟨_, by unfold aPaper; rw [if_neg (by omega), if_pos (by omega)], rfl, hF⟩)
    · refine lv_aload_n Fx.1 Fx.2.1 dX10_paper_22 rfl (lv_at hl 0 rfl) ?_
      refine gM_27 Fx X dX10_paper_23 ?_
      refine lv_aload_n Fx.1 Fx.2.1 dX10_paper_26 rfl (lv_at hl 0 rfl) ?_
      refine gM_28 Fx X dX10_paper_27 ?_
      refine k_iconst Fx dX10_paper_30 ?_
      refine ldM_28 (z := 0) (i := 0) (x := (iI (((aPp n S wt nw th be 0 : Nat) : Int)))) Fx X (rfl) (by omega) (hPp 0 (by omega)) dX10_paper_31 ?_
      have b0 := aPp_lt n S wt nw th be 0
      refine ldM_27 (z := ((aPp n S wt nw th be 0 : Nat) : Int)) (i := (aPp n S wt nw th be 0)) (x := (iI (((aOn n S wt nw th be 0 (aPp n S wt nw th be 0) : Nat) : Int)))) Fx X (rfl) (by omega) (by have := hC 0 (aPp n S wt nw th be 0) (by omega) (by omega); simpa using this) dX10_paper_32 ?_
      refine lv_goto (tgt := 42) Fx.1 Fx.2.1 dX10_paper_33 (by decide) ?_
      exact r_iret Fx hr hlk X (by decide) dX10_paper_42 (⟨_, by unfold aPaper; rw [if_pos (by omega)], rfl, hF⟩)
  · refine k_bipush Fx dX10_paper_10 (by decide) ?_
    exact r_iret Fx hr hlk X (by decide) dX10_paper_12 (⟨_, by unfold aPaper; rw [if_neg (by omega), if_neg (by omega)], rfl, fun _ _ _ => rfl⟩)

abbrev rm_X10_straight : Room := ({ frames := 3, cells := 0, slots := 0, locals := 72 } : Room)
set_option maxHeartbeats 4000000 in
set_option maxRecDepth 100000 in
theorem c_X10_straight {E : XX} (hE : XS E) (l : Launch) {Γ : GG} {ad : Nat → Nat} {f : Nat → Int32} {g : Nat → Nat → Int32} {n : Nat} {S : Nat → Nat → Nat} (hS : SayM n S f g) (hB : SayB n S) {wt : Nat → Nat} {nw : Nat → Prop} {th ho be : Nat} (hL : LawM wt nw th ho be f g) (hLB : LawB wt th ho be) {z : Int} (hz : -2147483648 ≤ z ∧ z < 2147483648) : Con E l yX10_straight cX10_straight 4 (some .int) rm_X10_straight Γ (wM Γ ad f g) [.ref (ad 0), .int (iI (z))] (Qi (iI (aStr n S wt nw th z)) (wM Γ ad f g)) := by
  refine Con_mk (by decide) (Nat.le_of_ble_eq_true rfl) ?_
  intro p e s₀ m args below meth c A Fx hr hlk hnm X ls hl
  have hl : lv_has ls 4 [(0, .ref (ad 0)), (1, .int (iI (z)))] := hl
  refine lv_iload_n Fx.1 Fx.2.1 dX10_straight_0 rfl (lv_at hl 1 rfl) ?_
  refine r_callSi (As := [.int (iI (z))]) (rest := []) hE Fx X (c_X10_isFoot hE l (v := z) (by omega)) cS_X10_102 rfl rfl (Nat.le_of_ble_eq_true rfl) (by decide) hl.1 dX10_straight_1 (fun H locs X => ?_)
  refine k_bif_ne (tgt := 9) Fx dX10_straight_4 (by decide) (fun c_4 => ?_) (fun c_4 => ?_)
  · have hl := lv_rp hl 1 rfl (show (iI (z)) = (iI (((z.toNat : Nat) : Int))) from congrArg iI (by omega))
    refine k_iconst Fx dX10_straight_9 ?_
    refine lv_istore_n (lv' := [(2, .int (iI (0))), (0, .ref (ad 0)), (1, .int (iI (((z.toNat : Nat) : Int))))]) Fx.1 Fx.2.1 dX10_straight_10 rfl hl (by decide) rfl (fun ls hl => ?_)
    refine k_iconst Fx dX10_straight_11 ?_
    refine lv_istore_n (lv' := [(3, .int (iI (0))), (2, .int (iI (0))), (0, .ref (ad 0)), (1, .int (iI (((z.toNat : Nat) : Int))))]) Fx.1 Fx.2.1 dX10_straight_12 rfl hl (by decide) rfl (fun ls hl => ?_)
    have lp_13 : ∀ (nn : Nat) (j : Nat), 10 - j < nn → (j ≤ 10) → ∀ (H : Heap) (locs : List Loc) (ls : Array Slot), Wd E Γ A s₀ H locs (wM Γ ad f g) → lv_has ls 4 [(0, .ref (ad 0)), (1, .int (iI (((z.toNat : Nat) : Int)))), (2, .int (iI (((aSm n S wt nw th z.toNat j : Nat) : Int)))), (3, .int (iI (((j : Nat) : Int))))] → W p l e rm_X10_straight s₀ m args below meth c H locs (0) (0) (RQ below args s₀ Γ A (Qi (iI (aStr n S wt nw th z)) (wM Γ ad f g)) rm_X10_straight) (F0 m 13 ls []) := by
      intro nn
      induction nn with
      | zero => intro j hmu; exact absurd hmu (Nat.not_lt_zero _)
      | succ nn ih =>
        intro j hmu hj H locs ls X hl
        have ih_13 := ih
        refine lv_iload_n Fx.1 Fx.2.1 dX10_straight_13 rfl (lv_at hl 3 rfl) ?_
        refine k_bipush Fx dX10_straight_14 (by decide) ?_
        refine k_icmp_ge (a := ((j : Nat) : Int)) (b := 10) (tgt := 34) Fx dX10_straight_16 (by decide) (by omega) (by omega) (fun c_16 => ?_) (fun c_16 => ?_)
        · refine lv_iload_n Fx.1 Fx.2.1 dX10_straight_34 rfl (lv_at hl 2 rfl) ?_
          exact r_iret Fx hr hlk X (by decide) dX10_straight_35 (Qi_mk (congrArg iI (by unfold aStr; rw [if_pos (by omega), show j = 10 by omega])))
        · refine lv_iload_n Fx.1 Fx.2.1 dX10_straight_19 rfl (lv_at hl 2 rfl) ?_
          refine lv_aload_n Fx.1 Fx.2.1 dX10_straight_20 rfl (lv_at hl 0 rfl) ?_
          refine lv_iload_n Fx.1 Fx.2.1 dX10_straight_21 rfl (lv_at hl 3 rfl) ?_
          refine lv_iload_n Fx.1 Fx.2.1 dX10_straight_22 rfl (lv_at hl 1 rfl) ?_
          refine r_callVi (As := [.int (iI (((j : Nat) : Int))), .int (iI (((z.toNat : Nat) : Int)))]) (rest := [.int (iI (((aSm n S wt nw th z.toNat j : Nat) : Int)))]) hE Fx X (c_X10_costAt hE l hS hB hL hLB (q := j) (t := z.toNat) (by omega) (by omega)) cV_X10_210 (recM X) rfl rfl (Nat.le_of_ble_eq_true rfl) (by decide) hl.1 dX10_straight_23 (fun H locs X => ?_)
          refine k_iadd Fx dX10_straight_26 ?_
          refine lv_istore_n (lv' := [(2, .int (iI ((((aSm n S wt nw th z.toNat j : Nat) : Int) + ((aCa n S wt nw th j z.toNat n : Nat) : Int))))), (0, .ref (ad 0)), (1, .int (iI (((z.toNat : Nat) : Int)))), (3, .int (iI (((j : Nat) : Int))))]) Fx.1 Fx.2.1 dX10_straight_27 rfl hl (by decide) rfl (fun ls hl => ?_)
          refine k_iinc (k := 3) (a := ((j : Nat) : Int)) (lv' := [(3, .int (iI ((((j : Nat) : Int) + 1)))), (2, .int (iI ((((aSm n S wt nw th z.toNat j : Nat) : Int) + ((aCa n S wt nw th j z.toNat n : Nat) : Int))))), (0, .ref (ad 0)), (1, .int (iI (((z.toNat : Nat) : Int))))]) Fx dX10_straight_28 hl rfl (by decide) rfl (fun ls hl => ?_)
          refine lv_goto (tgt := 13) Fx.1 Fx.2.1 dX10_straight_31 (by decide) ?_
          have hl_1 := lv_rp hl 1 rfl (show (iI ((((aSm n S wt nw th z.toNat j : Nat) : Int) + ((aCa n S wt nw th j z.toNat n : Nat) : Int)))) = (iI (((aSm n S wt nw th z.toNat (j + 1) : Nat) : Int))) from congrArg iI (Int.natCast_add _ _).symm)
          have hl_2 := lv_rp hl_1 0 rfl (show (iI ((((j : Nat) : Int) + 1))) = (iI ((((j + 1) : Nat) : Int))) from congrArg iI (by omega))
          exact ih_13 (j + 1) (by omega) (by omega) _ _ _ X (lv_sub hl_2 [2, 3, 1, 0] rfl)
    have hl_3 := lv_rp hl 1 rfl (show (iI (0)) = (iI (((aSm n S wt nw th z.toNat 0 : Nat) : Int))) from rfl)
    have hl_4 := lv_rp hl_3 0 rfl (show (iI (0)) = (iI (((0 : Nat) : Int))) from congrArg iI (by omega))
    exact lp_13 _ (0) (Nat.lt_succ_self _) (by omega) _ _ _ X (lv_sub hl_4 [2, 3, 1, 0] rfl)
  · refine k_iconst Fx dX10_straight_7 ?_
    exact r_iret Fx hr hlk X (by decide) dX10_straight_8 (Qi_mk (congrArg iI (by unfold aStr; rw [if_neg (by omega)])))

abbrev rm_X10_said : Room := ({ frames := 2, cells := 0, slots := 0, locals := 46 } : Room)
set_option maxHeartbeats 4000000 in
set_option maxRecDepth 100000 in
theorem c_X10_said {E : XX} (hE : XS E) (l : Launch) {Γ : GG} {ad : Nat → Nat} {f : Nat → Int32} {g : Nat → Nat → Int32} {n : Nat} {S : Nat → Nat → Nat} (hS : SayM n S f g) (hB : SayB n S) {wt : Nat → Nat} {nw : Nat → Prop} {th ho be : Nat} (hL : LawM wt nw th ho be f g) (hLB : LawB wt th ho be) {z u : Int} (hz : -2147483648 ≤ z ∧ z < 2147483648) (hu : -2147483648 ≤ u ∧ u < 2147483648) : Con E l yX10_said cX10_said 5 (some .int) rm_X10_said Γ (wM Γ ad f g) [.ref (ad 0), .int (iI (z)), .int (iI (u))] (Qi (aSaid n S nw th z u) (wM Γ ad f g)) := by
  refine Con_mk (by decide) (Nat.le_of_ble_eq_true rfl) ?_
  intro p e s₀ m args below meth c A Fx hr hlk hnm X ls hl
  have hl : lv_has ls 5 [(0, .ref (ad 0)), (1, .int (iI (z))), (2, .int (iI (u)))] := hl
  have hB1 := hB.1
  refine lv_iload_n Fx.1 Fx.2.1 dX10_said_0 rfl (lv_at hl 1 rfl) ?_
  refine k_iconst Fx dX10_said_1 ?_
  refine lv_aload_n Fx.1 Fx.2.1 dX10_said_2 rfl (lv_at hl 0 rfl) ?_
  refine gM_0 (x := (iI (((n : Nat) : Int)))) Fx X (hS.1) dX10_said_3 ?_
  refine k_iconst Fx dX10_said_6 ?_
  refine k_isub Fx dX10_said_7 ?_
  refine r_callSi (As := [.int (iI (z)), .int (iI (0)), .int (iI ((((n : Nat) : Int) - 1)))]) (rest := []) hE Fx X (c_X10_isIn hE l (v := z) (a := 0) (b := (((n : Nat) : Int) - 1)) (by omega) (by omega) (by omega)) cS_X10_90 rfl rfl (Nat.le_of_ble_eq_true rfl) (by decide) hl.1 dX10_said_8 (fun H locs X => ?_)
  refine k_bif_ne (tgt := 16) Fx dX10_said_11 (by decide) (fun c_11 => ?_) (fun c_11 => ?_)
  · have hl := lv_rp hl 1 rfl (show (iI (z)) = (iI (((z.toNat : Nat) : Int))) from congrArg iI (by omega))
    have hB2 := hB.2 z.toNat
    refine k_iconst Fx dX10_said_16 ?_
    refine lv_istore_n (lv' := [(3, .int (iI (0))), (0, .ref (ad 0)), (1, .int (iI (((z.toNat : Nat) : Int)))), (2, .int (iI (u)))]) Fx.1 Fx.2.1 dX10_said_17 rfl hl (by decide) rfl (fun ls hl => ?_)
    refine lv_iload_n Fx.1 Fx.2.1 dX10_said_18 rfl (lv_at hl 3 rfl) ?_
    by_cases c_19_0 : u = 0
    · refine k_tableIn (a := u) (tgt := 52) Fx dX10_said_19 (by omega) (by omega) (by omega) (by rw [c_19_0]; rfl) (by decide) ?_
      refine lv_aload_n Fx.1 Fx.2.1 dX10_said_52 rfl (lv_at hl 1 rfl) ?_
      refine gM_3 Fx X dX10_said_53 ?_
      refine lv_iload_n Fx.1 Fx.2.1 dX10_said_56 rfl (lv_at hl 2 rfl) ?_
      refine ldM_3 (z := ((z.toNat : Nat) : Int)) (i := (z.toNat)) (x := (iI (((S 0 ((z.toNat)) : Nat) : Int)))) Fx X (rfl) (by omega) (hS.2.1 ((z.toNat))) dX10_said_57 ?_
      have b3_x := hB.2 ((z.toNat))
      exact r_iret Fx hr hlk X (by decide) dX10_said_58 (Qi_mk (by unfold aSaid; rw [if_pos (by omega), if_pos (by omega)]))
    by_cases c_19_1 : u = 1
    · refine k_tableIn (a := u) (tgt := 59) Fx dX10_said_19 (by omega) (by omega) (by omega) (by rw [c_19_1]; rfl) (by decide) ?_
      refine lv_aload_n Fx.1 Fx.2.1 dX10_said_59 rfl (lv_at hl 1 rfl) ?_
      refine lv_iload_n Fx.1 Fx.2.1 dX10_said_60 rfl (lv_at hl 2 rfl) ?_
      refine lv_aload_n Fx.1 Fx.2.1 dX10_said_61 rfl (lv_at hl 1 rfl) ?_
      refine gM_6 Fx X dX10_said_62 ?_
      refine lv_iload_n Fx.1 Fx.2.1 dX10_said_65 rfl (lv_at hl 2 rfl) ?_
      refine ldM_6 (z := ((z.toNat : Nat) : Int)) (i := (z.toNat)) (x := (iI (((S 3 ((z.toNat)) : Nat) : Int)))) Fx X (rfl) (by omega) (hS.2.2.2.2.1 ((z.toNat))) dX10_said_66 ?_
      have b6_x := hB.2 ((z.toNat))
      refine r_callVi (As := [.int (iI (((z.toNat : Nat) : Int))), .int (iI (((S 3 ((z.toNat)) : Nat) : Int)))]) (rest := []) hE Fx X (c_X10_moved hE l hS hB hL hLB (i := z.toNat) (t := S 3 ((z.toNat))) (by omega) (by omega)) cV_X10_200 (recM X) rfl rfl (Nat.le_of_ble_eq_true rfl) (by decide) hl.1 dX10_said_67 (fun H locs X => ?_)
      exact r_iret Fx hr hlk X (by decide) dX10_said_70 (Qi_mk (by unfold aSaid; rw [if_pos (by omega), if_neg (by omega), if_pos (by omega)]))
    by_cases c_19_2 : u = 2
    · refine k_tableIn (a := u) (tgt := 71) Fx dX10_said_19 (by omega) (by omega) (by omega) (by rw [c_19_2]; rfl) (by decide) ?_
      refine lv_aload_n Fx.1 Fx.2.1 dX10_said_71 rfl (lv_at hl 1 rfl) ?_
      refine lv_iload_n Fx.1 Fx.2.1 dX10_said_72 rfl (lv_at hl 2 rfl) ?_
      refine lv_aload_n Fx.1 Fx.2.1 dX10_said_73 rfl (lv_at hl 1 rfl) ?_
      refine gM_7 Fx X dX10_said_74 ?_
      refine lv_iload_n Fx.1 Fx.2.1 dX10_said_77 rfl (lv_at hl 2 rfl) ?_
      refine ldM_7 (z := ((z.toNat : Nat) : Int)) (i := (z.toNat)) (x := (iI (((S 4 ((z.toNat)) : Nat) : Int)))) Fx X (rfl) (by omega) (hS.2.2.2.2.2.1 ((z.toNat))) dX10_said_78 ?_
      have b7_x := hB.2 ((z.toNat))
      refine r_callVi (As := [.int (iI (((z.toNat : Nat) : Int))), .int (iI (((S 4 ((z.toNat)) : Nat) : Int)))]) (rest := []) hE Fx X (c_X10_moved hE l hS hB hL hLB (i := z.toNat) (t := S 4 ((z.toNat))) (by omega) (by omega)) cV_X10_200 (recM X) rfl rfl (Nat.le_of_ble_eq_true rfl) (by decide) hl.1 dX10_said_79 (fun H locs X => ?_)
      exact r_iret Fx hr hlk X (by decide) dX10_said_82 (Qi_mk (by unfold aSaid; rw [if_pos (by omega), if_neg (by omega), if_neg (by omega), if_pos (by omega)]))
    by_cases c_19_3 : u = 3
    · refine k_tableIn (a := u) (tgt := 83) Fx dX10_said_19 (by omega) (by omega) (by omega) (by rw [c_19_3]; rfl) (by decide) ?_
      refine lv_aload_n Fx.1 Fx.2.1 dX10_said_83 rfl (lv_at hl 1 rfl) ?_
      refine gM_8 Fx X dX10_said_84 ?_
      refine lv_iload_n Fx.1 Fx.2.1 dX10_said_87 rfl (lv_at hl 2 rfl) ?_
      refine ldM_8 (z := ((z.toNat : Nat) : Int)) (i := (z.toNat)) (x := (iI (((S 5 ((z.toNat)) : Nat) : Int)))) Fx X (rfl) (by omega) (hS.2.2.2.2.2.2.1 ((z.toNat))) dX10_said_88 ?_
      have b8_x := hB.2 ((z.toNat))
      exact r_iret Fx hr hlk X (by decide) dX10_said_89 (Qi_mk (by unfold aSaid; rw [if_pos (by omega), if_neg (by omega), if_neg (by omega), if_neg (by omega), if_pos (by omega)]))
    by_cases c_19_4 : u = 4
    · refine k_tableIn (a := u) (tgt := 90) Fx dX10_said_19 (by omega) (by omega) (by omega) (by rw [c_19_4]; rfl) (by decide) ?_
      refine k_iconst Fx dX10_said_90 ?_
      refine lv_istore (lv' := [(4, .int (iI (0))), (3, .int (iI (0))), (0, .ref (ad 0)), (1, .int (iI (((z.toNat : Nat) : Int)))), (2, .int (iI (u)))]) Fx.1 Fx.2.1 dX10_said_91 hl (by decide) rfl (fun ls hl => ?_)
      have lp_93 : ∀ (nn : Nat) (j : Nat), 10 - j < nn → (j ≤ 10) → ∀ (H : Heap) (locs : List Loc) (ls : Array Slot), Wd E Γ A s₀ H locs (wM Γ ad f g) → lv_has ls 5 [(0, .ref (ad 0)), (1, .int (iI (((z.toNat : Nat) : Int)))), (2, .int (iI (u))), (3, .int (aSet n S nw z.toNat j)), (4, .int (iI (((j : Nat) : Int))))] → W p l e rm_X10_said s₀ m args below meth c H locs (0) (0) (RQ below args s₀ Γ A (Qi (aSaid n S nw th z u) (wM Γ ad f g)) rm_X10_said) (F0 m 93 ls []) := by
        intro nn
        induction nn with
        | zero => intro j hmu; exact absurd hmu (Nat.not_lt_zero _)
        | succ nn ih =>
          intro j hmu hj H locs ls X hl
          have ih_93 := ih
          refine lv_iload Fx.1 Fx.2.1 dX10_said_93 (lv_at hl 4 rfl) ?_
          refine k_bipush Fx dX10_said_95 (by decide) ?_
          refine k_icmp_ge (a := ((j : Nat) : Int)) (b := 10) (tgt := 127) Fx dX10_said_97 (by decide) (by omega) (by omega) (fun c_97 => ?_) (fun c_97 => ?_)
          · refine lv_iload_n Fx.1 Fx.2.1 dX10_said_127 rfl (lv_at hl 3 rfl) ?_
            exact r_iret Fx hr hlk X (by decide) dX10_said_128 (Qi_mk (by unfold aSaid; rw [if_pos (by omega), if_neg (by omega), if_neg (by omega), if_neg (by omega), if_neg (by omega), if_pos (by omega), show j = 10 by omega]))
          · refine lv_iload_n Fx.1 Fx.2.1 dX10_said_100 rfl (lv_at hl 3 rfl) ?_
            refine lv_aload_n Fx.1 Fx.2.1 dX10_said_101 rfl (lv_at hl 0 rfl) ?_
            refine lv_iload_n Fx.1 Fx.2.1 dX10_said_102 rfl (lv_at hl 1 rfl) ?_
            refine lv_iload Fx.1 Fx.2.1 dX10_said_103 (lv_at hl 4 rfl) ?_
            refine r_callVi (As := [.int (iI (((z.toNat : Nat) : Int))), .int (iI (((j : Nat) : Int)))]) (rest := [.int (aSet n S nw z.toNat j)]) hE Fx X (c_X10_counts hE l hS hB hL hLB (i := z.toNat) (t := j) (by omega) (by omega)) cV_X10_204 (recM X) rfl rfl (Nat.le_of_ble_eq_true rfl) (by decide) hl.1 dX10_said_105 (fun H locs X => ?_)
            refine k_bif_eq (tgt := 118) Fx dX10_said_108 (by decide) (fun c_108 => ?_) (fun c_108 => ?_)
            · refine k_iconst Fx dX10_said_118 ?_
              refine lv_ior Fx.1 Fx.2.1 dX10_said_119 ?_
              refine lv_istore_n (lv' := [(3, .int ((aSet n S nw z.toNat j) ||| (iI (0)))), (0, .ref (ad 0)), (1, .int (iI (((z.toNat : Nat) : Int)))), (2, .int (iI (u))), (4, .int (iI (((j : Nat) : Int))))]) Fx.1 Fx.2.1 dX10_said_120 rfl hl (by decide) rfl (fun ls hl => ?_)
              refine k_iinc (k := 4) (a := ((j : Nat) : Int)) (lv' := [(4, .int (iI ((((j : Nat) : Int) + 1)))), (3, .int ((aSet n S nw z.toNat j) ||| (iI (0)))), (0, .ref (ad 0)), (1, .int (iI (((z.toNat : Nat) : Int)))), (2, .int (iI (u)))]) Fx dX10_said_121 hl rfl (by decide) rfl (fun ls hl => ?_)
              refine lv_goto (tgt := 93) Fx.1 Fx.2.1 dX10_said_124 (by decide) ?_
              have hl_1 := lv_rp hl 1 rfl (show ((aSet n S nw z.toNat j) ||| (iI (0))) = (aSet n S nw z.toNat (j + 1)) from set_f c_108)
              have hl_2 := lv_rp hl_1 0 rfl (show (iI ((((j : Nat) : Int) + 1))) = (iI ((((j + 1) : Nat) : Int))) from congrArg iI (by omega))
              exact ih_93 (j + 1) (by omega) (by omega) _ _ _ X (lv_sub hl_2 [2, 3, 4, 1, 0] rfl)
            · refine k_iconst Fx dX10_said_111 ?_
              refine lv_iload Fx.1 Fx.2.1 dX10_said_112 (lv_at hl 4 rfl) ?_
              refine lv_ishl Fx.1 Fx.2.1 dX10_said_114 ?_
              refine lv_goto (tgt := 119) Fx.1 Fx.2.1 dX10_said_115 (by decide) ?_
              refine lv_ior Fx.1 Fx.2.1 dX10_said_119 ?_
              refine lv_istore_n (lv' := [(3, .int ((aSet n S nw z.toNat j) ||| ((iI (1)) <<< ((iI (((j : Nat) : Int))) &&& 31)))), (0, .ref (ad 0)), (1, .int (iI (((z.toNat : Nat) : Int)))), (2, .int (iI (u))), (4, .int (iI (((j : Nat) : Int))))]) Fx.1 Fx.2.1 dX10_said_120 rfl hl (by decide) rfl (fun ls hl => ?_)
              refine k_iinc (k := 4) (a := ((j : Nat) : Int)) (lv' := [(4, .int (iI ((((j : Nat) : Int) + 1)))), (3, .int ((aSet n S nw z.toNat j) ||| ((iI (1)) <<< ((iI (((j : Nat) : Int))) &&& 31)))), (0, .ref (ad 0)), (1, .int (iI (((z.toNat : Nat) : Int)))), (2, .int (iI (u)))]) Fx dX10_said_121 hl rfl (by decide) rfl (fun ls hl => ?_)
              refine lv_goto (tgt := 93) Fx.1 Fx.2.1 dX10_said_124 (by decide) ?_
              have hl_3 := lv_rp hl 1 rfl (show ((aSet n S nw z.toNat j) ||| ((iI (1)) <<< ((iI (((j : Nat) : Int))) &&& 31))) = (aSet n S nw z.toNat (j + 1)) from set_t c_108)
              have hl_4 := lv_rp hl_3 0 rfl (show (iI ((((j : Nat) : Int) + 1))) = (iI ((((j + 1) : Nat) : Int))) from congrArg iI (by omega))
              exact ih_93 (j + 1) (by omega) (by omega) _ _ _ X (lv_sub hl_4 [2, 3, 4, 1, 0] rfl)
      have hl_5 := lv_rp hl 1 rfl (show (iI (0)) = (aSet n S nw z.toNat 0) from rfl)
      have hl_6 := lv_rp hl_5 0 rfl (show (iI (0)) = (iI (((0 : Nat) : Int))) from congrArg iI (by omega))
      exact lp_93 _ (0) (Nat.lt_succ_self _) (by omega) _ _ _ X (lv_sub hl_6 [2, 3, 4, 1, 0] rfl)
    refine k_tableOut (a := u) (tgt := 129) Fx dX10_said_19 (by omega) (by omega) (by decide) ?_
    refine k_iconst Fx dX10_said_129 ?_
    exact r_iret Fx hr hlk X (by decide) dX10_said_130 (Qi_mk (by unfold aSaid; rw [if_pos (by omega), if_neg (by omega), if_neg (by omega), if_neg (by omega), if_neg (by omega), if_neg (by omega)]))
  · refine k_iconst Fx dX10_said_14 ?_
    exact r_iret Fx hr hlk X (by decide) dX10_said_15 (Qi_mk (by unfold aSaid; rw [if_neg (by omega)]))

abbrev rm_X10_say : Room := ({ frames := 3, cells := 0, slots := 0, locals := 63 } : Room)
set_option maxHeartbeats 4000000 in
set_option maxRecDepth 100000 in
theorem c_X10_say {E : XX} (hE : XS E) (l : Launch) {Γ : GG} {ad : Nat → Nat} {f : Nat → Int32} {g : Nat → Nat → Int32} {n : Nat} {S : Nat → Nat → Nat} (hS : SayM n S f g) (hB : SayB n S) {k a b lo hi y d : Int} (hk : -2147483648 ≤ k ∧ k < 2147483648) (ha : -2147483648 ≤ a ∧ a < 2147483648) (hb : -2147483648 ≤ b ∧ b < 2147483648) (hlo : -2147483648 ≤ lo ∧ lo < 2147483648) (hhi : -2147483648 ≤ hi ∧ hi < 2147483648) (hy : -2147483648 ≤ y ∧ y < 2147483648) (hd : -2147483648 ≤ d ∧ d < 2147483648) : Con E l yX10_say cX10_say 8 (some .int) rm_X10_say Γ (wM Γ ad f g) [.ref (ad 0), .int (iI (k)), .int (iI (a)), .int (iI (b)), .int (iI (lo)), .int (iI (hi)), .int (iI (y)), .int (iI (d))] (fun v w2 => ((aOk k a b lo hi y d ∧ n < 12) ∧ v = some (.int (iI (n : Nat))) ∧ ∃ f1 g1, w2 = wM Γ ad f1 g1 ∧ SayM (n + 1) (sPut S n k a b lo hi y d) f1 g1 ∧ (∀ j, j ≠ 0 → f1 j = f j) ∧ (∀ j, (j < 3 ∨ 9 < j) → g1 j = g j)) ∨ (¬ (aOk k a b lo hi y d ∧ n < 12) ∧ v = some (.int (iI (-1))) ∧ w2 = wM Γ ad f g)) := by
  refine Con_mk (by decide) (Nat.le_of_ble_eq_true rfl) ?_
  intro p e s₀ m args below meth c A Fx hr hlk hnm X ls hl
  have hl : lv_has ls 8 [(0, .ref (ad 0)), (1, .int (iI (k))), (2, .int (iI (a))), (3, .int (iI (b))), (4, .int (iI (lo))), (5, .int (iI (hi))), (6, .int (iI (y))), (7, .int (iI (d)))] := hl
  have hB1 := hB.1
  refine lv_iload_n Fx.1 Fx.2.1 dX10_say_0 rfl (lv_at hl 1 rfl) ?_
  refine k_iconst Fx dX10_say_1 ?_
  refine k_iconst Fx dX10_say_2 ?_
  refine r_callSi (As := [.int (iI (k)), .int (iI (0)), .int (iI (5))]) (rest := []) hE Fx X (c_X10_isIn hE l (v := k) (a := 0) (b := 5) (by omega) (by omega) (by omega)) cS_X10_90 rfl rfl (Nat.le_of_ble_eq_true rfl) (by decide) hl.1 dX10_say_3 (fun H locs X => ?_)
  refine k_bif_eq (tgt := 67) Fx dX10_say_6 (by decide) (fun c_6 => ?_) (fun c_6 => ?_)
  · refine k_iconst Fx dX10_say_67 ?_
    exact r_iret Fx hr hlk X (by decide) dX10_say_68 (Or.inr ⟨by unfold aOk; omega, rfl, rfl⟩)
  · refine lv_iload_n Fx.1 Fx.2.1 dX10_say_9 rfl (lv_at hl 2 rfl) ?_
    refine lv_iload_n Fx.1 Fx.2.1 dX10_say_10 rfl (lv_at hl 3 rfl) ?_
    refine r_callSi (As := [.int (iI (a)), .int (iI (b))]) (rest := []) hE Fx X (c_X10_isSpan hE l (a := a) (b := b) (by omega) (by omega)) cS_X10_98 rfl rfl (Nat.le_of_ble_eq_true rfl) (by decide) hl.1 dX10_say_11 (fun H locs X => ?_)
    refine k_bif_eq (tgt := 67) Fx dX10_say_14 (by decide) (fun c_14 => ?_) (fun c_14 => ?_)
    · refine k_iconst Fx dX10_say_67 ?_
      exact r_iret Fx hr hlk X (by decide) dX10_say_68 (Or.inr ⟨by unfold aOk; omega, rfl, rfl⟩)
    · refine lv_iload Fx.1 Fx.2.1 dX10_say_17 (lv_at hl 4 rfl) ?_
      refine r_callSi (As := [.int (iI (lo))]) (rest := []) hE Fx X (c_X10_isFoot hE l (v := lo) (by omega)) cS_X10_102 rfl rfl (Nat.le_of_ble_eq_true rfl) (by decide) hl.1 dX10_say_19 (fun H locs X => ?_)
      refine k_bif_eq (tgt := 67) Fx dX10_say_22 (by decide) (fun c_22 => ?_) (fun c_22 => ?_)
      · refine k_iconst Fx dX10_say_67 ?_
        exact r_iret Fx hr hlk X (by decide) dX10_say_68 (Or.inr ⟨by unfold aOk; omega, rfl, rfl⟩)
      · refine lv_iload Fx.1 Fx.2.1 dX10_say_25 (lv_at hl 5 rfl) ?_
        refine r_callSi (As := [.int (iI (hi))]) (rest := []) hE Fx X (c_X10_isFoot hE l (v := hi) (by omega)) cS_X10_102 rfl rfl (Nat.le_of_ble_eq_true rfl) (by decide) hl.1 dX10_say_27 (fun H locs X => ?_)
        refine k_bif_eq (tgt := 67) Fx dX10_say_30 (by decide) (fun c_30 => ?_) (fun c_30 => ?_)
        · refine k_iconst Fx dX10_say_67 ?_
          exact r_iret Fx hr hlk X (by decide) dX10_say_68 (Or.inr ⟨by unfold aOk; omega, rfl, rfl⟩)
        · refine lv_iload Fx.1 Fx.2.1 dX10_say_33 (lv_at hl 4 rfl) ?_
          refine lv_iload Fx.1 Fx.2.1 dX10_say_35 (lv_at hl 5 rfl) ?_
          refine k_icmp_gt (a := lo) (b := hi) (tgt := 67) Fx dX10_say_37 (by decide) (by omega) (by omega) (fun c_37 => ?_) (fun c_37 => ?_)
          · refine k_iconst Fx dX10_say_67 ?_
            exact r_iret Fx hr hlk X (by decide) dX10_say_68 (Or.inr ⟨by unfold aOk; omega, rfl, rfl⟩)
          · refine lv_iload Fx.1 Fx.2.1 dX10_say_40 (lv_at hl 6 rfl) ?_
            refine r_callSi (As := [.int (iI (y))]) (rest := []) hE Fx X (c_X10_isYear hE l (v := y) (by omega)) cS_X10_105 rfl rfl (Nat.le_of_ble_eq_true rfl) (by decide) hl.1 dX10_say_42 (fun H locs X => ?_)
            refine k_bif_eq (tgt := 67) Fx dX10_say_45 (by decide) (fun c_45 => ?_) (fun c_45 => ?_)
            · refine k_iconst Fx dX10_say_67 ?_
              exact r_iret Fx hr hlk X (by decide) dX10_say_68 (Or.inr ⟨by unfold aOk; omega, rfl, rfl⟩)
            · refine lv_iload Fx.1 Fx.2.1 dX10_say_48 (lv_at hl 7 rfl) ?_
              refine k_iconst Fx dX10_say_50 ?_
              refine k_iconst Fx dX10_say_51 ?_
              refine r_callSi (As := [.int (iI (d)), .int (iI (0)), .int (iI (1))]) (rest := []) hE Fx X (c_X10_isIn hE l (v := d) (a := 0) (b := 1) (by omega) (by omega) (by omega)) cS_X10_90 rfl rfl (Nat.le_of_ble_eq_true rfl) (by decide) hl.1 dX10_say_52 (fun H locs X => ?_)
              refine k_bif_eq (tgt := 67) Fx dX10_say_55 (by decide) (fun c_55 => ?_) (fun c_55 => ?_)
              · refine k_iconst Fx dX10_say_67 ?_
                exact r_iret Fx hr hlk X (by decide) dX10_say_68 (Or.inr ⟨by unfold aOk; omega, rfl, rfl⟩)
              · refine lv_aload_n Fx.1 Fx.2.1 dX10_say_58 rfl (lv_at hl 0 rfl) ?_
                refine gM_0 (x := (iI (((n : Nat) : Int)))) Fx X (hS.1) dX10_say_59 ?_
                refine k_bipush Fx dX10_say_62 (by decide) ?_
                refine k_icmp_ne (a := ((n : Nat) : Int)) (b := 12) (tgt := 69) Fx dX10_say_64 (by decide) (by omega) (by omega) (fun c_64 => ?_) (fun c_64 => ?_)
                · refine lv_aload_n Fx.1 Fx.2.1 dX10_say_69 rfl (lv_at hl 0 rfl) ?_
                  refine gM_3 Fx X dX10_say_70 ?_
                  refine lv_aload_n Fx.1 Fx.2.1 dX10_say_73 rfl (lv_at hl 0 rfl) ?_
                  refine gM_0 (x := (iI (((n : Nat) : Int)))) Fx X (hS.1) dX10_say_74 ?_
                  refine lv_iload_n Fx.1 Fx.2.1 dX10_say_77 rfl (lv_at hl 1 rfl) ?_
                  refine stM_3 (z := ((n : Nat) : Int)) (i := n) Fx X (rfl) (by omega) dX10_say_78 (fun H locs X => ?_)
                  refine lv_aload_n Fx.1 Fx.2.1 dX10_say_79 rfl (lv_at hl 0 rfl) ?_
                  refine gM_4 Fx X dX10_say_80 ?_
                  refine lv_aload_n Fx.1 Fx.2.1 dX10_say_83 rfl (lv_at hl 0 rfl) ?_
                  refine gM_0 (x := (iI (((n : Nat) : Int)))) Fx X (hS.1) dX10_say_84 ?_
                  refine lv_iload_n Fx.1 Fx.2.1 dX10_say_87 rfl (lv_at hl 2 rfl) ?_
                  refine stM_4 (z := ((n : Nat) : Int)) (i := n) Fx X (rfl) (by omega) dX10_say_88 (fun H locs X => ?_)
                  refine lv_aload_n Fx.1 Fx.2.1 dX10_say_89 rfl (lv_at hl 0 rfl) ?_
                  refine gM_5 Fx X dX10_say_90 ?_
                  refine lv_aload_n Fx.1 Fx.2.1 dX10_say_93 rfl (lv_at hl 0 rfl) ?_
                  refine gM_0 (x := (iI (((n : Nat) : Int)))) Fx X (hS.1) dX10_say_94 ?_
                  refine lv_iload_n Fx.1 Fx.2.1 dX10_say_97 rfl (lv_at hl 3 rfl) ?_
                  refine stM_5 (z := ((n : Nat) : Int)) (i := n) Fx X (rfl) (by omega) dX10_say_98 (fun H locs X => ?_)
                  refine lv_aload_n Fx.1 Fx.2.1 dX10_say_99 rfl (lv_at hl 0 rfl) ?_
                  refine gM_6 Fx X dX10_say_100 ?_
                  refine lv_aload_n Fx.1 Fx.2.1 dX10_say_103 rfl (lv_at hl 0 rfl) ?_
                  refine gM_0 (x := (iI (((n : Nat) : Int)))) Fx X (hS.1) dX10_say_104 ?_
                  refine lv_iload Fx.1 Fx.2.1 dX10_say_107 (lv_at hl 4 rfl) ?_
                  refine stM_6 (z := ((n : Nat) : Int)) (i := n) Fx X (rfl) (by omega) dX10_say_109 (fun H locs X => ?_)
                  refine lv_aload_n Fx.1 Fx.2.1 dX10_say_110 rfl (lv_at hl 0 rfl) ?_
                  refine gM_7 Fx X dX10_say_111 ?_
                  refine lv_aload_n Fx.1 Fx.2.1 dX10_say_114 rfl (lv_at hl 0 rfl) ?_
                  refine gM_0 (x := (iI (((n : Nat) : Int)))) Fx X (hS.1) dX10_say_115 ?_
                  refine lv_iload Fx.1 Fx.2.1 dX10_say_118 (lv_at hl 5 rfl) ?_
                  refine stM_7 (z := ((n : Nat) : Int)) (i := n) Fx X (rfl) (by omega) dX10_say_120 (fun H locs X => ?_)
                  refine lv_aload_n Fx.1 Fx.2.1 dX10_say_121 rfl (lv_at hl 0 rfl) ?_
                  refine gM_8 Fx X dX10_say_122 ?_
                  refine lv_aload_n Fx.1 Fx.2.1 dX10_say_125 rfl (lv_at hl 0 rfl) ?_
                  refine gM_0 (x := (iI (((n : Nat) : Int)))) Fx X (hS.1) dX10_say_126 ?_
                  refine lv_iload Fx.1 Fx.2.1 dX10_say_129 (lv_at hl 6 rfl) ?_
                  refine stM_8 (z := ((n : Nat) : Int)) (i := n) Fx X (rfl) (by omega) dX10_say_131 (fun H locs X => ?_)
                  refine lv_aload_n Fx.1 Fx.2.1 dX10_say_132 rfl (lv_at hl 0 rfl) ?_
                  refine gM_9 Fx X dX10_say_133 ?_
                  refine lv_aload_n Fx.1 Fx.2.1 dX10_say_136 rfl (lv_at hl 0 rfl) ?_
                  refine gM_0 (x := (iI (((n : Nat) : Int)))) Fx X (hS.1) dX10_say_137 ?_
                  refine lv_iload Fx.1 Fx.2.1 dX10_say_140 (lv_at hl 7 rfl) ?_
                  refine stM_9 (z := ((n : Nat) : Int)) (i := n) Fx X (rfl) (by omega) dX10_say_142 (fun H locs X => ?_)
                  refine lv_aload_n Fx.1 Fx.2.1 dX10_say_143 rfl (lv_at hl 0 rfl) ?_
                  refine lv_dup Fx.1 Fx.2.1 dX10_say_144 rfl ?_
                  refine gM_0 (x := (iI (((n : Nat) : Int)))) Fx X (hS.1) dX10_say_145 ?_
                  refine k_iconst Fx dX10_say_148 ?_
                  refine k_iadd Fx dX10_say_149 ?_
                  refine pM_0 Fx X dX10_say_150 (fun H locs X => ?_)
                  refine lv_aload_n Fx.1 Fx.2.1 dX10_say_153 rfl (lv_at hl 0 rfl) ?_
                  refine gM_0 (x := (iI ((((n : Nat) : Int) + 1)))) Fx X (rfl) dX10_say_154 ?_
                  refine k_iconst Fx dX10_say_157 ?_
                  refine k_isub Fx dX10_say_158 ?_
                  exact r_iret Fx hr hlk X (by decide) dX10_say_159 (Or.inl ⟨⟨by unfold aOk; omega, by omega⟩, congrArg (fun z9 : Int => some (Value.int (iI z9))) (by omega), _, _, rfl, ⟨congrArg iI (by omega), row_put (hS.2.1) (by omega) (fun i => rfl), row_put (hS.2.2.1) (by omega) (fun i => rfl), row_put (hS.2.2.2.1) (by omega) (fun i => rfl), row_put (hS.2.2.2.2.1) (by omega) (fun i => rfl), row_put (hS.2.2.2.2.2.1) (by omega) (fun i => rfl), row_put (hS.2.2.2.2.2.2.1) (by omega) (fun i => rfl), row_put (hS.2.2.2.2.2.2.2) (by omega) (fun i => rfl)⟩, fun j hj => upd_n hj, fun j h1 => ((((((((updA_n (by omega)).trans (updA_n (by omega))).trans (updA_n (by omega))).trans (updA_n (by omega))).trans (updA_n (by omega))).trans (updA_n (by omega))).trans (updA_n (by omega))))⟩)
                · refine k_iconst Fx dX10_say_67 ?_
                  exact r_iret Fx hr hlk X (by decide) dX10_say_68 (Or.inr ⟨by unfold aOk; omega, rfl, rfl⟩)

abbrev rm_X10_end : Room := ({ frames := 1, cells := 0, slots := 0, locals := 22 } : Room)
set_option maxHeartbeats 4000000 in
set_option maxRecDepth 100000 in
theorem c_X10_end {E : XX} (hE : XS E) (l : Launch) {Γ : GG} {ad : Nat → Nat} {f : Nat → Int32} {g : Nat → Nat → Int32} {tn : Nat} (hT : f 17 = iI tn) (hT2 : tn ≤ 400) {z : Int} (hz : -2147483648 ≤ z ∧ z < 2147483648) : Con E l yX10_end cX10_end 2 (some .boolean) rm_X10_end Γ (wM Γ ad f g) [.ref (ad 0), .int (iI (z))] (fun v w2 => ((0 ≤ z ∧ z ≤ tn) ∧ v = some (.int (bI True)) ∧ w2 = wM Γ ad (upd f 17 (iI z)) g) ∨ (¬ (0 ≤ z ∧ z ≤ tn) ∧ v = some (.int (bI False)) ∧ w2 = wM Γ ad f g)) := by
  refine Con_mk (by decide) (Nat.le_of_ble_eq_true rfl) ?_
  intro p e s₀ m args below meth c A Fx hr hlk hnm X ls hl
  have hl : lv_has ls 2 [(0, .ref (ad 0)), (1, .int (iI (z)))] := hl
  refine lv_iload_n Fx.1 Fx.2.1 dX10_end_0 rfl (lv_at hl 1 rfl) ?_
  refine k_iconst Fx dX10_end_1 ?_
  refine lv_aload_n Fx.1 Fx.2.1 dX10_end_2 rfl (lv_at hl 0 rfl) ?_
  refine gM_17 (x := (iI (((tn : Nat) : Int)))) Fx X (hT) dX10_end_3 ?_
  refine r_callSi (As := [.int (iI (z)), .int (iI (0)), .int (iI (((tn : Nat) : Int)))]) (rest := []) hE Fx X (c_X10_isIn hE l (v := z) (a := 0) (b := ((tn : Nat) : Int)) (by omega) (by omega) (by omega)) cS_X10_90 rfl rfl (Nat.le_of_ble_eq_true rfl) (by decide) hl.1 dX10_end_6 (fun H locs X => ?_)
  refine k_bif_ne (tgt := 14) Fx dX10_end_9 (by decide) (fun c_9 => ?_) (fun c_9 => ?_)
  · refine lv_aload_n Fx.1 Fx.2.1 dX10_end_14 rfl (lv_at hl 0 rfl) ?_
    refine lv_iload_n Fx.1 Fx.2.1 dX10_end_15 rfl (lv_at hl 1 rfl) ?_
    refine pM_17 Fx X dX10_end_16 (fun H locs X => ?_)
    refine k_iconst Fx dX10_end_19 ?_
    exact r_zret Fx hr hlk X (by decide) dX10_end_20 rfl (Or.inl ⟨by omega, by rw [bI_t trivial]; rfl, rfl⟩)
  · refine k_iconst Fx dX10_end_12 ?_
    exact r_zret Fx hr hlk X (by decide) dX10_end_13 rfl (Or.inr ⟨by omega, by rw [bI_f (fun h => h)]; rfl, rfl⟩)

abbrev rm_X10_see : Room := ({ frames := 0, cells := 0, slots := 0, locals := 0 } : Room)
set_option maxHeartbeats 4000000 in
set_option maxRecDepth 100000 in
theorem c_X10_see {E : XX} (hE : XS E) (l : Launch) {Γ : GG} {ad : Nat → Nat} {f : Nat → Int32} {g : Nat → Nat → Int32} {tn : Nat} {tb : Nat → Nat} (hT : TapM tn tb f g) (hTB : TapB tn tb) {i : Nat} (hi : i ≤ 401) : Con E l yX10_see cX10_see 2 (some .int) rm_X10_see Γ (wM Γ ad f g) [.ref (ad 0), .int (iI (((i : Nat) : Int)))] (Qi (iI (sT tn tb i)) (wM Γ ad f g)) := by
  refine Con_mk (by decide) (Nat.le_of_ble_eq_true rfl) ?_
  intro p e s₀ m args below meth c A Fx hr hlk hnm X ls hl
  have hl : lv_has ls 2 [(0, .ref (ad 0)), (1, .int (iI (((i : Nat) : Int))))] := hl
  have hT2 := hTB.1
  refine lv_iload_n Fx.1 Fx.2.1 dX10_see_0 rfl (lv_at hl 1 rfl) ?_
  refine lv_aload_n Fx.1 Fx.2.1 dX10_see_1 rfl (lv_at hl 0 rfl) ?_
  refine gM_17 (x := (iI (((tn : Nat) : Int)))) Fx X (hT.1) dX10_see_2 ?_
  refine k_icmp_ge (a := ((i : Nat) : Int)) (b := ((tn : Nat) : Int)) (tgt := 17) Fx dX10_see_5 (by decide) (by omega) (by omega) (fun c_5 => ?_) (fun c_5 => ?_)
  · refine k_iconst Fx dX10_see_17 ?_
    exact r_iret Fx hr hlk X (by decide) dX10_see_18 (Qi_mk (congrArg iI (if_neg (by omega)).symm))
  · refine lv_aload_n Fx.1 Fx.2.1 dX10_see_8 rfl (lv_at hl 0 rfl) ?_
    refine gM_15 Fx X dX10_see_9 ?_
    refine lv_iload_n Fx.1 Fx.2.1 dX10_see_12 rfl (lv_at hl 1 rfl) ?_
    refine ldM_15 (z := ((i : Nat) : Int)) (i := i) (x := (iI (((tb (i) : Nat) : Int)))) Fx X (rfl) (by omega) (hT.2 (i)) dX10_see_13 ?_
    refine lv_goto (tgt := 18) Fx.1 Fx.2.1 dX10_see_14 (by decide) ?_
    exact r_iret Fx hr hlk X (by decide) dX10_see_18 (Qi_mk (congrArg iI (if_pos (by omega)).symm))

abbrev rm_X10_fault : Room := ({ frames := 0, cells := 0, slots := 0, locals := 0 } : Room)
set_option maxHeartbeats 4000000 in
set_option maxRecDepth 100000 in
theorem c_X10_fault {E : XX} (hE : XS E) (l : Launch) {Γ : GG} {ad : Nat → Nat} {f : Nat → Int32} {g : Nat → Nat → Int32} {fk fp : Int} (h1 : f 24 = iI fk) (h2 : f 26 = iI fp) {z : Int} (hz : -2147483648 ≤ z ∧ z < 2147483648) : Con E l yX10_fault cX10_fault 2 (some .int) rm_X10_fault Γ (wM Γ ad f g) [.ref (ad 0), .int (iI (z))] (Qi (iI (aFault fk fp z)) (wM Γ ad f g)) := by
  refine Con_mk (by decide) (Nat.le_of_ble_eq_true rfl) ?_
  intro p e s₀ m args below meth c A Fx hr hlk hnm X ls hl
  have hl : lv_has ls 2 [(0, .ref (ad 0)), (1, .int (iI (z)))] := hl
  refine lv_iload_n Fx.1 Fx.2.1 dX10_fault_0 rfl (lv_at hl 1 rfl) ?_
  refine k_if_ne (a := z) (tgt := 11) Fx dX10_fault_1 (by decide) (by omega) (fun c_1 => ?_) (fun c_1 => ?_)
  · refine lv_iload_n Fx.1 Fx.2.1 dX10_fault_11 rfl (lv_at hl 1 rfl) ?_
    refine k_iconst Fx dX10_fault_12 ?_
    refine k_icmp_ne (a := z) (b := 1) (tgt := 23) Fx dX10_fault_13 (by decide) (by omega) (by omega) (fun c_13 => ?_) (fun c_13 => ?_)
    · refine k_iconst Fx dX10_fault_23 ?_
      exact r_iret Fx hr hlk X (by decide) dX10_fault_24 (Qi_mk (congrArg iI (by unfold aFault; (repeat' split) <;> omega)))
    · refine lv_aload_n Fx.1 Fx.2.1 dX10_fault_16 rfl (lv_at hl 0 rfl) ?_
      refine gM_26 (x := (iI (fp))) Fx X (h2) dX10_fault_17 ?_
      refine lv_goto (tgt := 24) Fx.1 Fx.2.1 dX10_fault_20 (by decide) ?_
      exact r_iret Fx hr hlk X (by decide) dX10_fault_24 (Qi_mk (congrArg iI (by unfold aFault; (repeat' split) <;> omega)))
  · refine lv_aload_n Fx.1 Fx.2.1 dX10_fault_4 rfl (lv_at hl 0 rfl) ?_
    refine gM_24 (x := (iI (fk))) Fx X (h1) dX10_fault_5 ?_
    refine lv_goto (tgt := 24) Fx.1 Fx.2.1 dX10_fault_8 (by decide) ?_
    exact r_iret Fx hr hlk X (by decide) dX10_fault_24 (Qi_mk (congrArg iI (by unfold aFault; (repeat' split) <;> omega)))

abbrev rm_X10_look : Room := ({ frames := 1, cells := 0, slots := 0, locals := 22 } : Room)
set_option maxHeartbeats 4000000 in
set_option maxRecDepth 100000 in
theorem c_X10_look {E : XX} (hE : XS E) (l : Launch) {Γ : GG} {ad : Nat → Nat} {f : Nat → Int32} {g : Nat → Nat → Int32} {n : Nat} {S : Nat → Nat → Nat} (hS : SayM n S f g) (hB : SayB n S) {wt : Nat → Nat} {nw : Nat → Prop} {th ho be : Nat} (hL : LawM wt nw th ho be f g) (hLB : LawB wt th ho be) {mn : Nat} {M : Nat → Nat → Nat} (hM : MowM mn M f g) (hMB : MowB mn M) {z : Int} (hz : -2147483648 ≤ z ∧ z < 2147483648) : Con E l yX10_look cX10_look 2 (some .int) rm_X10_look Γ (wM Γ ad f g) [.ref (ad 0), .int (iI (z))] (Qi (iI (aLook n mn wt nw th ho be z)) (wM Γ ad f g)) := by
  refine Con_mk (by decide) (Nat.le_of_ble_eq_true rfl) ?_
  intro p e s₀ m args below meth c A Fx hr hlk hnm X ls hl
  have hl : lv_has ls 2 [(0, .ref (ad 0)), (1, .int (iI (z)))] := hl
  refine lv_iload_n Fx.1 Fx.2.1 dX10_look_0 rfl (lv_at hl 1 rfl) ?_
  by_cases c_1_0 : z = 0
  · refine k_tableIn (a := z) (tgt := 36) Fx dX10_look_1 (by omega) (by omega) (by omega) (by rw [c_1_0]; rfl) (by decide) ?_
    refine lv_aload_n Fx.1 Fx.2.1 dX10_look_36 rfl (lv_at hl 0 rfl) ?_
    refine gM_0 (x := (iI (((n : Nat) : Int)))) Fx X (hS.1) dX10_look_37 ?_
    exact r_iret Fx hr hlk X (by decide) dX10_look_40 (Qi_mk (congrArg iI (by unfold aLook; rw [if_pos (by omega)])))
  by_cases c_1_1 : z = 1
  · refine k_tableIn (a := z) (tgt := 41) Fx dX10_look_1 (by omega) (by omega) (by omega) (by rw [c_1_1]; rfl) (by decide) ?_
    refine lv_aload_n Fx.1 Fx.2.1 dX10_look_41 rfl (lv_at hl 0 rfl) ?_
    refine gM_10 (x := (iI (((th : Nat) : Int)))) Fx X (hL.1) dX10_look_42 ?_
    exact r_iret Fx hr hlk X (by decide) dX10_look_45 (Qi_mk (congrArg iI (by unfold aLook; rw [if_neg (by omega), if_pos (by omega)])))
  by_cases c_1_2 : z = 2
  · refine k_tableIn (a := z) (tgt := 46) Fx dX10_look_1 (by omega) (by omega) (by omega) (by rw [c_1_2]; rfl) (by decide) ?_
    refine lv_aload_n Fx.1 Fx.2.1 dX10_look_46 rfl (lv_at hl 0 rfl) ?_
    refine gM_11 (x := (iI (((ho : Nat) : Int)))) Fx X (hL.2.1) dX10_look_47 ?_
    exact r_iret Fx hr hlk X (by decide) dX10_look_50 (Qi_mk (congrArg iI (by unfold aLook; rw [if_neg (by omega), if_neg (by omega), if_pos (by omega)])))
  by_cases c_1_3 : z = 3
  · refine k_tableIn (a := z) (tgt := 51) Fx dX10_look_1 (by omega) (by omega) (by omega) (by rw [c_1_3]; rfl) (by decide) ?_
    refine lv_aload_n Fx.1 Fx.2.1 dX10_look_51 rfl (lv_at hl 0 rfl) ?_
    refine gM_12 (x := (iI (((be : Nat) : Int)))) Fx X (hL.2.2.1) dX10_look_52 ?_
    exact r_iret Fx hr hlk X (by decide) dX10_look_55 (Qi_mk (congrArg iI (by unfold aLook; rw [if_neg (by omega), if_neg (by omega), if_neg (by omega), if_pos (by omega)])))
  by_cases c_1_4 : z = 4
  · refine k_tableIn (a := z) (tgt := 56) Fx dX10_look_1 (by omega) (by omega) (by omega) (by rw [c_1_4]; rfl) (by decide) ?_
    refine lv_aload_n Fx.1 Fx.2.1 dX10_look_56 rfl (lv_at hl 0 rfl) ?_
    refine gM_1 (x := (iI (((mn : Nat) : Int)))) Fx X (hM.1) dX10_look_57 ?_
    exact r_iret Fx hr hlk X (by decide) dX10_look_60 (Qi_mk (congrArg iI (by unfold aLook; rw [if_neg (by omega), if_neg (by omega), if_neg (by omega), if_neg (by omega), if_pos (by omega)])))
  refine k_tableOut (a := z) (tgt := 61) Fx dX10_look_1 (by omega) (by omega) (by decide) ?_
  refine lv_iload_n Fx.1 Fx.2.1 dX10_look_61 rfl (lv_at hl 1 rfl) ?_
  refine k_bipush Fx dX10_look_62 (by decide) ?_
  refine k_bipush Fx dX10_look_64 (by decide) ?_
  refine r_callSi (As := [.int (iI (z)), .int (iI (10)), .int (iI (15))]) (rest := []) hE Fx X (c_X10_isIn hE l (v := z) (a := 10) (b := 15) (by omega) (by omega) (by omega)) cS_X10_90 rfl rfl (Nat.le_of_ble_eq_true rfl) (by decide) hl.1 dX10_look_66 (fun H locs X => ?_)
  refine k_bif_eq (tgt := 84) Fx dX10_look_69 (by decide) (fun c_69 => ?_) (fun c_69 => ?_)
  · refine lv_iload_n Fx.1 Fx.2.1 dX10_look_84 rfl (lv_at hl 1 rfl) ?_
    refine k_bipush Fx dX10_look_85 (by decide) ?_
    refine k_bipush Fx dX10_look_87 (by decide) ?_
    refine r_callSi (As := [.int (iI (z)), .int (iI (20)), .int (iI (25))]) (rest := []) hE Fx X (c_X10_isIn hE l (v := z) (a := 20) (b := 25) (by omega) (by omega) (by omega)) cS_X10_90 rfl rfl (Nat.le_of_ble_eq_true rfl) (by decide) hl.1 dX10_look_89 (fun H locs X => ?_)
    refine k_bif_eq (tgt := 115) Fx dX10_look_92 (by decide) (fun c_92 => ?_) (fun c_92 => ?_)
    · refine k_iconst Fx dX10_look_115 ?_
      exact r_iret Fx hr hlk X (by decide) dX10_look_116 (Qi_mk (congrArg iI (by unfold aLook; rw [if_neg (by omega), if_neg (by omega), if_neg (by omega), if_neg (by omega), if_neg (by omega), if_neg (by omega), if_neg (by omega)])))
    · refine lv_aload_n Fx.1 Fx.2.1 dX10_look_95 rfl (lv_at hl 0 rfl) ?_
      refine gM_14 Fx X dX10_look_96 ?_
      refine lv_iload_n Fx.1 Fx.2.1 dX10_look_99 rfl (lv_at hl 1 rfl) ?_
      refine k_bipush Fx dX10_look_100 (by decide) ?_
      refine k_isub Fx dX10_look_102 ?_
      refine ldM_14 (z := (z - 20)) (i := (z - 20).toNat) (x := (bI (nw ((z - 20).toNat)))) Fx X (by omega) (by omega) (hL.2.2.2.2 ((z - 20).toNat) (by omega)) dX10_look_103 ?_
      refine k_bif_eq (tgt := 111) Fx dX10_look_104 (by decide) (fun c_104 => ?_) (fun c_104 => ?_)
      · refine k_iconst Fx dX10_look_111 ?_
        refine lv_goto (tgt := 116) Fx.1 Fx.2.1 dX10_look_112 (by decide) ?_
        exact r_iret Fx hr hlk X (by decide) dX10_look_116 (Qi_mk (congrArg iI (by unfold aLook; rw [if_neg (by omega), if_neg (by omega), if_neg (by omega), if_neg (by omega), if_neg (by omega), if_neg (by omega), if_pos (by omega), if_neg c_104])))
      · refine k_iconst Fx dX10_look_107 ?_
        refine lv_goto (tgt := 116) Fx.1 Fx.2.1 dX10_look_108 (by decide) ?_
        exact r_iret Fx hr hlk X (by decide) dX10_look_116 (Qi_mk (congrArg iI (by unfold aLook; rw [if_neg (by omega), if_neg (by omega), if_neg (by omega), if_neg (by omega), if_neg (by omega), if_neg (by omega), if_pos (by omega), if_pos c_104])))
  · refine lv_aload_n Fx.1 Fx.2.1 dX10_look_72 rfl (lv_at hl 0 rfl) ?_
    refine gM_13 Fx X dX10_look_73 ?_
    refine lv_iload_n Fx.1 Fx.2.1 dX10_look_76 rfl (lv_at hl 1 rfl) ?_
    refine k_bipush Fx dX10_look_77 (by decide) ?_
    refine k_isub Fx dX10_look_79 ?_
    refine ldM_13 (z := (z - 10)) (i := (z - 10).toNat) (x := (iI (((wt ((z - 10).toNat) : Nat) : Int)))) Fx X (by omega) (by omega) (hL.2.2.2.1 ((z - 10).toNat) (by omega)) dX10_look_80 ?_
    have bw_x := hLB.1 ((z - 10).toNat)
    refine lv_goto (tgt := 116) Fx.1 Fx.2.1 dX10_look_81 (by decide) ?_
    exact r_iret Fx hr hlk X (by decide) dX10_look_116 (Qi_mk (congrArg iI (by unfold aLook; rw [if_neg (by omega), if_neg (by omega), if_neg (by omega), if_neg (by omega), if_neg (by omega), if_pos (by omega)])))

