abbrev rm_X10_moved : Room := ({ frames := 0, cells := 0, slots := 0, locals := 0 } : Room)
set_option maxHeartbeats 4000000 in
set_option maxRecDepth 100000 in
theorem c_X10_moved {E : XX} (hE : XS E) (l : Launch) {Γ : GG} {ad : Nat → Nat} {f : Nat → Int32} {g : Nat → Nat → Int32} {n : Nat} {S : Nat → Nat → Nat} (hS : SayM n S f g) (hB : SayB n S) {wt : Nat → Nat} {nw : Nat → Prop} {th ho be : Nat} (hL : LawM wt nw th ho be f g) (hLB : LawB wt th ho be) {i t : Nat} (hi : i < 12) (ht : t < 80) : Con E l yX10_moved cX10_moved 4 (some .int) rm_X10_moved Γ (wM Γ ad f g) [.ref (ad 0), .int (iI (((i : Nat) : Int))), .int (iI (((t : Nat) : Int)))] (Qi (iI (aMv S th i t : Nat)) (wM Γ ad f g)) := by
  refine Con_mk (by decide) (Nat.le_of_ble_eq_true rfl) ?_
  intro p e s₀ m args below meth c A Fx hr hlk hnm X ls hl
  have hl : lv_has ls 4 [(0, .ref (ad 0)), (1, .int (iI (((i : Nat) : Int)))), (2, .int (iI (((t : Nat) : Int))))] := hl
  have hB1 := hB.1
  have hB2 := hB.2 i
  have hL1 := hLB.2.1
  refine lv_aload_n Fx.1 Fx.2.1 dX10_moved_0 rfl (lv_at hl 0 rfl) ?_
  refine gM_3 Fx X dX10_moved_1 ?_
  refine lv_iload_n Fx.1 Fx.2.1 dX10_moved_4 rfl (lv_at hl 1 rfl) ?_
  refine ldM_3 (z := ((i : Nat) : Int)) (i := i) (x := (iI (((S 0 i : Nat) : Int)))) Fx X (rfl) (by omega) (hS.2.1 i) dX10_moved_5 ?_
  have b3_x := hB.2 i
  refine k_iconst Fx dX10_moved_6 ?_
  refine k_icmp_eq (a := ((S 0 i : Nat) : Int)) (b := 2) (tgt := 14) Fx dX10_moved_7 (by decide) (by omega) (by omega) (fun c_7 => ?_) (fun c_7 => ?_)
  · refine lv_aload_n Fx.1 Fx.2.1 dX10_moved_14 rfl (lv_at hl 0 rfl) ?_
    refine gM_9 Fx X dX10_moved_15 ?_
    refine lv_iload_n Fx.1 Fx.2.1 dX10_moved_18 rfl (lv_at hl 1 rfl) ?_
    refine ldM_9 (z := ((i : Nat) : Int)) (i := i) (x := (iI (((S 6 i : Nat) : Int)))) Fx X (rfl) (by omega) (hS.2.2.2.2.2.2.2 i) dX10_moved_19 ?_
    have b9_x := hB.2 i
    refine k_if_ne (a := ((S 6 i : Nat) : Int)) (tgt := 32) Fx dX10_moved_20 (by decide) (by omega) (fun c_20 => ?_) (fun c_20 => ?_)
    · refine lv_iload_n Fx.1 Fx.2.1 dX10_moved_32 rfl (lv_at hl 2 rfl) ?_
      refine lv_aload_n Fx.1 Fx.2.1 dX10_moved_33 rfl (lv_at hl 0 rfl) ?_
      refine gM_10 (x := (iI (((th : Nat) : Int)))) Fx X (hL.1) dX10_moved_34 ?_
      refine k_isub Fx dX10_moved_37 ?_
      refine lv_istore_n (lv' := [(3, .int (iI ((((t : Nat) : Int) - ((th : Nat) : Int))))), (0, .ref (ad 0)), (1, .int (iI (((i : Nat) : Int)))), (2, .int (iI (((t : Nat) : Int))))]) Fx.1 Fx.2.1 dX10_moved_38 rfl hl (by decide) rfl (fun ls hl => ?_)
      refine lv_iload_n Fx.1 Fx.2.1 dX10_moved_39 rfl (lv_at hl 0 rfl) ?_
      refine k_if_ge (a := (((t : Nat) : Int) - ((th : Nat) : Int))) (tgt := 47) Fx dX10_moved_40 (by decide) (by omega) (fun c_40 => ?_) (fun c_40 => ?_)
      · refine lv_iload_n Fx.1 Fx.2.1 dX10_moved_47 rfl (lv_at hl 0 rfl) ?_
        refine k_bipush Fx dX10_moved_48 (by decide) ?_
        refine k_icmp_le (a := (((t : Nat) : Int) - ((th : Nat) : Int))) (b := 79) (tgt := 58) Fx dX10_moved_50 (by decide) (by omega) (by omega) (fun c_50 => ?_) (fun c_50 => ?_)
        · refine lv_iload_n Fx.1 Fx.2.1 dX10_moved_58 rfl (lv_at hl 0 rfl) ?_
          exact r_iret Fx hr hlk X (by decide) dX10_moved_59 (Qi_mk (congrArg iI (by unfold aMv; (repeat' split) <;> omega)))
        · refine k_bipush Fx dX10_moved_53 (by decide) ?_
          refine lv_goto (tgt := 59) Fx.1 Fx.2.1 dX10_moved_55 (by decide) ?_
          exact r_iret Fx hr hlk X (by decide) dX10_moved_59 (Qi_mk (congrArg iI (by unfold aMv; (repeat' split) <;> omega)))
      · refine k_iconst Fx dX10_moved_43 ?_
        refine lv_goto (tgt := 59) Fx.1 Fx.2.1 dX10_moved_44 (by decide) ?_
        exact r_iret Fx hr hlk X (by decide) dX10_moved_59 (Qi_mk (congrArg iI (by unfold aMv; (repeat' split) <;> omega)))
    · refine lv_iload_n Fx.1 Fx.2.1 dX10_moved_23 rfl (lv_at hl 2 rfl) ?_
      refine lv_aload_n Fx.1 Fx.2.1 dX10_moved_24 rfl (lv_at hl 0 rfl) ?_
      refine gM_10 (x := (iI (((th : Nat) : Int)))) Fx X (hL.1) dX10_moved_25 ?_
      refine k_iadd Fx dX10_moved_28 ?_
      refine lv_goto (tgt := 38) Fx.1 Fx.2.1 dX10_moved_29 (by decide) ?_
      refine lv_istore_n (lv' := [(3, .int (iI ((((t : Nat) : Int) + ((th : Nat) : Int))))), (0, .ref (ad 0)), (1, .int (iI (((i : Nat) : Int)))), (2, .int (iI (((t : Nat) : Int))))]) Fx.1 Fx.2.1 dX10_moved_38 rfl hl (by decide) rfl (fun ls hl => ?_)
      refine lv_iload_n Fx.1 Fx.2.1 dX10_moved_39 rfl (lv_at hl 0 rfl) ?_
      refine k_if_ge (a := (((t : Nat) : Int) + ((th : Nat) : Int))) (tgt := 47) Fx dX10_moved_40 (by decide) (by omega) (fun c_40 => ?_) (fun c_40 => ?_)
      · refine lv_iload_n Fx.1 Fx.2.1 dX10_moved_47 rfl (lv_at hl 0 rfl) ?_
        refine k_bipush Fx dX10_moved_48 (by decide) ?_
        refine k_icmp_le (a := (((t : Nat) : Int) + ((th : Nat) : Int))) (b := 79) (tgt := 58) Fx dX10_moved_50 (by decide) (by omega) (by omega) (fun c_50 => ?_) (fun c_50 => ?_)
        · refine lv_iload_n Fx.1 Fx.2.1 dX10_moved_58 rfl (lv_at hl 0 rfl) ?_
          exact r_iret Fx hr hlk X (by decide) dX10_moved_59 (Qi_mk (congrArg iI (by unfold aMv; (repeat' split) <;> omega)))
        · refine k_bipush Fx dX10_moved_53 (by decide) ?_
          refine lv_goto (tgt := 59) Fx.1 Fx.2.1 dX10_moved_55 (by decide) ?_
          exact r_iret Fx hr hlk X (by decide) dX10_moved_59 (Qi_mk (congrArg iI (by unfold aMv; (repeat' split) <;> omega)))
      · refine k_iconst Fx dX10_moved_43 ?_
        refine lv_goto (tgt := 59) Fx.1 Fx.2.1 dX10_moved_44 (by decide) ?_
        exact r_iret Fx hr hlk X (by decide) dX10_moved_59 (Qi_mk (congrArg iI (by unfold aMv; (repeat' split) <;> omega)))
  · refine lv_iload_n Fx.1 Fx.2.1 dX10_moved_10 rfl (lv_at hl 2 rfl) ?_
    refine lv_goto (tgt := 38) Fx.1 Fx.2.1 dX10_moved_11 (by decide) ?_
    refine lv_istore_n (lv' := [(3, .int (iI (((t : Nat) : Int)))), (0, .ref (ad 0)), (1, .int (iI (((i : Nat) : Int)))), (2, .int (iI (((t : Nat) : Int))))]) Fx.1 Fx.2.1 dX10_moved_38 rfl hl (by decide) rfl (fun ls hl => ?_)
    refine lv_iload_n Fx.1 Fx.2.1 dX10_moved_39 rfl (lv_at hl 0 rfl) ?_
    refine k_if_ge (a := ((t : Nat) : Int)) (tgt := 47) Fx dX10_moved_40 (by decide) (by omega) (fun c_40 => ?_) (fun c_40 => ?_)
    · refine lv_iload_n Fx.1 Fx.2.1 dX10_moved_47 rfl (lv_at hl 0 rfl) ?_
      refine k_bipush Fx dX10_moved_48 (by decide) ?_
      refine k_icmp_le (a := ((t : Nat) : Int)) (b := 79) (tgt := 58) Fx dX10_moved_50 (by decide) (by omega) (by omega) (fun c_50 => ?_) (fun c_50 => ?_)
      · refine lv_iload_n Fx.1 Fx.2.1 dX10_moved_58 rfl (lv_at hl 0 rfl) ?_
        exact r_iret Fx hr hlk X (by decide) dX10_moved_59 (Qi_mk (congrArg iI (by unfold aMv; (repeat' split) <;> omega)))
      · refine k_bipush Fx dX10_moved_53 (by decide) ?_
        refine lv_goto (tgt := 59) Fx.1 Fx.2.1 dX10_moved_55 (by decide) ?_
        exact r_iret Fx hr hlk X (by decide) dX10_moved_59 (Qi_mk (congrArg iI (by unfold aMv; (repeat' split) <;> omega)))
    · refine k_iconst Fx dX10_moved_43 ?_
      refine lv_goto (tgt := 59) Fx.1 Fx.2.1 dX10_moved_44 (by decide) ?_
      exact r_iret Fx hr hlk X (by decide) dX10_moved_59 (Qi_mk (congrArg iI (by unfold aMv; (repeat' split) <;> omega)))

abbrev rm_X10_counts : Room := ({ frames := 1, cells := 0, slots := 0, locals := 22 } : Room)
set_option maxHeartbeats 4000000 in
set_option maxRecDepth 100000 in
theorem c_X10_counts {E : XX} (hE : XS E) (l : Launch) {Γ : GG} {ad : Nat → Nat} {f : Nat → Int32} {g : Nat → Nat → Int32} {n : Nat} {S : Nat → Nat → Nat} (hS : SayM n S f g) (hB : SayB n S) {wt : Nat → Nat} {nw : Nat → Prop} {th ho be : Nat} (hL : LawM wt nw th ho be f g) (hLB : LawB wt th ho be) {i t : Nat} (hi : i < 12) (ht : t < 10) : Con E l yX10_counts cX10_counts 5 (some .boolean) rm_X10_counts Γ (wM Γ ad f g) [.ref (ad 0), .int (iI (((i : Nat) : Int))), .int (iI (((t : Nat) : Int)))] (Qi (bI (aCt n S nw i t)) (wM Γ ad f g)) := by
  refine Con_mk (by decide) (Nat.le_of_ble_eq_true rfl) ?_
  intro p e s₀ m args below meth c A Fx hr hlk hnm X ls hl
  have hl : lv_has ls 5 [(0, .ref (ad 0)), (1, .int (iI (((i : Nat) : Int)))), (2, .int (iI (((t : Nat) : Int))))] := hl
  have hB1 := hB.1
  have hB2 := hB.2 i
  refine lv_iload_n Fx.1 Fx.2.1 dX10_counts_0 rfl (lv_at hl 2 rfl) ?_
  refine lv_aload_n Fx.1 Fx.2.1 dX10_counts_1 rfl (lv_at hl 0 rfl) ?_
  refine gM_4 Fx X dX10_counts_2 ?_
  refine lv_iload_n Fx.1 Fx.2.1 dX10_counts_5 rfl (lv_at hl 1 rfl) ?_
  refine ldM_4 (z := ((i : Nat) : Int)) (i := i) (x := (iI (((S 1 i : Nat) : Int)))) Fx X (rfl) (by omega) (hS.2.2.1 i) dX10_counts_6 ?_
  have b4_x := hB.2 i
  refine lv_aload_n Fx.1 Fx.2.1 dX10_counts_7 rfl (lv_at hl 0 rfl) ?_
  refine gM_5 Fx X dX10_counts_8 ?_
  refine lv_iload_n Fx.1 Fx.2.1 dX10_counts_11 rfl (lv_at hl 1 rfl) ?_
  refine ldM_5 (z := ((i : Nat) : Int)) (i := i) (x := (iI (((S 2 i : Nat) : Int)))) Fx X (rfl) (by omega) (hS.2.2.2.1 i) dX10_counts_12 ?_
  have b5_x := hB.2 i
  refine r_callSi (As := [.int (iI (((t : Nat) : Int))), .int (iI (((S 1 i : Nat) : Int))), .int (iI (((S 2 i : Nat) : Int)))]) (rest := []) hE Fx X (c_X10_isIn hE l (v := ((t : Nat) : Int)) (a := ((S 1 i : Nat) : Int)) (b := ((S 2 i : Nat) : Int)) (by omega) (by omega) (by omega)) cS_X10_90 rfl rfl (Nat.le_of_ble_eq_true rfl) (by decide) hl.1 dX10_counts_13 (fun H locs X => ?_)
  refine k_bif_ne (tgt := 21) Fx dX10_counts_16 (by decide) (fun c_16 => ?_) (fun c_16 => ?_)
  · refine k_iconst Fx dX10_counts_21 ?_
    refine lv_istore_n (lv' := [(3, .int (iI (1))), (0, .ref (ad 0)), (1, .int (iI (((i : Nat) : Int)))), (2, .int (iI (((t : Nat) : Int))))]) Fx.1 Fx.2.1 dX10_counts_22 rfl hl (by decide) rfl (fun ls hl => ?_)
    refine k_iconst Fx dX10_counts_23 ?_
    refine lv_istore (lv' := [(4, .int (iI (0))), (3, .int (iI (1))), (0, .ref (ad 0)), (1, .int (iI (((i : Nat) : Int)))), (2, .int (iI (((t : Nat) : Int))))]) Fx.1 Fx.2.1 dX10_counts_24 hl (by decide) rfl (fun ls hl => ?_)
    have lp_26 : ∀ (nn : Nat) (j : Nat), n - j < nn → (j ≤ n) → (j = 0 ∨ nw (S 0 i)) → ∀ (H : Heap) (locs : List Loc) (ls : Array Slot), Wd E Γ A s₀ H locs (wM Γ ad f g) → lv_has ls 5 [(0, .ref (ad 0)), (1, .int (iI (((i : Nat) : Int)))), (2, .int (iI (((t : Nat) : Int)))), (3, .int (bI (allN (aBlk S i t) j))), (4, .int (iI (((j : Nat) : Int))))] → W p l e rm_X10_counts s₀ m args below meth c H locs (0) (0) (RQ below args s₀ Γ A (Qi (bI (aCt n S nw i t)) (wM Γ ad f g)) rm_X10_counts) (F0 m 26 ls []) := by
      intro nn
      induction nn with
      | zero => intro j hmu; exact absurd hmu (Nat.not_lt_zero _)
      | succ nn ih =>
        intro j hmu hj hj0 H locs ls X hl
        have ih_26 := ih
        have hB3 := hB.2 j
        refine lv_iload Fx.1 Fx.2.1 dX10_counts_26 (lv_at hl 4 rfl) ?_
        refine lv_aload_n Fx.1 Fx.2.1 dX10_counts_28 rfl (lv_at hl 0 rfl) ?_
        refine gM_0 (x := (iI (((n : Nat) : Int)))) Fx X (hS.1) dX10_counts_29 ?_
        refine k_icmp_ge (a := ((j : Nat) : Int)) (b := ((n : Nat) : Int)) (tgt := 118) Fx dX10_counts_32 (by decide) (by omega) (by omega) (fun c_32 => ?_) (fun c_32 => ?_)
        · refine lv_iload_n Fx.1 Fx.2.1 dX10_counts_118 rfl (lv_at hl 3 rfl) ?_
          exact r_zret Fx hr hlk X (by decide) dX10_counts_119 (bI_nar _) (Qi_mk (bI_c (ct_x1 (by omega) hj0 (by omega))))
        · refine lv_aload_n Fx.1 Fx.2.1 dX10_counts_35 rfl (lv_at hl 0 rfl) ?_
          refine gM_14 Fx X dX10_counts_36 ?_
          refine lv_aload_n Fx.1 Fx.2.1 dX10_counts_39 rfl (lv_at hl 0 rfl) ?_
          refine gM_3 Fx X dX10_counts_40 ?_
          refine lv_iload_n Fx.1 Fx.2.1 dX10_counts_43 rfl (lv_at hl 1 rfl) ?_
          refine ldM_3 (z := ((i : Nat) : Int)) (i := i) (x := (iI (((S 0 i : Nat) : Int)))) Fx X (rfl) (by omega) (hS.2.1 i) dX10_counts_44 ?_
          have b3_x := hB.2 i
          refine ldM_14 (z := ((S 0 i : Nat) : Int)) (i := (S 0 i)) (x := (bI (nw ((S 0 i))))) Fx X (rfl) (by omega) (hL.2.2.2.2 ((S 0 i)) (by omega)) dX10_counts_45 ?_
          refine k_bif_eq (tgt := 118) Fx dX10_counts_46 (by decide) (fun c_46 => ?_) (fun c_46 => ?_)
          · refine lv_iload_n Fx.1 Fx.2.1 dX10_counts_118 rfl (lv_at hl 3 rfl) ?_
            exact r_zret Fx hr hlk X (by decide) dX10_counts_119 (bI_nar _) (Qi_mk (bI_c (ct_x2 (by omega) hj0 c_46)))
          · refine lv_iload_n Fx.1 Fx.2.1 dX10_counts_49 rfl (lv_at hl 3 rfl) ?_
            refine k_bif_eq (tgt := 110) Fx dX10_counts_50 (by decide) (fun c_50 => ?_) (fun c_50 => ?_)
            · refine k_iconst Fx dX10_counts_110 ?_
              refine lv_istore_n (lv' := [(3, .int (iI (0))), (0, .ref (ad 0)), (1, .int (iI (((i : Nat) : Int)))), (2, .int (iI (((t : Nat) : Int)))), (4, .int (iI (((j : Nat) : Int))))]) Fx.1 Fx.2.1 dX10_counts_111 rfl hl (by decide) rfl (fun ls hl => ?_)
              refine k_iinc (k := 4) (a := ((j : Nat) : Int)) (lv' := [(4, .int (iI ((((j : Nat) : Int) + 1)))), (3, .int (iI (0))), (0, .ref (ad 0)), (1, .int (iI (((i : Nat) : Int)))), (2, .int (iI (((t : Nat) : Int))))]) Fx dX10_counts_112 hl rfl (by decide) rfl (fun ls hl => ?_)
              refine lv_goto (tgt := 26) Fx.1 Fx.2.1 dX10_counts_115 (by decide) ?_
              have hl_1 := lv_rp hl 1 rfl (show (iI (0)) = (bI (allN (aBlk S i t) (j + 1))) from bI_0 (fun h => c_50 (allN_s.mp h).1))
              have hl_2 := lv_rp hl_1 0 rfl (show (iI ((((j : Nat) : Int) + 1))) = (iI ((((j + 1) : Nat) : Int))) from congrArg iI (by omega))
              exact ih_26 (j + 1) (by omega) (by omega) (Or.inr c_46) _ _ _ X (lv_sub hl_2 [2, 3, 4, 1, 0] rfl)
            · refine lv_aload_n Fx.1 Fx.2.1 dX10_counts_53 rfl (lv_at hl 0 rfl) ?_
              refine gM_3 Fx X dX10_counts_54 ?_
              refine lv_iload Fx.1 Fx.2.1 dX10_counts_57 (lv_at hl 4 rfl) ?_
              refine ldM_3 (z := ((j : Nat) : Int)) (i := j) (x := (iI (((S 0 j : Nat) : Int)))) Fx X (rfl) (by omega) (hS.2.1 j) dX10_counts_59 ?_
              have b3_x := hB.2 j
              refine lv_aload_n Fx.1 Fx.2.1 dX10_counts_60 rfl (lv_at hl 0 rfl) ?_
              refine gM_3 Fx X dX10_counts_61 ?_
              refine lv_iload_n Fx.1 Fx.2.1 dX10_counts_64 rfl (lv_at hl 1 rfl) ?_
              refine ldM_3 (z := ((i : Nat) : Int)) (i := i) (x := (iI (((S 0 i : Nat) : Int)))) Fx X (rfl) (by omega) (hS.2.1 i) dX10_counts_65 ?_
              have b3_x := hB.2 i
              refine k_icmp_ne (a := ((S 0 j : Nat) : Int)) (b := ((S 0 i : Nat) : Int)) (tgt := 106) Fx dX10_counts_66 (by decide) (by omega) (by omega) (fun c_66 => ?_) (fun c_66 => ?_)
              · refine k_iconst Fx dX10_counts_106 ?_
                refine lv_goto (tgt := 111) Fx.1 Fx.2.1 dX10_counts_107 (by decide) ?_
                refine lv_istore_n (lv' := [(3, .int (iI (1))), (0, .ref (ad 0)), (1, .int (iI (((i : Nat) : Int)))), (2, .int (iI (((t : Nat) : Int)))), (4, .int (iI (((j : Nat) : Int))))]) Fx.1 Fx.2.1 dX10_counts_111 rfl hl (by decide) rfl (fun ls hl => ?_)
                refine k_iinc (k := 4) (a := ((j : Nat) : Int)) (lv' := [(4, .int (iI ((((j : Nat) : Int) + 1)))), (3, .int (iI (1))), (0, .ref (ad 0)), (1, .int (iI (((i : Nat) : Int)))), (2, .int (iI (((t : Nat) : Int))))]) Fx dX10_counts_112 hl rfl (by decide) rfl (fun ls hl => ?_)
                refine lv_goto (tgt := 26) Fx.1 Fx.2.1 dX10_counts_115 (by decide) ?_
                have hl_3 := lv_rp hl 1 rfl (show (iI (1)) = (bI (allN (aBlk S i t) (j + 1))) from bI_1 (allN_s.mpr ⟨c_50, by unfold aBlk; omega⟩))
                have hl_4 := lv_rp hl_3 0 rfl (show (iI ((((j : Nat) : Int) + 1))) = (iI ((((j + 1) : Nat) : Int))) from congrArg iI (by omega))
                exact ih_26 (j + 1) (by omega) (by omega) (Or.inr c_46) _ _ _ X (lv_sub hl_4 [2, 3, 4, 1, 0] rfl)
              · refine lv_iload_n Fx.1 Fx.2.1 dX10_counts_69 rfl (lv_at hl 2 rfl) ?_
                refine lv_aload_n Fx.1 Fx.2.1 dX10_counts_70 rfl (lv_at hl 0 rfl) ?_
                refine gM_4 Fx X dX10_counts_71 ?_
                refine lv_iload Fx.1 Fx.2.1 dX10_counts_74 (lv_at hl 4 rfl) ?_
                refine ldM_4 (z := ((j : Nat) : Int)) (i := j) (x := (iI (((S 1 j : Nat) : Int)))) Fx X (rfl) (by omega) (hS.2.2.1 j) dX10_counts_76 ?_
                have b4_x := hB.2 j
                refine lv_aload_n Fx.1 Fx.2.1 dX10_counts_77 rfl (lv_at hl 0 rfl) ?_
                refine gM_5 Fx X dX10_counts_78 ?_
                refine lv_iload Fx.1 Fx.2.1 dX10_counts_81 (lv_at hl 4 rfl) ?_
                refine ldM_5 (z := ((j : Nat) : Int)) (i := j) (x := (iI (((S 2 j : Nat) : Int)))) Fx X (rfl) (by omega) (hS.2.2.2.1 j) dX10_counts_83 ?_
                have b5_x := hB.2 j
                refine r_callSi (As := [.int (iI (((t : Nat) : Int))), .int (iI (((S 1 j : Nat) : Int))), .int (iI (((S 2 j : Nat) : Int)))]) (rest := []) hE Fx X (c_X10_isIn hE l (v := ((t : Nat) : Int)) (a := ((S 1 j : Nat) : Int)) (b := ((S 2 j : Nat) : Int)) (by omega) (by omega) (by omega)) cS_X10_90 rfl rfl (Nat.le_of_ble_eq_true rfl) (by decide) hl.1 dX10_counts_84 (fun H locs X => ?_)
                refine k_bif_eq (tgt := 106) Fx dX10_counts_87 (by decide) (fun c_87 => ?_) (fun c_87 => ?_)
                · refine k_iconst Fx dX10_counts_106 ?_
                  refine lv_goto (tgt := 111) Fx.1 Fx.2.1 dX10_counts_107 (by decide) ?_
                  refine lv_istore_n (lv' := [(3, .int (iI (1))), (0, .ref (ad 0)), (1, .int (iI (((i : Nat) : Int)))), (2, .int (iI (((t : Nat) : Int)))), (4, .int (iI (((j : Nat) : Int))))]) Fx.1 Fx.2.1 dX10_counts_111 rfl hl (by decide) rfl (fun ls hl => ?_)
                  refine k_iinc (k := 4) (a := ((j : Nat) : Int)) (lv' := [(4, .int (iI ((((j : Nat) : Int) + 1)))), (3, .int (iI (1))), (0, .ref (ad 0)), (1, .int (iI (((i : Nat) : Int)))), (2, .int (iI (((t : Nat) : Int))))]) Fx dX10_counts_112 hl rfl (by decide) rfl (fun ls hl => ?_)
                  refine lv_goto (tgt := 26) Fx.1 Fx.2.1 dX10_counts_115 (by decide) ?_
                  have hl_5 := lv_rp hl 1 rfl (show (iI (1)) = (bI (allN (aBlk S i t) (j + 1))) from bI_1 (allN_s.mpr ⟨c_50, by unfold aBlk; omega⟩))
                  have hl_6 := lv_rp hl_5 0 rfl (show (iI ((((j : Nat) : Int) + 1))) = (iI ((((j + 1) : Nat) : Int))) from congrArg iI (by omega))
                  exact ih_26 (j + 1) (by omega) (by omega) (Or.inr c_46) _ _ _ X (lv_sub hl_6 [2, 3, 4, 1, 0] rfl)
                · refine lv_aload_n Fx.1 Fx.2.1 dX10_counts_90 rfl (lv_at hl 0 rfl) ?_
                  refine gM_8 Fx X dX10_counts_91 ?_
                  refine lv_iload Fx.1 Fx.2.1 dX10_counts_94 (lv_at hl 4 rfl) ?_
                  refine ldM_8 (z := ((j : Nat) : Int)) (i := j) (x := (iI (((S 5 j : Nat) : Int)))) Fx X (rfl) (by omega) (hS.2.2.2.2.2.2.1 j) dX10_counts_96 ?_
                  have b8_x := hB.2 j
                  refine lv_aload_n Fx.1 Fx.2.1 dX10_counts_97 rfl (lv_at hl 0 rfl) ?_
                  refine gM_8 Fx X dX10_counts_98 ?_
                  refine lv_iload_n Fx.1 Fx.2.1 dX10_counts_101 rfl (lv_at hl 1 rfl) ?_
                  refine ldM_8 (z := ((i : Nat) : Int)) (i := i) (x := (iI (((S 5 i : Nat) : Int)))) Fx X (rfl) (by omega) (hS.2.2.2.2.2.2.1 i) dX10_counts_102 ?_
                  have b8_x := hB.2 i
                  refine k_icmp_gt (a := ((S 5 j : Nat) : Int)) (b := ((S 5 i : Nat) : Int)) (tgt := 110) Fx dX10_counts_103 (by decide) (by omega) (by omega) (fun c_103 => ?_) (fun c_103 => ?_)
                  · refine k_iconst Fx dX10_counts_110 ?_
                    refine lv_istore_n (lv' := [(3, .int (iI (0))), (0, .ref (ad 0)), (1, .int (iI (((i : Nat) : Int)))), (2, .int (iI (((t : Nat) : Int)))), (4, .int (iI (((j : Nat) : Int))))]) Fx.1 Fx.2.1 dX10_counts_111 rfl hl (by decide) rfl (fun ls hl => ?_)
                    refine k_iinc (k := 4) (a := ((j : Nat) : Int)) (lv' := [(4, .int (iI ((((j : Nat) : Int) + 1)))), (3, .int (iI (0))), (0, .ref (ad 0)), (1, .int (iI (((i : Nat) : Int)))), (2, .int (iI (((t : Nat) : Int))))]) Fx dX10_counts_112 hl rfl (by decide) rfl (fun ls hl => ?_)
                    refine lv_goto (tgt := 26) Fx.1 Fx.2.1 dX10_counts_115 (by decide) ?_
                    have hl_7 := lv_rp hl 1 rfl (show (iI (0)) = (bI (allN (aBlk S i t) (j + 1))) from bI_0 (fun h => absurd (allN_s.mp h).2 (by unfold aBlk; omega)))
                    have hl_8 := lv_rp hl_7 0 rfl (show (iI ((((j : Nat) : Int) + 1))) = (iI ((((j + 1) : Nat) : Int))) from congrArg iI (by omega))
                    exact ih_26 (j + 1) (by omega) (by omega) (Or.inr c_46) _ _ _ X (lv_sub hl_8 [2, 3, 4, 1, 0] rfl)
                  · refine k_iconst Fx dX10_counts_106 ?_
                    refine lv_goto (tgt := 111) Fx.1 Fx.2.1 dX10_counts_107 (by decide) ?_
                    refine lv_istore_n (lv' := [(3, .int (iI (1))), (0, .ref (ad 0)), (1, .int (iI (((i : Nat) : Int)))), (2, .int (iI (((t : Nat) : Int)))), (4, .int (iI (((j : Nat) : Int))))]) Fx.1 Fx.2.1 dX10_counts_111 rfl hl (by decide) rfl (fun ls hl => ?_)
                    refine k_iinc (k := 4) (a := ((j : Nat) : Int)) (lv' := [(4, .int (iI ((((j : Nat) : Int) + 1)))), (3, .int (iI (1))), (0, .ref (ad 0)), (1, .int (iI (((i : Nat) : Int)))), (2, .int (iI (((t : Nat) : Int))))]) Fx dX10_counts_112 hl rfl (by decide) rfl (fun ls hl => ?_)
                    refine lv_goto (tgt := 26) Fx.1 Fx.2.1 dX10_counts_115 (by decide) ?_
                    have hl_9 := lv_rp hl 1 rfl (show (iI (1)) = (bI (allN (aBlk S i t) (j + 1))) from bI_1 (allN_s.mpr ⟨c_50, by unfold aBlk; omega⟩))
                    have hl_10 := lv_rp hl_9 0 rfl (show (iI ((((j : Nat) : Int) + 1))) = (iI ((((j + 1) : Nat) : Int))) from congrArg iI (by omega))
                    exact ih_26 (j + 1) (by omega) (by omega) (Or.inr c_46) _ _ _ X (lv_sub hl_10 [2, 3, 4, 1, 0] rfl)
    have hl_11 := lv_rp hl 1 rfl (show (iI (1)) = (bI (allN (aBlk S i t) 0)) from bI_1 (allN_0 _))
    have hl_12 := lv_rp hl_11 0 rfl (show (iI (0)) = (iI (((0 : Nat) : Int))) from congrArg iI (by omega))
    exact lp_26 _ (0) (Nat.lt_succ_self _) (by omega) (Or.inl rfl) _ _ _ X (lv_sub hl_12 [2, 3, 4, 1, 0] rfl)
  · refine k_iconst Fx dX10_counts_19 ?_
    exact r_zret Fx hr hlk X (by decide) dX10_counts_20 rfl (Qi_mk (bI_0 (fun h => c_16 (by have := h.1; omega))))

abbrev rm_X10_costAt : Room := ({ frames := 2, cells := 0, slots := 0, locals := 46 } : Room)
set_option maxHeartbeats 4000000 in
set_option maxRecDepth 100000 in
theorem c_X10_costAt {E : XX} (hE : XS E) (l : Launch) {Γ : GG} {ad : Nat → Nat} {f : Nat → Int32} {g : Nat → Nat → Int32} {n : Nat} {S : Nat → Nat → Nat} (hS : SayM n S f g) (hB : SayB n S) {wt : Nat → Nat} {nw : Nat → Prop} {th ho be : Nat} (hL : LawM wt nw th ho be f g) (hLB : LawB wt th ho be) {q t : Nat} (hq : q < 10) (ht : t < 80) : Con E l yX10_costAt cX10_costAt 7 (some .int) rm_X10_costAt Γ (wM Γ ad f g) [.ref (ad 0), .int (iI (((q : Nat) : Int))), .int (iI (((t : Nat) : Int)))] (Qi (iI (aCa n S wt nw th q t n : Nat)) (wM Γ ad f g)) := by
  refine Con_mk (by decide) (Nat.le_of_ble_eq_true rfl) ?_
  intro p e s₀ m args below meth c A Fx hr hlk hnm X ls hl
  have hl : lv_has ls 7 [(0, .ref (ad 0)), (1, .int (iI (((q : Nat) : Int)))), (2, .int (iI (((t : Nat) : Int))))] := hl
  have hB1 := hB.1
  refine k_iconst Fx dX10_costAt_0 ?_
  refine lv_istore_n (lv' := [(3, .int (iI (0))), (0, .ref (ad 0)), (1, .int (iI (((q : Nat) : Int)))), (2, .int (iI (((t : Nat) : Int))))]) Fx.1 Fx.2.1 dX10_costAt_1 rfl hl (by decide) rfl (fun ls hl => ?_)
  refine k_iconst Fx dX10_costAt_2 ?_
  refine lv_istore (lv' := [(4, .int (iI (0))), (3, .int (iI (0))), (0, .ref (ad 0)), (1, .int (iI (((q : Nat) : Int)))), (2, .int (iI (((t : Nat) : Int))))]) Fx.1 Fx.2.1 dX10_costAt_3 hl (by decide) rfl (fun ls hl => ?_)
  have lp_5 : ∀ (nn : Nat) (j : Nat), n - j < nn → (j ≤ n) → ∀ (H : Heap) (locs : List Loc) (ls : Array Slot), Wd E Γ A s₀ H locs (wM Γ ad f g) → lv_has ls 7 [(0, .ref (ad 0)), (1, .int (iI (((q : Nat) : Int)))), (2, .int (iI (((t : Nat) : Int)))), (3, .int (iI (((aCa n S wt nw th q t j : Nat) : Int)))), (4, .int (iI (((j : Nat) : Int))))] → W p l e rm_X10_costAt s₀ m args below meth c H locs (0) (0) (RQ below args s₀ Γ A (Qi (iI (aCa n S wt nw th q t n : Nat)) (wM Γ ad f g)) rm_X10_costAt) (F0 m 5 ls []) := by
    intro nn
    induction nn with
    | zero => intro j hmu; exact absurd hmu (Nat.not_lt_zero _)
    | succ nn ih =>
      intro j hmu hj H locs ls X hl
      have ih_5 := ih
      have hB3 := hB.2 j
      refine lv_iload Fx.1 Fx.2.1 dX10_costAt_5 (lv_at hl 4 rfl) ?_
      refine lv_aload_n Fx.1 Fx.2.1 dX10_costAt_7 rfl (lv_at hl 0 rfl) ?_
      refine gM_0 (x := (iI (((n : Nat) : Int)))) Fx X (hS.1) dX10_costAt_8 ?_
      refine k_icmp_ge (a := ((j : Nat) : Int)) (b := ((n : Nat) : Int)) (tgt := 106) Fx dX10_costAt_11 (by decide) (by omega) (by omega) (fun c_11 => ?_) (fun c_11 => ?_)
      · refine lv_iload_n Fx.1 Fx.2.1 dX10_costAt_106 rfl (lv_at hl 3 rfl) ?_
        exact r_iret Fx hr hlk X (by decide) dX10_costAt_107 (Qi_mk (congrArg (fun z : Nat => iI (aCa n S wt nw th q t z : Nat)) (show j = n by omega)))
      · refine lv_aload_n Fx.1 Fx.2.1 dX10_costAt_14 rfl (lv_at hl 0 rfl) ?_
        refine lv_iload Fx.1 Fx.2.1 dX10_costAt_15 (lv_at hl 4 rfl) ?_
        refine lv_iload_n Fx.1 Fx.2.1 dX10_costAt_17 rfl (lv_at hl 1 rfl) ?_
        refine r_callVi (As := [.int (iI (((j : Nat) : Int))), .int (iI (((q : Nat) : Int)))]) (rest := []) hE Fx X (c_X10_counts hE l hS hB hL hLB (i := j) (t := q) (by omega) (by omega)) cV_X10_204 (recM X) rfl rfl (Nat.le_of_ble_eq_true rfl) (by decide) hl.1 dX10_costAt_18 (fun H locs X => ?_)
        refine k_bif_ne (tgt := 27) Fx dX10_costAt_21 (by decide) (fun c_21 => ?_) (fun c_21 => ?_)
        · refine lv_aload_n Fx.1 Fx.2.1 dX10_costAt_27 rfl (lv_at hl 0 rfl) ?_
          refine lv_iload Fx.1 Fx.2.1 dX10_costAt_28 (lv_at hl 4 rfl) ?_
          refine lv_aload_n Fx.1 Fx.2.1 dX10_costAt_30 rfl (lv_at hl 0 rfl) ?_
          refine gM_6 Fx X dX10_costAt_31 ?_
          refine lv_iload Fx.1 Fx.2.1 dX10_costAt_34 (lv_at hl 4 rfl) ?_
          refine ldM_6 (z := ((j : Nat) : Int)) (i := j) (x := (iI (((S 3 j : Nat) : Int)))) Fx X (rfl) (by omega) (hS.2.2.2.2.1 j) dX10_costAt_36 ?_
          have b6_x := hB.2 j
          have hB4 := aMv_lt (S := S) (th := th) (i := j) (f := S 3 j) (by omega)
          have hB5 := aMv_lt (S := S) (th := th) (i := j) (f := S 4 j) (by omega)
          refine r_callVi (As := [.int (iI (((j : Nat) : Int))), .int (iI (((S 3 j : Nat) : Int)))]) (rest := []) hE Fx X (c_X10_moved hE l hS hB hL hLB (i := j) (t := S 3 j) (by omega) (by omega)) cV_X10_200 (recM X) rfl rfl (Nat.le_of_ble_eq_true rfl) (by decide) hl.1 dX10_costAt_37 (fun H locs X => ?_)
          refine lv_istore (lv' := [(5, .int (iI (((aMv S th j (S 3 j) : Nat) : Int)))), (0, .ref (ad 0)), (1, .int (iI (((q : Nat) : Int)))), (2, .int (iI (((t : Nat) : Int)))), (3, .int (iI (((aCa n S wt nw th q t j : Nat) : Int)))), (4, .int (iI (((j : Nat) : Int))))]) Fx.1 Fx.2.1 dX10_costAt_40 hl (by decide) rfl (fun ls hl => ?_)
          refine lv_aload_n Fx.1 Fx.2.1 dX10_costAt_42 rfl (lv_at hl 1 rfl) ?_
          refine lv_iload Fx.1 Fx.2.1 dX10_costAt_43 (lv_at hl 5 rfl) ?_
          refine lv_aload_n Fx.1 Fx.2.1 dX10_costAt_45 rfl (lv_at hl 1 rfl) ?_
          refine gM_7 Fx X dX10_costAt_46 ?_
          refine lv_iload Fx.1 Fx.2.1 dX10_costAt_49 (lv_at hl 5 rfl) ?_
          refine ldM_7 (z := ((j : Nat) : Int)) (i := j) (x := (iI (((S 4 j : Nat) : Int)))) Fx X (rfl) (by omega) (hS.2.2.2.2.2.1 j) dX10_costAt_51 ?_
          have b7_x := hB.2 j
          refine r_callVi (As := [.int (iI (((j : Nat) : Int))), .int (iI (((S 4 j : Nat) : Int)))]) (rest := []) hE Fx X (c_X10_moved hE l hS hB hL hLB (i := j) (t := S 4 j) (by omega) (by omega)) cV_X10_200 (recM X) rfl rfl (Nat.le_of_ble_eq_true rfl) (by decide) hl.1 dX10_costAt_52 (fun H locs X => ?_)
          refine lv_istore (lv' := [(6, .int (iI (((aMv S th j (S 4 j) : Nat) : Int)))), (5, .int (iI (((aMv S th j (S 3 j) : Nat) : Int)))), (0, .ref (ad 0)), (1, .int (iI (((q : Nat) : Int)))), (2, .int (iI (((t : Nat) : Int)))), (3, .int (iI (((aCa n S wt nw th q t j : Nat) : Int)))), (4, .int (iI (((j : Nat) : Int))))]) Fx.1 Fx.2.1 dX10_costAt_55 hl (by decide) rfl (fun ls hl => ?_)
          refine lv_iload_n Fx.1 Fx.2.1 dX10_costAt_57 rfl (lv_at hl 5 rfl) ?_
          refine lv_aload_n Fx.1 Fx.2.1 dX10_costAt_58 rfl (lv_at hl 2 rfl) ?_
          refine gM_13 Fx X dX10_costAt_59 ?_
          refine lv_aload_n Fx.1 Fx.2.1 dX10_costAt_62 rfl (lv_at hl 2 rfl) ?_
          refine gM_3 Fx X dX10_costAt_63 ?_
          refine lv_iload Fx.1 Fx.2.1 dX10_costAt_66 (lv_at hl 6 rfl) ?_
          refine ldM_3 (z := ((j : Nat) : Int)) (i := j) (x := (iI (((S 0 j : Nat) : Int)))) Fx X (rfl) (by omega) (hS.2.1 j) dX10_costAt_68 ?_
          have b3_x := hB.2 j
          refine ldM_13 (z := ((S 0 j : Nat) : Int)) (i := (S 0 j)) (x := (iI (((wt ((S 0 j)) : Nat) : Int)))) Fx X (rfl) (by omega) (hL.2.2.2.1 ((S 0 j)) (by omega)) dX10_costAt_69 ?_
          have bw_x := hLB.1 ((S 0 j))
          refine lv_iload_n Fx.1 Fx.2.1 dX10_costAt_70 rfl (lv_at hl 4 rfl) ?_
          refine lv_iload Fx.1 Fx.2.1 dX10_costAt_71 (lv_at hl 1 rfl) ?_
          refine k_icmp_ge (a := ((t : Nat) : Int)) (b := ((aMv S th j (S 3 j) : Nat) : Int)) (tgt := 83) Fx dX10_costAt_73 (by decide) (by omega) (by omega) (fun c_73 => ?_) (fun c_73 => ?_)
          · refine lv_iload_n Fx.1 Fx.2.1 dX10_costAt_83 rfl (lv_at hl 4 rfl) ?_
            refine lv_iload Fx.1 Fx.2.1 dX10_costAt_84 (lv_at hl 0 rfl) ?_
            refine k_icmp_le (a := ((t : Nat) : Int)) (b := ((aMv S th j (S 4 j) : Nat) : Int)) (tgt := 96) Fx dX10_costAt_86 (by decide) (by omega) (by omega) (fun c_86 => ?_) (fun c_86 => ?_)
            · refine k_iconst Fx dX10_costAt_96 ?_
              refine k_imul Fx dX10_costAt_97 ?_
              refine k_iadd Fx dX10_costAt_98 ?_
              refine lv_istore_n (lv' := [(3, .int (iI ((((aCa n S wt nw th q t j : Nat) : Int) + (((wt ((S 0 j)) : Nat) : Int) * 0))))), (6, .int (iI (((aMv S th j (S 4 j) : Nat) : Int)))), (5, .int (iI (((aMv S th j (S 3 j) : Nat) : Int)))), (0, .ref (ad 0)), (1, .int (iI (((q : Nat) : Int)))), (2, .int (iI (((t : Nat) : Int)))), (4, .int (iI (((j : Nat) : Int))))]) Fx.1 Fx.2.1 dX10_costAt_99 rfl hl (by decide) rfl (fun ls hl => ?_)
              refine k_iinc (k := 6) (a := ((j : Nat) : Int)) (lv' := [(4, .int (iI ((((j : Nat) : Int) + 1)))), (3, .int (iI ((((aCa n S wt nw th q t j : Nat) : Int) + (((wt ((S 0 j)) : Nat) : Int) * 0))))), (6, .int (iI (((aMv S th j (S 4 j) : Nat) : Int)))), (5, .int (iI (((aMv S th j (S 3 j) : Nat) : Int)))), (0, .ref (ad 0)), (1, .int (iI (((q : Nat) : Int)))), (2, .int (iI (((t : Nat) : Int))))]) Fx dX10_costAt_100 hl rfl (by decide) rfl (fun ls hl => ?_)
              refine lv_goto (tgt := 5) Fx.1 Fx.2.1 dX10_costAt_103 (by decide) ?_
              have hl_1 := lv_rp hl 1 rfl (show (iI ((((aCa n S wt nw th q t j : Nat) : Int) + (((wt ((S 0 j)) : Nat) : Int) * 0)))) = (iI (((aCa n S wt nw th q t (j + 1) : Nat) : Int))) from congrArg iI (ca_s3 c_21 c_73 c_86))
              have hl_2 := lv_rp hl_1 0 rfl (show (iI ((((j : Nat) : Int) + 1))) = (iI ((((j + 1) : Nat) : Int))) from congrArg iI (by omega))
              exact ih_5 (j + 1) (by omega) (by omega) _ _ _ X (lv_sub hl_2 [4, 5, 6, 1, 0] rfl)
            · refine lv_iload_n Fx.1 Fx.2.1 dX10_costAt_89 rfl (lv_at hl 4 rfl) ?_
              refine lv_iload Fx.1 Fx.2.1 dX10_costAt_90 (lv_at hl 0 rfl) ?_
              refine k_isub Fx dX10_costAt_92 ?_
              refine lv_goto (tgt := 97) Fx.1 Fx.2.1 dX10_costAt_93 (by decide) ?_
              refine k_imul Fx dX10_costAt_97 ?_
              refine k_iadd Fx dX10_costAt_98 ?_
              refine lv_istore_n (lv' := [(3, .int (iI ((((aCa n S wt nw th q t j : Nat) : Int) + (((wt ((S 0 j)) : Nat) : Int) * (((t : Nat) : Int) - ((aMv S th j (S 4 j) : Nat) : Int))))))), (6, .int (iI (((aMv S th j (S 4 j) : Nat) : Int)))), (5, .int (iI (((aMv S th j (S 3 j) : Nat) : Int)))), (0, .ref (ad 0)), (1, .int (iI (((q : Nat) : Int)))), (2, .int (iI (((t : Nat) : Int)))), (4, .int (iI (((j : Nat) : Int))))]) Fx.1 Fx.2.1 dX10_costAt_99 rfl hl (by decide) rfl (fun ls hl => ?_)
              refine k_iinc (k := 6) (a := ((j : Nat) : Int)) (lv' := [(4, .int (iI ((((j : Nat) : Int) + 1)))), (3, .int (iI ((((aCa n S wt nw th q t j : Nat) : Int) + (((wt ((S 0 j)) : Nat) : Int) * (((t : Nat) : Int) - ((aMv S th j (S 4 j) : Nat) : Int))))))), (6, .int (iI (((aMv S th j (S 4 j) : Nat) : Int)))), (5, .int (iI (((aMv S th j (S 3 j) : Nat) : Int)))), (0, .ref (ad 0)), (1, .int (iI (((q : Nat) : Int)))), (2, .int (iI (((t : Nat) : Int))))]) Fx dX10_costAt_100 hl rfl (by decide) rfl (fun ls hl => ?_)
              refine lv_goto (tgt := 5) Fx.1 Fx.2.1 dX10_costAt_103 (by decide) ?_
              have hl_3 := lv_rp hl 1 rfl (show (iI ((((aCa n S wt nw th q t j : Nat) : Int) + (((wt ((S 0 j)) : Nat) : Int) * (((t : Nat) : Int) - ((aMv S th j (S 4 j) : Nat) : Int)))))) = (iI (((aCa n S wt nw th q t (j + 1) : Nat) : Int))) from congrArg iI (ca_s2 c_21 c_73 c_86))
              have hl_4 := lv_rp hl_3 0 rfl (show (iI ((((j : Nat) : Int) + 1))) = (iI ((((j + 1) : Nat) : Int))) from congrArg iI (by omega))
              exact ih_5 (j + 1) (by omega) (by omega) _ _ _ X (lv_sub hl_4 [4, 5, 6, 1, 0] rfl)
          · refine lv_iload Fx.1 Fx.2.1 dX10_costAt_76 (lv_at hl 1 rfl) ?_
            refine lv_iload_n Fx.1 Fx.2.1 dX10_costAt_78 rfl (lv_at hl 4 rfl) ?_
            refine k_isub Fx dX10_costAt_79 ?_
            refine lv_goto (tgt := 97) Fx.1 Fx.2.1 dX10_costAt_80 (by decide) ?_
            refine k_imul Fx dX10_costAt_97 ?_
            refine k_iadd Fx dX10_costAt_98 ?_
            refine lv_istore_n (lv' := [(3, .int (iI ((((aCa n S wt nw th q t j : Nat) : Int) + (((wt ((S 0 j)) : Nat) : Int) * (((aMv S th j (S 3 j) : Nat) : Int) - ((t : Nat) : Int))))))), (6, .int (iI (((aMv S th j (S 4 j) : Nat) : Int)))), (5, .int (iI (((aMv S th j (S 3 j) : Nat) : Int)))), (0, .ref (ad 0)), (1, .int (iI (((q : Nat) : Int)))), (2, .int (iI (((t : Nat) : Int)))), (4, .int (iI (((j : Nat) : Int))))]) Fx.1 Fx.2.1 dX10_costAt_99 rfl hl (by decide) rfl (fun ls hl => ?_)
            refine k_iinc (k := 6) (a := ((j : Nat) : Int)) (lv' := [(4, .int (iI ((((j : Nat) : Int) + 1)))), (3, .int (iI ((((aCa n S wt nw th q t j : Nat) : Int) + (((wt ((S 0 j)) : Nat) : Int) * (((aMv S th j (S 3 j) : Nat) : Int) - ((t : Nat) : Int))))))), (6, .int (iI (((aMv S th j (S 4 j) : Nat) : Int)))), (5, .int (iI (((aMv S th j (S 3 j) : Nat) : Int)))), (0, .ref (ad 0)), (1, .int (iI (((q : Nat) : Int)))), (2, .int (iI (((t : Nat) : Int))))]) Fx dX10_costAt_100 hl rfl (by decide) rfl (fun ls hl => ?_)
            refine lv_goto (tgt := 5) Fx.1 Fx.2.1 dX10_costAt_103 (by decide) ?_
            have hl_5 := lv_rp hl 1 rfl (show (iI ((((aCa n S wt nw th q t j : Nat) : Int) + (((wt ((S 0 j)) : Nat) : Int) * (((aMv S th j (S 3 j) : Nat) : Int) - ((t : Nat) : Int)))))) = (iI (((aCa n S wt nw th q t (j + 1) : Nat) : Int))) from congrArg iI (ca_s1 c_21 c_73))
            have hl_6 := lv_rp hl_5 0 rfl (show (iI ((((j : Nat) : Int) + 1))) = (iI ((((j + 1) : Nat) : Int))) from congrArg iI (by omega))
            exact ih_5 (j + 1) (by omega) (by omega) _ _ _ X (lv_sub hl_6 [4, 5, 6, 1, 0] rfl)
        · refine lv_goto (tgt := 100) Fx.1 Fx.2.1 dX10_costAt_24 (by decide) ?_
          refine k_iinc (k := 4) (a := ((j : Nat) : Int)) (lv' := [(4, .int (iI ((((j : Nat) : Int) + 1)))), (0, .ref (ad 0)), (1, .int (iI (((q : Nat) : Int)))), (2, .int (iI (((t : Nat) : Int)))), (3, .int (iI (((aCa n S wt nw th q t j : Nat) : Int))))]) Fx dX10_costAt_100 hl rfl (by decide) rfl (fun ls hl => ?_)
          refine lv_goto (tgt := 5) Fx.1 Fx.2.1 dX10_costAt_103 (by decide) ?_
          have hl_7 := lv_rp hl 4 rfl (show (iI (((aCa n S wt nw th q t j : Nat) : Int))) = (iI (((aCa n S wt nw th q t (j + 1) : Nat) : Int))) from congrArg iI (ca_s4 c_21))
          have hl_8 := lv_rp hl_7 0 rfl (show (iI ((((j : Nat) : Int) + 1))) = (iI ((((j + 1) : Nat) : Int))) from congrArg iI (by omega))
          exact ih_5 (j + 1) (by omega) (by omega) _ _ _ X (lv_sub hl_8 [1, 2, 3, 4, 0] rfl)
  have hl_9 := lv_rp hl 1 rfl (show (iI (0)) = (iI (((aCa n S wt nw th q t 0 : Nat) : Int))) from rfl)
  have hl_10 := lv_rp hl_9 0 rfl (show (iI (0)) = (iI (((0 : Nat) : Int))) from congrArg iI (by omega))
  exact lp_5 _ (0) (Nat.lt_succ_self _) (by omega) _ _ _ X (lv_sub hl_10 [2, 3, 4, 1, 0] rfl)

