theorem fd_row {g : Nat → Nat → Int32} {tb : Nat → Nat} {tn k : Nat} {xa xb xc xd xe : Int32} (h : ∀ i, g 15 i = iI (tbF tb tn xa xb xc xd xe k i : Nat)) : ∀ i, updA g 15 (upd (g 15) (tn + k) (iI (fdK xa xb xc xd xe k : Nat))) 15 i = iI (tbF tb tn xa xb xc xd xe (k + 1) i : Nat) := by
  intro i
  rw [updA_s, tbF_s]
  by_cases e : i = tn + k
  · rw [if_pos e, e, upd_s]
  · rw [if_neg e, upd_n e]; exact h i

abbrev rm_X10_feed : Room := ({ frames := 0, cells := 0, slots := 0, locals := 0 } : Room)
set_option maxHeartbeats 4000000 in
set_option maxRecDepth 100000 in
theorem c_X10_feed {E : XX} (hE : XS E) (l : Launch) {Γ : GG} {ad : Nat → Nat} {f : Nat → Int32} {g : Nat → Nat → Int32} {tn : Nat} {tb : Nat → Nat} (hT : TapM tn tb f g) (hTB : TapB tn tb) {xa xb xc xd xe : Int32} : Con E l yX10_feed cX10_feed 8 (some .int) rm_X10_feed Γ (wM Γ ad f g) [.ref (ad 0), .int (xa), .int (xb), .int (xc), .int (xd), .int (xe)] (fun v w2 => (tn + 20 ≤ 400 ∧ v = some (.int (iI ((tn + 20 : Nat) : Int))) ∧ ∃ f1 g1, w2 = wM Γ ad f1 g1 ∧ TapM (tn + 20) (tbF tb tn xa xb xc xd xe 20) f1 g1 ∧ (∀ j, j ≠ 17 → f1 j = f j) ∧ (∀ j, j ≠ 15 → g1 j = g j)) ∨ (¬ (tn + 20 ≤ 400) ∧ v = some (.int (iI (-1))) ∧ w2 = wM Γ ad f g)) := by
  refine Con_mk (by decide) (Nat.le_of_ble_eq_true rfl) ?_
  intro p e s₀ m args below meth c A Fx hr hlk hnm X ls hl
  have hl : lv_has ls 8 [(0, .ref (ad 0)), (1, .int (xa)), (2, .int (xb)), (3, .int (xc)), (4, .int (xd)), (5, .int (xe))] := hl
  have hT2 := hTB.1
  refine lv_aload_n Fx.1 Fx.2.1 dX10_feed_0 rfl (lv_at hl 0 rfl) ?_
  refine gM_17 (x := (iI (((tn : Nat) : Int)))) Fx X (hT.1) dX10_feed_1 ?_
  refine k_bipush Fx dX10_feed_4 (by decide) ?_
  refine k_iadd Fx dX10_feed_6 ?_
  refine k_sipush Fx dX10_feed_7 (by decide) ?_
  refine k_icmp_le (a := (((tn : Nat) : Int) + 20)) (b := 400) (tgt := 15) Fx dX10_feed_10 (by decide) (by omega) (by omega) (fun c_10 => ?_) (fun c_10 => ?_)
  · refine k_iconst Fx dX10_feed_15 ?_
    refine lv_istore (lv' := [(6, .int (iI (0))), (0, .ref (ad 0)), (1, .int (xa)), (2, .int (xb)), (3, .int (xc)), (4, .int (xd)), (5, .int (xe))]) Fx.1 Fx.2.1 dX10_feed_16 hl (by decide) rfl (fun ls hl => ?_)
    have lp_18 : ∀ (nn : Nat) (k : Nat) (f1 : Nat → Int32) (g1 : Nat → Nat → Int32), 20 - k < nn → (k ≤ 20) → (f1 17 = iI ((tn + k : Nat) : Int)) → (∀ i, g1 15 i = iI (tbF tb tn xa xb xc xd xe k i : Nat)) → (∀ j, j ≠ 17 → f1 j = f j) → (∀ j, j ≠ 15 → g1 j = g j) → ∀ (H : Heap) (locs : List Loc) (ls : Array Slot), Wd E Γ A s₀ H locs (wM Γ ad f1 g1) → lv_has ls 8 [(0, .ref (ad 0)), (1, .int (xa)), (2, .int (xb)), (3, .int (xc)), (4, .int (xd)), (5, .int (xe)), (6, .int (iI (((k : Nat) : Int))))] → W p l e rm_X10_feed s₀ m args below meth c H locs (0) (0) (RQ below args s₀ Γ A (fun v w2 => (tn + 20 ≤ 400 ∧ v = some (.int (iI ((tn + 20 : Nat) : Int))) ∧ ∃ f1 g1, w2 = wM Γ ad f1 g1 ∧ TapM (tn + 20) (tbF tb tn xa xb xc xd xe 20) f1 g1 ∧ (∀ j, j ≠ 17 → f1 j = f j) ∧ (∀ j, j ≠ 15 → g1 j = g j)) ∨ (¬ (tn + 20 ≤ 400) ∧ v = some (.int (iI (-1))) ∧ w2 = wM Γ ad f g)) rm_X10_feed) (F0 m 18 ls []) := by
      intro nn
      induction nn with
      | zero => intro k f1 g1 hmu; exact absurd hmu (Nat.not_lt_zero _)
      | succ nn ih =>
        intro k f1 g1 hmu hk h17 hTb hFr hGr H locs ls X hl
        have ih_18 := ih
        refine lv_iload Fx.1 Fx.2.1 dX10_feed_18 (lv_at hl 6 rfl) ?_
        refine k_bipush Fx dX10_feed_20 (by decide) ?_
        refine k_icmp_ge (a := ((k : Nat) : Int)) (b := 20) (tgt := 115) Fx dX10_feed_22 (by decide) (by omega) (by omega) (fun c_22 => ?_) (fun c_22 => ?_)
        · refine lv_aload_n Fx.1 Fx.2.1 dX10_feed_115 rfl (lv_at hl 0 rfl) ?_
          refine gM_17 (x := (iI (((tn + k : Nat) : Int)))) Fx X (h17) dX10_feed_116 ?_
          exact r_iret Fx hr hlk X (by decide) dX10_feed_119 (Or.inl ⟨by omega, congrArg (fun z : Nat => some (Value.int (iI z))) (show tn + k = tn + 20 by omega), _, _, rfl, (show k = 20 by omega) ▸ ⟨h17, hTb⟩, hFr, hGr⟩)
        · refine lv_iload Fx.1 Fx.2.1 dX10_feed_25 (lv_at hl 6 rfl) ?_
          refine k_iconst Fx dX10_feed_27 ?_
          refine k_icmp_ge (a := ((k : Nat) : Int)) (b := 4) (tgt := 35) Fx dX10_feed_28 (by decide) (by omega) (by omega) (fun c_28 => ?_) (fun c_28 => ?_)
          · refine lv_iload Fx.1 Fx.2.1 dX10_feed_35 (lv_at hl 6 rfl) ?_
            refine k_bipush Fx dX10_feed_37 (by decide) ?_
            refine k_icmp_ge (a := ((k : Nat) : Int)) (b := 8) (tgt := 46) Fx dX10_feed_39 (by decide) (by omega) (by omega) (fun c_39 => ?_) (fun c_39 => ?_)
            · refine lv_iload Fx.1 Fx.2.1 dX10_feed_46 (lv_at hl 6 rfl) ?_
              refine k_bipush Fx dX10_feed_48 (by decide) ?_
              refine k_icmp_ge (a := ((k : Nat) : Int)) (b := 12) (tgt := 57) Fx dX10_feed_50 (by decide) (by omega) (by omega) (fun c_50 => ?_) (fun c_50 => ?_)
              · refine lv_iload Fx.1 Fx.2.1 dX10_feed_57 (lv_at hl 6 rfl) ?_
                refine k_bipush Fx dX10_feed_59 (by decide) ?_
                refine k_icmp_ge (a := ((k : Nat) : Int)) (b := 16) (tgt := 69) Fx dX10_feed_61 (by decide) (by omega) (by omega) (fun c_61 => ?_) (fun c_61 => ?_)
                · refine lv_iload Fx.1 Fx.2.1 dX10_feed_69 (lv_at hl 5 rfl) ?_
                  refine lv_istore (lv' := [(7, .int (xe)), (0, .ref (ad 0)), (1, .int (xa)), (2, .int (xb)), (3, .int (xc)), (4, .int (xd)), (5, .int (xe)), (6, .int (iI (((k : Nat) : Int))))]) Fx.1 Fx.2.1 dX10_feed_71 hl (by decide) rfl (fun ls hl => ?_)
                  refine lv_aload_n Fx.1 Fx.2.1 dX10_feed_73 rfl (lv_at hl 1 rfl) ?_
                  refine gM_15 Fx X dX10_feed_74 ?_
                  refine lv_aload_n Fx.1 Fx.2.1 dX10_feed_77 rfl (lv_at hl 1 rfl) ?_
                  refine gM_17 (x := (iI (((tn + k : Nat) : Int)))) Fx X (h17) dX10_feed_78 ?_
                  refine lv_iload Fx.1 Fx.2.1 dX10_feed_81 (lv_at hl 0 rfl) ?_
                  refine k_bipush Fx dX10_feed_83 (by decide) ?_
                  refine k_bipush Fx dX10_feed_85 (by decide) ?_
                  refine lv_iload Fx.1 Fx.2.1 dX10_feed_87 (lv_at hl 7 rfl) ?_
                  refine k_iconst Fx dX10_feed_89 ?_
                  refine lv_irem Fx.1 Fx.2.1 dX10_feed_90 (by decide) ?_
                  refine k_cg (show ((iI (((k : Nat) : Int))) - (iI (((k : Nat) : Int))) / (iI (4)) * (iI (4))) = (iI (((k % 4 : Nat) : Int))) from fd_rem k (by omega)) ?_
                  refine k_imul Fx dX10_feed_91 ?_
                  refine k_isub Fx dX10_feed_92 ?_
                  refine lv_ishr Fx.1 Fx.2.1 dX10_feed_93 ?_
                  refine k_sipush Fx dX10_feed_94 (by decide) ?_
                  refine lv_iand Fx.1 Fx.2.1 dX10_feed_97 ?_
                  refine k_cg (show (((xe) >>> ((iI ((24 - (8 * ((k % 4 : Nat) : Int))))) &&& 31)) &&& (iI (255))) = (iI (((fdK xa xb xc xd xe k : Nat) : Int))) from (fdB_and _ _).trans (congrArg (fun z : Int32 => iI (fdB z (iI (24 - 8 * ((k % 4 : Nat) : Int))) : Nat)) (show _ = fdV xa xb xc xd xe k by unfold fdV; rw [if_neg (by omega), if_neg (by omega), if_neg (by omega), if_neg (by omega)]))) ?_
                  refine stM_15 (z := ((tn + k : Nat) : Int)) (i := (tn + k)) Fx X (rfl) (by omega) dX10_feed_98 (fun H locs X => ?_)
                  refine lv_aload_n Fx.1 Fx.2.1 dX10_feed_99 rfl (lv_at hl 1 rfl) ?_
                  refine lv_dup Fx.1 Fx.2.1 dX10_feed_100 rfl ?_
                  refine gM_17 (x := (iI (((tn + k : Nat) : Int)))) Fx X (h17) dX10_feed_101 ?_
                  refine k_iconst Fx dX10_feed_104 ?_
                  refine k_iadd Fx dX10_feed_105 ?_
                  refine pM_17 Fx X dX10_feed_106 (fun H locs X => ?_)
                  refine k_iinc (k := 7) (a := ((k : Nat) : Int)) (lv' := [(6, .int (iI ((((k : Nat) : Int) + 1)))), (7, .int (xe)), (0, .ref (ad 0)), (1, .int (xa)), (2, .int (xb)), (3, .int (xc)), (4, .int (xd)), (5, .int (xe))]) Fx dX10_feed_109 hl rfl (by decide) rfl (fun ls hl => ?_)
                  refine lv_goto (tgt := 18) Fx.1 Fx.2.1 dX10_feed_112 (by decide) ?_
                  have hl_1 := lv_rp hl 0 rfl (show (iI ((((k : Nat) : Int) + 1))) = (iI ((((k + 1) : Nat) : Int))) from congrArg iI (by omega))
                  exact ih_18 (k + 1) ((upd f1 17 (iI ((((tn + k : Nat) : Int) + 1))))) ((updA g1 15 (upd (g1 15) (tn + k) (iI (((fdK xa xb xc xd xe k : Nat) : Int)))))) (by omega) (by omega) (rfl) (fd_row hTb) (fun j hj => (upd_n hj).trans (hFr j hj)) (fun j hj => (updA_n hj).trans (hGr j hj)) _ _ _ X (lv_sub hl_1 [2, 3, 4, 5, 6, 7, 0] rfl)
                · refine lv_iload Fx.1 Fx.2.1 dX10_feed_64 (lv_at hl 4 rfl) ?_
                  refine lv_goto (tgt := 71) Fx.1 Fx.2.1 dX10_feed_66 (by decide) ?_
                  refine lv_istore (lv' := [(7, .int (xd)), (0, .ref (ad 0)), (1, .int (xa)), (2, .int (xb)), (3, .int (xc)), (4, .int (xd)), (5, .int (xe)), (6, .int (iI (((k : Nat) : Int))))]) Fx.1 Fx.2.1 dX10_feed_71 hl (by decide) rfl (fun ls hl => ?_)
                  refine lv_aload_n Fx.1 Fx.2.1 dX10_feed_73 rfl (lv_at hl 1 rfl) ?_
                  refine gM_15 Fx X dX10_feed_74 ?_
                  refine lv_aload_n Fx.1 Fx.2.1 dX10_feed_77 rfl (lv_at hl 1 rfl) ?_
                  refine gM_17 (x := (iI (((tn + k : Nat) : Int)))) Fx X (h17) dX10_feed_78 ?_
                  refine lv_iload Fx.1 Fx.2.1 dX10_feed_81 (lv_at hl 0 rfl) ?_
                  refine k_bipush Fx dX10_feed_83 (by decide) ?_
                  refine k_bipush Fx dX10_feed_85 (by decide) ?_
                  refine lv_iload Fx.1 Fx.2.1 dX10_feed_87 (lv_at hl 7 rfl) ?_
                  refine k_iconst Fx dX10_feed_89 ?_
                  refine lv_irem Fx.1 Fx.2.1 dX10_feed_90 (by decide) ?_
                  refine k_cg (show ((iI (((k : Nat) : Int))) - (iI (((k : Nat) : Int))) / (iI (4)) * (iI (4))) = (iI (((k % 4 : Nat) : Int))) from fd_rem k (by omega)) ?_
                  refine k_imul Fx dX10_feed_91 ?_
                  refine k_isub Fx dX10_feed_92 ?_
                  refine lv_ishr Fx.1 Fx.2.1 dX10_feed_93 ?_
                  refine k_sipush Fx dX10_feed_94 (by decide) ?_
                  refine lv_iand Fx.1 Fx.2.1 dX10_feed_97 ?_
                  refine k_cg (show (((xd) >>> ((iI ((24 - (8 * ((k % 4 : Nat) : Int))))) &&& 31)) &&& (iI (255))) = (iI (((fdK xa xb xc xd xe k : Nat) : Int))) from (fdB_and _ _).trans (congrArg (fun z : Int32 => iI (fdB z (iI (24 - 8 * ((k % 4 : Nat) : Int))) : Nat)) (show _ = fdV xa xb xc xd xe k by unfold fdV; rw [if_neg (by omega), if_neg (by omega), if_neg (by omega), if_pos (by omega)]))) ?_
                  refine stM_15 (z := ((tn + k : Nat) : Int)) (i := (tn + k)) Fx X (rfl) (by omega) dX10_feed_98 (fun H locs X => ?_)
                  refine lv_aload_n Fx.1 Fx.2.1 dX10_feed_99 rfl (lv_at hl 1 rfl) ?_
                  refine lv_dup Fx.1 Fx.2.1 dX10_feed_100 rfl ?_
                  refine gM_17 (x := (iI (((tn + k : Nat) : Int)))) Fx X (h17) dX10_feed_101 ?_
                  refine k_iconst Fx dX10_feed_104 ?_
                  refine k_iadd Fx dX10_feed_105 ?_
                  refine pM_17 Fx X dX10_feed_106 (fun H locs X => ?_)
                  refine k_iinc (k := 7) (a := ((k : Nat) : Int)) (lv' := [(6, .int (iI ((((k : Nat) : Int) + 1)))), (7, .int (xd)), (0, .ref (ad 0)), (1, .int (xa)), (2, .int (xb)), (3, .int (xc)), (4, .int (xd)), (5, .int (xe))]) Fx dX10_feed_109 hl rfl (by decide) rfl (fun ls hl => ?_)
                  refine lv_goto (tgt := 18) Fx.1 Fx.2.1 dX10_feed_112 (by decide) ?_
                  have hl_2 := lv_rp hl 0 rfl (show (iI ((((k : Nat) : Int) + 1))) = (iI ((((k + 1) : Nat) : Int))) from congrArg iI (by omega))
                  exact ih_18 (k + 1) ((upd f1 17 (iI ((((tn + k : Nat) : Int) + 1))))) ((updA g1 15 (upd (g1 15) (tn + k) (iI (((fdK xa xb xc xd xe k : Nat) : Int)))))) (by omega) (by omega) (rfl) (fd_row hTb) (fun j hj => (upd_n hj).trans (hFr j hj)) (fun j hj => (updA_n hj).trans (hGr j hj)) _ _ _ X (lv_sub hl_2 [2, 3, 4, 5, 6, 7, 0] rfl)
              · refine lv_iload_n Fx.1 Fx.2.1 dX10_feed_53 rfl (lv_at hl 3 rfl) ?_
                refine lv_goto (tgt := 71) Fx.1 Fx.2.1 dX10_feed_54 (by decide) ?_
                refine lv_istore (lv' := [(7, .int (xc)), (0, .ref (ad 0)), (1, .int (xa)), (2, .int (xb)), (3, .int (xc)), (4, .int (xd)), (5, .int (xe)), (6, .int (iI (((k : Nat) : Int))))]) Fx.1 Fx.2.1 dX10_feed_71 hl (by decide) rfl (fun ls hl => ?_)
                refine lv_aload_n Fx.1 Fx.2.1 dX10_feed_73 rfl (lv_at hl 1 rfl) ?_
                refine gM_15 Fx X dX10_feed_74 ?_
                refine lv_aload_n Fx.1 Fx.2.1 dX10_feed_77 rfl (lv_at hl 1 rfl) ?_
                refine gM_17 (x := (iI (((tn + k : Nat) : Int)))) Fx X (h17) dX10_feed_78 ?_
                refine lv_iload Fx.1 Fx.2.1 dX10_feed_81 (lv_at hl 0 rfl) ?_
                refine k_bipush Fx dX10_feed_83 (by decide) ?_
                refine k_bipush Fx dX10_feed_85 (by decide) ?_
                refine lv_iload Fx.1 Fx.2.1 dX10_feed_87 (lv_at hl 7 rfl) ?_
                refine k_iconst Fx dX10_feed_89 ?_
                refine lv_irem Fx.1 Fx.2.1 dX10_feed_90 (by decide) ?_
                refine k_cg (show ((iI (((k : Nat) : Int))) - (iI (((k : Nat) : Int))) / (iI (4)) * (iI (4))) = (iI (((k % 4 : Nat) : Int))) from fd_rem k (by omega)) ?_
                refine k_imul Fx dX10_feed_91 ?_
                refine k_isub Fx dX10_feed_92 ?_
                refine lv_ishr Fx.1 Fx.2.1 dX10_feed_93 ?_
                refine k_sipush Fx dX10_feed_94 (by decide) ?_
                refine lv_iand Fx.1 Fx.2.1 dX10_feed_97 ?_
                refine k_cg (show (((xc) >>> ((iI ((24 - (8 * ((k % 4 : Nat) : Int))))) &&& 31)) &&& (iI (255))) = (iI (((fdK xa xb xc xd xe k : Nat) : Int))) from (fdB_and _ _).trans (congrArg (fun z : Int32 => iI (fdB z (iI (24 - 8 * ((k % 4 : Nat) : Int))) : Nat)) (show _ = fdV xa xb xc xd xe k by unfold fdV; rw [if_neg (by omega), if_neg (by omega), if_pos (by omega)]))) ?_
                refine stM_15 (z := ((tn + k : Nat) : Int)) (i := (tn + k)) Fx X (rfl) (by omega) dX10_feed_98 (fun H locs X => ?_)
                refine lv_aload_n Fx.1 Fx.2.1 dX10_feed_99 rfl (lv_at hl 1 rfl) ?_
                refine lv_dup Fx.1 Fx.2.1 dX10_feed_100 rfl ?_
                refine gM_17 (x := (iI (((tn + k : Nat) : Int)))) Fx X (h17) dX10_feed_101 ?_
                refine k_iconst Fx dX10_feed_104 ?_
                refine k_iadd Fx dX10_feed_105 ?_
                refine pM_17 Fx X dX10_feed_106 (fun H locs X => ?_)
                refine k_iinc (k := 7) (a := ((k : Nat) : Int)) (lv' := [(6, .int (iI ((((k : Nat) : Int) + 1)))), (7, .int (xc)), (0, .ref (ad 0)), (1, .int (xa)), (2, .int (xb)), (3, .int (xc)), (4, .int (xd)), (5, .int (xe))]) Fx dX10_feed_109 hl rfl (by decide) rfl (fun ls hl => ?_)
                refine lv_goto (tgt := 18) Fx.1 Fx.2.1 dX10_feed_112 (by decide) ?_
                have hl_3 := lv_rp hl 0 rfl (show (iI ((((k : Nat) : Int) + 1))) = (iI ((((k + 1) : Nat) : Int))) from congrArg iI (by omega))
                exact ih_18 (k + 1) ((upd f1 17 (iI ((((tn + k : Nat) : Int) + 1))))) ((updA g1 15 (upd (g1 15) (tn + k) (iI (((fdK xa xb xc xd xe k : Nat) : Int)))))) (by omega) (by omega) (rfl) (fd_row hTb) (fun j hj => (upd_n hj).trans (hFr j hj)) (fun j hj => (updA_n hj).trans (hGr j hj)) _ _ _ X (lv_sub hl_3 [2, 3, 4, 5, 6, 7, 0] rfl)
            · refine lv_iload_n Fx.1 Fx.2.1 dX10_feed_42 rfl (lv_at hl 2 rfl) ?_
              refine lv_goto (tgt := 71) Fx.1 Fx.2.1 dX10_feed_43 (by decide) ?_
              refine lv_istore (lv' := [(7, .int (xb)), (0, .ref (ad 0)), (1, .int (xa)), (2, .int (xb)), (3, .int (xc)), (4, .int (xd)), (5, .int (xe)), (6, .int (iI (((k : Nat) : Int))))]) Fx.1 Fx.2.1 dX10_feed_71 hl (by decide) rfl (fun ls hl => ?_)
              refine lv_aload_n Fx.1 Fx.2.1 dX10_feed_73 rfl (lv_at hl 1 rfl) ?_
              refine gM_15 Fx X dX10_feed_74 ?_
              refine lv_aload_n Fx.1 Fx.2.1 dX10_feed_77 rfl (lv_at hl 1 rfl) ?_
              refine gM_17 (x := (iI (((tn + k : Nat) : Int)))) Fx X (h17) dX10_feed_78 ?_
              refine lv_iload Fx.1 Fx.2.1 dX10_feed_81 (lv_at hl 0 rfl) ?_
              refine k_bipush Fx dX10_feed_83 (by decide) ?_
              refine k_bipush Fx dX10_feed_85 (by decide) ?_
              refine lv_iload Fx.1 Fx.2.1 dX10_feed_87 (lv_at hl 7 rfl) ?_
              refine k_iconst Fx dX10_feed_89 ?_
              refine lv_irem Fx.1 Fx.2.1 dX10_feed_90 (by decide) ?_
              refine k_cg (show ((iI (((k : Nat) : Int))) - (iI (((k : Nat) : Int))) / (iI (4)) * (iI (4))) = (iI (((k % 4 : Nat) : Int))) from fd_rem k (by omega)) ?_
              refine k_imul Fx dX10_feed_91 ?_
              refine k_isub Fx dX10_feed_92 ?_
              refine lv_ishr Fx.1 Fx.2.1 dX10_feed_93 ?_
              refine k_sipush Fx dX10_feed_94 (by decide) ?_
              refine lv_iand Fx.1 Fx.2.1 dX10_feed_97 ?_
              refine k_cg (show (((xb) >>> ((iI ((24 - (8 * ((k % 4 : Nat) : Int))))) &&& 31)) &&& (iI (255))) = (iI (((fdK xa xb xc xd xe k : Nat) : Int))) from (fdB_and _ _).trans (congrArg (fun z : Int32 => iI (fdB z (iI (24 - 8 * ((k % 4 : Nat) : Int))) : Nat)) (show _ = fdV xa xb xc xd xe k by unfold fdV; rw [if_neg (by omega), if_pos (by omega)]))) ?_
              refine stM_15 (z := ((tn + k : Nat) : Int)) (i := (tn + k)) Fx X (rfl) (by omega) dX10_feed_98 (fun H locs X => ?_)
              refine lv_aload_n Fx.1 Fx.2.1 dX10_feed_99 rfl (lv_at hl 1 rfl) ?_
              refine lv_dup Fx.1 Fx.2.1 dX10_feed_100 rfl ?_
              refine gM_17 (x := (iI (((tn + k : Nat) : Int)))) Fx X (h17) dX10_feed_101 ?_
              refine k_iconst Fx dX10_feed_104 ?_
              refine k_iadd Fx dX10_feed_105 ?_
              refine pM_17 Fx X dX10_feed_106 (fun H locs X => ?_)
              refine k_iinc (k := 7) (a := ((k : Nat) : Int)) (lv' := [(6, .int (iI ((((k : Nat) : Int) + 1)))), (7, .int (xb)), (0, .ref (ad 0)), (1, .int (xa)), (2, .int (xb)), (3, .int (xc)), (4, .int (xd)), (5, .int (xe))]) Fx dX10_feed_109 hl rfl (by decide) rfl (fun ls hl => ?_)
              refine lv_goto (tgt := 18) Fx.1 Fx.2.1 dX10_feed_112 (by decide) ?_
              have hl_4 := lv_rp hl 0 rfl (show (iI ((((k : Nat) : Int) + 1))) = (iI ((((k + 1) : Nat) : Int))) from congrArg iI (by omega))
              exact ih_18 (k + 1) ((upd f1 17 (iI ((((tn + k : Nat) : Int) + 1))))) ((updA g1 15 (upd (g1 15) (tn + k) (iI (((fdK xa xb xc xd xe k : Nat) : Int)))))) (by omega) (by omega) (rfl) (fd_row hTb) (fun j hj => (upd_n hj).trans (hFr j hj)) (fun j hj => (updA_n hj).trans (hGr j hj)) _ _ _ X (lv_sub hl_4 [2, 3, 4, 5, 6, 7, 0] rfl)
          · refine lv_iload_n Fx.1 Fx.2.1 dX10_feed_31 rfl (lv_at hl 1 rfl) ?_
            refine lv_goto (tgt := 71) Fx.1 Fx.2.1 dX10_feed_32 (by decide) ?_
            refine lv_istore (lv' := [(7, .int (xa)), (0, .ref (ad 0)), (1, .int (xa)), (2, .int (xb)), (3, .int (xc)), (4, .int (xd)), (5, .int (xe)), (6, .int (iI (((k : Nat) : Int))))]) Fx.1 Fx.2.1 dX10_feed_71 hl (by decide) rfl (fun ls hl => ?_)
            refine lv_aload_n Fx.1 Fx.2.1 dX10_feed_73 rfl (lv_at hl 1 rfl) ?_
            refine gM_15 Fx X dX10_feed_74 ?_
            refine lv_aload_n Fx.1 Fx.2.1 dX10_feed_77 rfl (lv_at hl 1 rfl) ?_
            refine gM_17 (x := (iI (((tn + k : Nat) : Int)))) Fx X (h17) dX10_feed_78 ?_
            refine lv_iload Fx.1 Fx.2.1 dX10_feed_81 (lv_at hl 0 rfl) ?_
            refine k_bipush Fx dX10_feed_83 (by decide) ?_
            refine k_bipush Fx dX10_feed_85 (by decide) ?_
            refine lv_iload Fx.1 Fx.2.1 dX10_feed_87 (lv_at hl 7 rfl) ?_
            refine k_iconst Fx dX10_feed_89 ?_
            refine lv_irem Fx.1 Fx.2.1 dX10_feed_90 (by decide) ?_
            refine k_cg (show ((iI (((k : Nat) : Int))) - (iI (((k : Nat) : Int))) / (iI (4)) * (iI (4))) = (iI (((k % 4 : Nat) : Int))) from fd_rem k (by omega)) ?_
            refine k_imul Fx dX10_feed_91 ?_
            refine k_isub Fx dX10_feed_92 ?_
            refine lv_ishr Fx.1 Fx.2.1 dX10_feed_93 ?_
            refine k_sipush Fx dX10_feed_94 (by decide) ?_
            refine lv_iand Fx.1 Fx.2.1 dX10_feed_97 ?_
            refine k_cg (show (((xa) >>> ((iI ((24 - (8 * ((k % 4 : Nat) : Int))))) &&& 31)) &&& (iI (255))) = (iI (((fdK xa xb xc xd xe k : Nat) : Int))) from (fdB_and _ _).trans (congrArg (fun z : Int32 => iI (fdB z (iI (24 - 8 * ((k % 4 : Nat) : Int))) : Nat)) (show _ = fdV xa xb xc xd xe k by unfold fdV; rw [if_pos (by omega)]))) ?_
            refine stM_15 (z := ((tn + k : Nat) : Int)) (i := (tn + k)) Fx X (rfl) (by omega) dX10_feed_98 (fun H locs X => ?_)
            refine lv_aload_n Fx.1 Fx.2.1 dX10_feed_99 rfl (lv_at hl 1 rfl) ?_
            refine lv_dup Fx.1 Fx.2.1 dX10_feed_100 rfl ?_
            refine gM_17 (x := (iI (((tn + k : Nat) : Int)))) Fx X (h17) dX10_feed_101 ?_
            refine k_iconst Fx dX10_feed_104 ?_
            refine k_iadd Fx dX10_feed_105 ?_
            refine pM_17 Fx X dX10_feed_106 (fun H locs X => ?_)
            refine k_iinc (k := 7) (a := ((k : Nat) : Int)) (lv' := [(6, .int (iI ((((k : Nat) : Int) + 1)))), (7, .int (xa)), (0, .ref (ad 0)), (1, .int (xa)), (2, .int (xb)), (3, .int (xc)), (4, .int (xd)), (5, .int (xe))]) Fx dX10_feed_109 hl rfl (by decide) rfl (fun ls hl => ?_)
            refine lv_goto (tgt := 18) Fx.1 Fx.2.1 dX10_feed_112 (by decide) ?_
            have hl_5 := lv_rp hl 0 rfl (show (iI ((((k : Nat) : Int) + 1))) = (iI ((((k + 1) : Nat) : Int))) from congrArg iI (by omega))
            exact ih_18 (k + 1) ((upd f1 17 (iI ((((tn + k : Nat) : Int) + 1))))) ((updA g1 15 (upd (g1 15) (tn + k) (iI (((fdK xa xb xc xd xe k : Nat) : Int)))))) (by omega) (by omega) (rfl) (fd_row hTb) (fun j hj => (upd_n hj).trans (hFr j hj)) (fun j hj => (updA_n hj).trans (hGr j hj)) _ _ _ X (lv_sub hl_5 [2, 3, 4, 5, 6, 7, 0] rfl)
    have hl_6 := lv_rp hl 0 rfl (show (iI (0)) = (iI (((0 : Nat) : Int))) from congrArg iI (by omega))
    exact lp_18 _ (0) (f) (g) (Nat.lt_succ_self _) (by omega) (hT.1) (by rw [tbF_0]; exact hT.2) (fun _ _ => rfl) (fun _ _ => rfl) _ _ _ X (lv_sub hl_6 [1, 2, 3, 4, 5, 6, 0] rfl)
  · refine k_iconst Fx dX10_feed_13 ?_
    exact r_iret Fx hr hlk X (by decide) dX10_feed_14 (Or.inr ⟨by omega, rfl, rfl⟩)

