abbrev rm_X10_onFrom : Room := ({ frames := 1, cells := 0, slots := 0, locals := 20 } : Room)
set_option maxHeartbeats 4000000 in
set_option maxRecDepth 100000 in
theorem c_X10_onFrom {E : XX} (hE : XS E) (l : Launch) {Γ : GG} {ad : Nat → Nat} {f : Nat → Int32} {g : Nat → Nat → Int32} {n : Nat} {S : Nat → Nat → Nat} (hS : SayM n S f g) (hB : SayB n S) {wt : Nat → Nat} {nw : Nat → Prop} {th ho be : Nat} (hL : LawM wt nw th ho be f g) (hLB : LawB wt th ho be) {P : Nat → Nat} {q t : Nat} (hq : q < 10) (ht : t < 80) (hPB : ∀ a, P a < 80) (hC : ∀ a b, a < 10 → b < 80 → g 27 (80 * a + b) = iI (aOn n S wt nw th be a b : Nat)) (hP : ∀ a, a < q → g 28 a = iI (P a : Nat)) : Con E l yX10_onFrom cX10_onFrom 3 (some .int) rm_X10_onFrom Γ (wM Γ ad f g) [.ref (ad 0), .int (iI (((q : Nat) : Int))), .int (iI (((t : Nat) : Int)))] (Qi (iI (aPr n S wt nw th be P q t : Nat)) (wM Γ ad f g)) := by
  refine Con_mk (by decide) (Nat.le_of_ble_eq_true rfl) ?_
  intro p e s₀ m args below meth c A Fx hr hlk hnm X ls hl
  have hl : lv_has ls 3 [(0, .ref (ad 0)), (1, .int (iI (((q : Nat) : Int)))), (2, .int (iI (((t : Nat) : Int))))] := hl
  refine lv_aload_n Fx.1 Fx.2.1 dX10_onFrom_0 rfl (lv_at hl 0 rfl) ?_
  refine gM_27 Fx X dX10_onFrom_1 ?_
  refine k_bipush Fx dX10_onFrom_4 (by decide) ?_
  refine lv_iload_n Fx.1 Fx.2.1 dX10_onFrom_6 rfl (lv_at hl 1 rfl) ?_
  refine k_imul Fx dX10_onFrom_7 ?_
  refine lv_iload_n Fx.1 Fx.2.1 dX10_onFrom_8 rfl (lv_at hl 2 rfl) ?_
  refine k_iadd Fx dX10_onFrom_9 ?_
  refine ldM_27 (z := ((80 * ((q : Nat) : Int)) + ((t : Nat) : Int))) (i := (80 * q + t)) (x := (iI (((aOn n S wt nw th be q t : Nat) : Int)))) Fx X (by omega) (by omega) (hC q t hq ht) dX10_onFrom_10 ?_
  refine lv_iload_n Fx.1 Fx.2.1 dX10_onFrom_11 rfl (lv_at hl 1 rfl) ?_
  refine k_if_ne (a := ((q : Nat) : Int)) (tgt := 19) Fx dX10_onFrom_12 (by decide) (by omega) (fun c_12 => ?_) (fun c_12 => ?_)
  · refine lv_aload_n Fx.1 Fx.2.1 dX10_onFrom_19 rfl (lv_at hl 0 rfl) ?_
    refine gM_12 (x := (iI (((be : Nat) : Int)))) Fx X (hL.2.2.1) dX10_onFrom_20 ?_
    refine lv_iload_n Fx.1 Fx.2.1 dX10_onFrom_23 rfl (lv_at hl 2 rfl) ?_
    refine lv_aload_n Fx.1 Fx.2.1 dX10_onFrom_24 rfl (lv_at hl 0 rfl) ?_
    refine gM_28 Fx X dX10_onFrom_25 ?_
    refine lv_iload_n Fx.1 Fx.2.1 dX10_onFrom_28 rfl (lv_at hl 1 rfl) ?_
    refine k_iconst Fx dX10_onFrom_29 ?_
    refine k_isub Fx dX10_onFrom_30 ?_
    refine ldM_28 (z := (((q : Nat) : Int) - 1)) (i := (q - 1)) (x := (iI (((P (q - 1) : Nat) : Int)))) Fx X (by omega) (by omega) (hP (q - 1) (by omega)) dX10_onFrom_31 ?_
    have bP := hPB (q - 1)
    refine k_isub Fx dX10_onFrom_32 ?_
    refine r_callSi (As := [.int (iI ((((t : Nat) : Int) - ((P (q - 1) : Nat) : Int))))]) (rest := [.int (iI (((be : Nat) : Int))), .int (iI (((aOn n S wt nw th be q t : Nat) : Int)))]) hE Fx X (c_X10_abs hE l (v := (((t : Nat) : Int) - ((P (q - 1) : Nat) : Int))) (by omega)) cS_X10_207 rfl rfl (Nat.le_of_ble_eq_true rfl) (by decide) hl.1 dX10_onFrom_33 (fun H locs X => ?_)
    refine k_imul Fx dX10_onFrom_36 ?_
    refine k_iadd Fx dX10_onFrom_37 ?_
    exact r_iret Fx hr hlk X (by decide) dX10_onFrom_38 (Qi_mk (congrArg iI (pr_1 c_12)))
  · refine k_iconst Fx dX10_onFrom_15 ?_
    refine lv_goto (tgt := 37) Fx.1 Fx.2.1 dX10_onFrom_16 (by decide) ?_
    refine k_iadd Fx dX10_onFrom_37 ?_
    exact r_iret Fx hr hlk X (by decide) dX10_onFrom_38 (Qi_mk (congrArg iI (pr_0 c_12)))

abbrev rm_X10_lines : Room := ({ frames := 3, cells := 0, slots := 0, locals := 72 } : Room)
set_option maxHeartbeats 4000000 in
set_option maxRecDepth 100000 in
theorem c_X10_lines {E : XX} (hE : XS E) (l : Launch) {Γ : GG} {ad : Nat → Nat} {f : Nat → Int32} {g : Nat → Nat → Int32} {n : Nat} {S : Nat → Nat → Nat} (hS : SayM n S f g) (hB : SayB n S) {wt : Nat → Nat} {nw : Nat → Prop} {th ho be : Nat} (hL : LawM wt nw th ho be f g) (hLB : LawB wt th ho be) : Con E l yX10_lines cX10_lines 6 none rm_X10_lines Γ (wM Γ ad f g) [.ref (ad 0)] (fun v w2 => v = none ∧ ∃ g1, w2 = wM Γ ad f g1 ∧ (∀ k, k ≠ 27 → k ≠ 28 → g1 k = g k) ∧ (∀ a b, a < 10 → b < 80 → g1 27 (80 * a + b) = iI (aOn n S wt nw th be a b : Nat)) ∧ (∀ a, a < 10 → g1 28 a = iI (aPp n S wt nw th be a : Nat))) := by
  refine Con_mk (by decide) (Nat.le_of_ble_eq_true rfl) ?_
  intro p e s₀ m args below meth c A Fx hr hlk hnm X ls hl
  have hl : lv_has ls 6 [(0, .ref (ad 0))] := hl
  have hbe := hLB.2.2.2
  refine k_bipush Fx dX10_lines_0 (by decide) ?_
  refine lv_istore_n (lv' := [(1, .int (iI (9))), (0, .ref (ad 0))]) Fx.1 Fx.2.1 dX10_lines_2 rfl hl (by decide) rfl (fun ls hl => ?_)
  have lp_3 : ∀ (nn : Nat) (a : Nat) (g1 : Nat → Nat → Int32), a < nn → (a ≤ 10) → (SayM n S f g1) → (LawM wt nw th ho be f g1) → (∀ k, k ≠ 27 → k ≠ 28 → g1 k = g k) → (∀ s t, a ≤ s → s < 10 → t < 80 → g1 27 (80 * s + t) = iI (aOn n S wt nw th be s t : Nat)) → ∀ (H : Heap) (locs : List Loc) (ls : Array Slot), Wd E Γ A s₀ H locs (wM Γ ad f g1) → lv_has ls 6 [(0, .ref (ad 0)), (1, .int (iI ((((a : Nat) : Int) - 1))))] → W p l e rm_X10_lines s₀ m args below meth c H locs (0) (0) (RQ below args s₀ Γ A (fun v w2 => v = none ∧ ∃ g1, w2 = wM Γ ad f g1 ∧ (∀ k, k ≠ 27 → k ≠ 28 → g1 k = g k) ∧ (∀ a b, a < 10 → b < 80 → g1 27 (80 * a + b) = iI (aOn n S wt nw th be a b : Nat)) ∧ (∀ a, a < 10 → g1 28 a = iI (aPp n S wt nw th be a : Nat))) rm_X10_lines) (F0 m 3 ls []) := by
    intro nn
    induction nn with
    | zero => intro a g1 hmu; exact absurd hmu (Nat.not_lt_zero _)
    | succ nn ih =>
      intro a g1 hmu ha hS hL hF hC H locs ls X hl
      have ih_3 := ih
      refine lv_iload_n Fx.1 Fx.2.1 dX10_lines_3 rfl (lv_at hl 1 rfl) ?_
      refine k_if_lt (a := (((a : Nat) : Int) - 1)) (tgt := 119) Fx dX10_lines_4 (by decide) (by omega) (fun c_4 => ?_) (fun c_4 => ?_)
      · refine k_iconst Fx dX10_lines_119 ?_
        refine lv_istore_n (lv' := [(1, .int (iI (0))), (0, .ref (ad 0))]) Fx.1 Fx.2.1 dX10_lines_120 rfl hl (by decide) rfl (fun ls hl => ?_)
        have lp_121 : ∀ (nn : Nat) (r : Nat) (g3 : Nat → Nat → Int32), 10 - r < nn → (r ≤ 10) → (SayM n S f g3) → (LawM wt nw th ho be f g3) → (∀ k, k ≠ 27 → k ≠ 28 → g3 k = g k) → (∀ s t, s < 10 → t < 80 → g3 27 (80 * s + t) = iI (aOn n S wt nw th be s t : Nat)) → (∀ s, s < r → g3 28 s = iI (aPp n S wt nw th be s : Nat)) → ∀ (H : Heap) (locs : List Loc) (ls : Array Slot), Wd E Γ A s₀ H locs (wM Γ ad f g3) → lv_has ls 6 [(0, .ref (ad 0)), (1, .int (iI (((r : Nat) : Int))))] → W p l e rm_X10_lines s₀ m args below meth c H locs (0) (0) (RQ below args s₀ Γ A (fun v w2 => v = none ∧ ∃ g1, w2 = wM Γ ad f g1 ∧ (∀ k, k ≠ 27 → k ≠ 28 → g1 k = g k) ∧ (∀ a b, a < 10 → b < 80 → g1 27 (80 * a + b) = iI (aOn n S wt nw th be a b : Nat)) ∧ (∀ a, a < 10 → g1 28 a = iI (aPp n S wt nw th be a : Nat))) rm_X10_lines) (F0 m 121 ls []) := by
          intro nn
          induction nn with
          | zero => intro r g3 hmu; exact absurd hmu (Nat.not_lt_zero _)
          | succ nn ih =>
            intro r g3 hmu hr10 hS hL hF hC hP H locs ls X hl
            have ih_121 := ih
            refine lv_iload_n Fx.1 Fx.2.1 dX10_lines_121 rfl (lv_at hl 1 rfl) ?_
            refine k_bipush Fx dX10_lines_122 (by decide) ?_
            refine k_icmp_ge (a := ((r : Nat) : Int)) (b := 10) (tgt := 173) Fx dX10_lines_124 (by decide) (by omega) (by omega) (fun c_124 => ?_) (fun c_124 => ?_)
            · exact r_vret Fx hr hlk X (by decide) dX10_lines_173 (⟨rfl, _, rfl, hF, hC, fun a ha => hP a (by omega)⟩)
            · refine k_iconst Fx dX10_lines_127 ?_
              refine lv_istore_n (lv' := [(2, .int (iI (0))), (0, .ref (ad 0)), (1, .int (iI (((r : Nat) : Int))))]) Fx.1 Fx.2.1 dX10_lines_128 rfl hl (by decide) rfl (fun ls hl => ?_)
              refine k_iconst Fx dX10_lines_129 ?_
              refine lv_istore_n (lv' := [(3, .int (iI (1))), (2, .int (iI (0))), (0, .ref (ad 0)), (1, .int (iI (((r : Nat) : Int))))]) Fx.1 Fx.2.1 dX10_lines_130 rfl hl (by decide) rfl (fun ls hl => ?_)
              have lp_131 : ∀ (nn : Nat) (u : Nat), 80 - u < nn → (1 ≤ u ∧ u ≤ 80) → ∀ (H : Heap) (locs : List Loc) (ls : Array Slot), Wd E Γ A s₀ H locs (wM Γ ad f g3) → lv_has ls 6 [(0, .ref (ad 0)), (1, .int (iI (((r : Nat) : Int)))), (2, .int (iI (((amN (aPr n S wt nw th be (aPp n S wt nw th be) r) u : Nat) : Int)))), (3, .int (iI (((u : Nat) : Int))))] → W p l e rm_X10_lines s₀ m args below meth c H locs (0) (0) (RQ below args s₀ Γ A (fun v w2 => v = none ∧ ∃ g1, w2 = wM Γ ad f g1 ∧ (∀ k, k ≠ 27 → k ≠ 28 → g1 k = g k) ∧ (∀ a b, a < 10 → b < 80 → g1 27 (80 * a + b) = iI (aOn n S wt nw th be a b : Nat)) ∧ (∀ a, a < 10 → g1 28 a = iI (aPp n S wt nw th be a : Nat))) rm_X10_lines) (F0 m 131 ls []) := by
                intro nn
                induction nn with
                | zero => intro u hmu; exact absurd hmu (Nat.not_lt_zero _)
                | succ nn ih =>
                  intro u hmu hu H locs ls X hl
                  have ih_131 := ih
                  refine lv_iload_n Fx.1 Fx.2.1 dX10_lines_131 rfl (lv_at hl 3 rfl) ?_
                  refine k_bipush Fx dX10_lines_132 (by decide) ?_
                  refine k_icmp_ge (a := ((u : Nat) : Int)) (b := 80) (tgt := 160) Fx dX10_lines_134 (by decide) (by omega) (by omega) (fun c_134 => ?_) (fun c_134 => ?_)
                  · refine lv_aload_n Fx.1 Fx.2.1 dX10_lines_160 rfl (lv_at hl 0 rfl) ?_
                    refine gM_28 Fx X dX10_lines_161 ?_
                    refine lv_iload_n Fx.1 Fx.2.1 dX10_lines_164 rfl (lv_at hl 1 rfl) ?_
                    refine lv_iload_n Fx.1 Fx.2.1 dX10_lines_165 rfl (lv_at hl 2 rfl) ?_
                    refine k_cg (show (iI (((amN (aPr n S wt nw th be (aPp n S wt nw th be) r) u : Nat) : Int))) = (iI (((aPp n S wt nw th be r : Nat) : Int))) from congrArg (fun z : Nat => iI z) (pp_eq (by omega))) ?_
                    refine stM_28 (z := ((r : Nat) : Int)) (i := r) Fx X (rfl) (by omega) dX10_lines_166 (fun H locs X => ?_)
                    refine k_iinc (k := 1) (a := ((r : Nat) : Int)) (lv' := [(1, .int (iI ((((r : Nat) : Int) + 1)))), (0, .ref (ad 0)), (2, .int (iI (((amN (aPr n S wt nw th be (aPp n S wt nw th be) r) u : Nat) : Int)))), (3, .int (iI (((u : Nat) : Int))))]) Fx dX10_lines_167 hl rfl (by decide) rfl (fun ls hl => ?_)
                    refine lv_goto (tgt := 121) Fx.1 Fx.2.1 dX10_lines_170 (by decide) ?_
                    have hl_1 := lv_rp hl 0 rfl (show (iI ((((r : Nat) : Int) + 1))) = (iI ((((r + 1) : Nat) : Int))) from congrArg iI (by omega))
                    exact ih_121 (r + 1) ((updA g3 28 (upd (g3 28) r (iI (((aPp n S wt nw th be r : Nat) : Int)))))) (by omega) (by omega) (hS) (hL) (fr_st (Or.inr rfl) hF) (hC) (fun s h => tb_new0 (F := fun s => iI (aPp n S wt nw th be s : Nat)) hP s h) _ _ _ X (lv_sub hl_1 [1, 0] rfl)
                  · have hb6 := amN_lt (aPr n S wt nw th be (aPp n S wt nw th be) r) u (by omega)
                    refine lv_aload_n Fx.1 Fx.2.1 dX10_lines_137 rfl (lv_at hl 0 rfl) ?_
                    refine lv_iload_n Fx.1 Fx.2.1 dX10_lines_138 rfl (lv_at hl 1 rfl) ?_
                    refine lv_iload_n Fx.1 Fx.2.1 dX10_lines_139 rfl (lv_at hl 3 rfl) ?_
                    refine r_callVi (As := [.int (iI (((r : Nat) : Int))), .int (iI (((u : Nat) : Int)))]) (rest := []) hE Fx X (c_X10_onFrom hE l hS hB hL hLB (P := aPp n S wt nw th be) (q := r) (t := u) (by omega) (by omega) (aPp_lt n S wt nw th be) hC hP) cV_X10_213 (recM X) rfl rfl (Nat.le_of_ble_eq_true rfl) (by decide) hl.1 dX10_lines_140 (fun H locs X => ?_)
                    refine lv_aload_n Fx.1 Fx.2.1 dX10_lines_143 rfl (lv_at hl 0 rfl) ?_
                    refine lv_iload_n Fx.1 Fx.2.1 dX10_lines_144 rfl (lv_at hl 1 rfl) ?_
                    refine lv_iload_n Fx.1 Fx.2.1 dX10_lines_145 rfl (lv_at hl 2 rfl) ?_
                    refine r_callVi (As := [.int (iI (((r : Nat) : Int))), .int (iI (((amN (aPr n S wt nw th be (aPp n S wt nw th be) r) u : Nat) : Int)))]) (rest := [.int (iI (((aPr n S wt nw th be (aPp n S wt nw th be) r (u) : Nat) : Int)))]) hE Fx X (c_X10_onFrom hE l hS hB hL hLB (P := aPp n S wt nw th be) (q := r) (t := amN (aPr n S wt nw th be (aPp n S wt nw th be) r) u) (by omega) (by omega) (aPp_lt n S wt nw th be) hC hP) cV_X10_213 (recM X) rfl rfl (Nat.le_of_ble_eq_true rfl) (by decide) hl.1 dX10_lines_146 (fun H locs X => ?_)
                    have hb7 := aPr_le hB hLB.1 hLB.2.2.2 (nw := nw) (th := th) (aPp_lt n S wt nw th be) r u (by omega)
                    have hb8 := aPr_le hB hLB.1 hLB.2.2.2 (nw := nw) (th := th) (aPp_lt n S wt nw th be) r (amN (aPr n S wt nw th be (aPp n S wt nw th be) r) u) (by omega)
                    refine k_icmp_ge (a := ((aPr n S wt nw th be (aPp n S wt nw th be) r (u) : Nat) : Int)) (b := ((aPr n S wt nw th be (aPp n S wt nw th be) r (amN (aPr n S wt nw th be (aPp n S wt nw th be) r) u) : Nat) : Int)) (tgt := 154) Fx dX10_lines_149 (by decide) (by omega) (by omega) (fun c_149 => ?_) (fun c_149 => ?_)
                    · refine k_iinc (k := 3) (a := ((u : Nat) : Int)) (lv' := [(3, .int (iI ((((u : Nat) : Int) + 1)))), (0, .ref (ad 0)), (1, .int (iI (((r : Nat) : Int)))), (2, .int (iI (((amN (aPr n S wt nw th be (aPp n S wt nw th be) r) u : Nat) : Int))))]) Fx dX10_lines_154 hl rfl (by decide) rfl (fun ls hl => ?_)
                      refine lv_goto (tgt := 131) Fx.1 Fx.2.1 dX10_lines_157 (by decide) ?_
                      have hl_2 := lv_rp hl 3 rfl (show (iI (((amN (aPr n S wt nw th be (aPp n S wt nw th be) r) u : Nat) : Int))) = (iI (((amN (aPr n S wt nw th be (aPp n S wt nw th be) r) (u + 1) : Nat) : Int))) from congrArg (fun z : Nat => iI z) (am_2 (F := (aPr n S wt nw th be (aPp n S wt nw th be) r)) (by omega)))
                      have hl_3 := lv_rp hl_2 0 rfl (show (iI ((((u : Nat) : Int) + 1))) = (iI ((((u + 1) : Nat) : Int))) from congrArg iI (by omega))
                      exact ih_131 (u + 1) (by omega) (by omega) _ _ _ X (lv_sub hl_3 [1, 2, 3, 0] rfl)
                    · refine lv_iload_n Fx.1 Fx.2.1 dX10_lines_152 rfl (lv_at hl 3 rfl) ?_
                      refine lv_istore_n (lv' := [(2, .int (iI (((u : Nat) : Int)))), (0, .ref (ad 0)), (1, .int (iI (((r : Nat) : Int)))), (3, .int (iI (((u : Nat) : Int))))]) Fx.1 Fx.2.1 dX10_lines_153 rfl hl (by decide) rfl (fun ls hl => ?_)
                      refine k_iinc (k := 3) (a := ((u : Nat) : Int)) (lv' := [(3, .int (iI ((((u : Nat) : Int) + 1)))), (2, .int (iI (((u : Nat) : Int)))), (0, .ref (ad 0)), (1, .int (iI (((r : Nat) : Int))))]) Fx dX10_lines_154 hl rfl (by decide) rfl (fun ls hl => ?_)
                      refine lv_goto (tgt := 131) Fx.1 Fx.2.1 dX10_lines_157 (by decide) ?_
                      have hl_4 := lv_rp hl 1 rfl (show (iI (((u : Nat) : Int))) = (iI (((amN (aPr n S wt nw th be (aPp n S wt nw th be) r) (u + 1) : Nat) : Int))) from congrArg (fun z : Nat => iI z) (am_1 (F := (aPr n S wt nw th be (aPp n S wt nw th be) r)) (by omega)))
                      have hl_5 := lv_rp hl_4 0 rfl (show (iI ((((u : Nat) : Int) + 1))) = (iI ((((u + 1) : Nat) : Int))) from congrArg iI (by omega))
                      exact ih_131 (u + 1) (by omega) (by omega) _ _ _ X (lv_sub hl_5 [2, 3, 1, 0] rfl)
              have hl_6 := lv_rp hl 1 rfl (show (iI (0)) = (iI (((amN (aPr n S wt nw th be (aPp n S wt nw th be) r) 1 : Nat) : Int))) from congrArg (fun z : Nat => iI z) (am_0 (aPr n S wt nw th be (aPp n S wt nw th be) r)))
              have hl_7 := lv_rp hl_6 0 rfl (show (iI (1)) = (iI (((1 : Nat) : Int))) from congrArg iI (by omega))
              exact lp_131 _ (1) (Nat.lt_succ_self _) (by omega) _ _ _ X (lv_sub hl_7 [2, 3, 1, 0] rfl)
        have hl_8 := lv_rp hl 0 rfl (show (iI (0)) = (iI (((0 : Nat) : Int))) from congrArg iI (by omega))
        exact lp_121 _ (0) (g1) (Nat.lt_succ_self _) (by omega) (hS) (hL) (hF) (fun s t h2 h3 => hC s t (by omega) h2 h3) (fun t1 h => absurd h (by omega)) _ _ _ X (lv_sub hl_8 [1, 0] rfl)
      · obtain ⟨q, hq1⟩ : ∃ q, a = q + 1 := ⟨a - 1, by omega⟩
        have hl := lv_rp hl 1 rfl (show (iI ((((a : Nat) : Int) - 1))) = (iI (((q : Nat) : Int))) from congrArg iI (by omega))
        refine k_iconst Fx dX10_lines_7 ?_
        refine lv_istore_n (lv' := [(2, .int (iI (0))), (0, .ref (ad 0)), (1, .int (iI (((q : Nat) : Int))))]) Fx.1 Fx.2.1 dX10_lines_8 rfl hl (by decide) rfl (fun ls hl => ?_)
        have lp_9 : ∀ (nn : Nat) (t : Nat) (g2 : Nat → Nat → Int32), 80 - t < nn → (t ≤ 80) → (SayM n S f g2) → (LawM wt nw th ho be f g2) → (∀ k, k ≠ 27 → k ≠ 28 → g2 k = g k) → (∀ s t, q + 1 ≤ s → s < 10 → t < 80 → g2 27 (80 * s + t) = iI (aOn n S wt nw th be s t : Nat)) → (∀ t1, t1 < t → g2 27 (80 * q + t1) = iI (aOn n S wt nw th be q t1 : Nat)) → ∀ (H : Heap) (locs : List Loc) (ls : Array Slot), Wd E Γ A s₀ H locs (wM Γ ad f g2) → lv_has ls 6 [(0, .ref (ad 0)), (1, .int (iI (((q : Nat) : Int)))), (2, .int (iI (((t : Nat) : Int))))] → W p l e rm_X10_lines s₀ m args below meth c H locs (0) (0) (RQ below args s₀ Γ A (fun v w2 => v = none ∧ ∃ g1, w2 = wM Γ ad f g1 ∧ (∀ k, k ≠ 27 → k ≠ 28 → g1 k = g k) ∧ (∀ a b, a < 10 → b < 80 → g1 27 (80 * a + b) = iI (aOn n S wt nw th be a b : Nat)) ∧ (∀ a, a < 10 → g1 28 a = iI (aPp n S wt nw th be a : Nat))) rm_X10_lines) (F0 m 9 ls []) := by
          intro nn
          induction nn with
          | zero => intro t g2 hmu; exact absurd hmu (Nat.not_lt_zero _)
          | succ nn ih =>
            intro t g2 hmu ht hS hL hF hC hD H locs ls X hl
            have ih_9 := ih
            refine lv_iload_n Fx.1 Fx.2.1 dX10_lines_9 rfl (lv_at hl 2 rfl) ?_
            refine k_bipush Fx dX10_lines_10 (by decide) ?_
            refine k_icmp_ge (a := ((t : Nat) : Int)) (b := 80) (tgt := 113) Fx dX10_lines_12 (by decide) (by omega) (by omega) (fun c_12 => ?_) (fun c_12 => ?_)
            · refine k_iinc (k := 1) (a := ((q : Nat) : Int)) (lv' := [(1, .int (iI ((((q : Nat) : Int) + (-1))))), (0, .ref (ad 0)), (2, .int (iI (((t : Nat) : Int))))]) Fx dX10_lines_113 hl rfl (by decide) rfl (fun ls hl => ?_)
              refine lv_goto (tgt := 3) Fx.1 Fx.2.1 dX10_lines_116 (by decide) ?_
              have hl_9 := lv_rp hl 0 rfl (show (iI ((((q : Nat) : Int) + (-1)))) = (iI ((((q : Nat) : Int) - 1))) from congrArg iI (by omega))
              exact ih_3 (q) (g2) (by omega) (by omega) (hS) (hL) (hF) (tb_join hC hD (by omega)) _ _ _ X (lv_sub hl_9 [1, 0] rfl)
            · refine k_iconst Fx dX10_lines_15 ?_
              refine lv_istore_n (lv' := [(3, .int (iI (0))), (0, .ref (ad 0)), (1, .int (iI (((q : Nat) : Int)))), (2, .int (iI (((t : Nat) : Int))))]) Fx.1 Fx.2.1 dX10_lines_16 rfl hl (by decide) rfl (fun ls hl => ?_)
              refine k_iconst Fx dX10_lines_17 ?_
              refine lv_istore (lv' := [(4, .int (iI (0))), (3, .int (iI (0))), (0, .ref (ad 0)), (1, .int (iI (((q : Nat) : Int)))), (2, .int (iI (((t : Nat) : Int))))]) Fx.1 Fx.2.1 dX10_lines_18 hl (by decide) rfl (fun ls hl => ?_)
              have lp_20 : ∀ (nn : Nat) (u : Nat), 80 - u < nn → (u ≤ 80) → (u = 0 ∨ q < 9) → ∀ (H : Heap) (locs : List Loc) (ls : Array Slot), Wd E Γ A s₀ H locs (wM Γ ad f g2) → lv_has ls 6 [(0, .ref (ad 0)), (1, .int (iI (((q : Nat) : Int)))), (2, .int (iI (((t : Nat) : Int)))), (3, .int (iI (((mnN (fun b9 => aOn n S wt nw th be (q + 1) b9 + be * aDs t b9) u : Nat) : Int)))), (4, .int (iI (((u : Nat) : Int))))] → W p l e rm_X10_lines s₀ m args below meth c H locs (0) (0) (RQ below args s₀ Γ A (fun v w2 => v = none ∧ ∃ g1, w2 = wM Γ ad f g1 ∧ (∀ k, k ≠ 27 → k ≠ 28 → g1 k = g k) ∧ (∀ a b, a < 10 → b < 80 → g1 27 (80 * a + b) = iI (aOn n S wt nw th be a b : Nat)) ∧ (∀ a, a < 10 → g1 28 a = iI (aPp n S wt nw th be a : Nat))) rm_X10_lines) (F0 m 20 ls []) := by
                intro nn
                induction nn with
                | zero => intro u hmu; exact absurd hmu (Nat.not_lt_zero _)
                | succ nn ih =>
                  intro u hmu hu hu0 H locs ls X hl
                  have ih_20 := ih
                  refine lv_iload Fx.1 Fx.2.1 dX10_lines_20 (lv_at hl 4 rfl) ?_
                  refine k_bipush Fx dX10_lines_22 (by decide) ?_
                  refine k_icmp_ge (a := ((u : Nat) : Int)) (b := 80) (tgt := 88) Fx dX10_lines_24 (by decide) (by omega) (by omega) (fun c_24 => ?_) (fun c_24 => ?_)
                  · refine lv_aload_n Fx.1 Fx.2.1 dX10_lines_88 rfl (lv_at hl 0 rfl) ?_
                    refine gM_27 Fx X dX10_lines_89 ?_
                    refine k_bipush Fx dX10_lines_92 (by decide) ?_
                    refine lv_iload_n Fx.1 Fx.2.1 dX10_lines_94 rfl (lv_at hl 1 rfl) ?_
                    refine k_imul Fx dX10_lines_95 ?_
                    refine lv_iload_n Fx.1 Fx.2.1 dX10_lines_96 rfl (lv_at hl 2 rfl) ?_
                    refine k_iadd Fx dX10_lines_97 ?_
                    refine lv_aload_n Fx.1 Fx.2.1 dX10_lines_98 rfl (lv_at hl 0 rfl) ?_
                    refine lv_iload_n Fx.1 Fx.2.1 dX10_lines_99 rfl (lv_at hl 1 rfl) ?_
                    refine lv_iload_n Fx.1 Fx.2.1 dX10_lines_100 rfl (lv_at hl 2 rfl) ?_
                    refine r_callVi (As := [.int (iI (((q : Nat) : Int))), .int (iI (((t : Nat) : Int)))]) (rest := [.int (iI (((80 * ((q : Nat) : Int)) + ((t : Nat) : Int)))), .ref (ad 27)]) hE Fx X (c_X10_costAt hE l hS hB hL hLB (q := q) (t := t) (by omega) (by omega)) cV_X10_210 (recM X) rfl rfl (Nat.le_of_ble_eq_true rfl) (by decide) hl.1 dX10_lines_101 (fun H locs X => ?_)
                    refine lv_iload_n Fx.1 Fx.2.1 dX10_lines_104 rfl (lv_at hl 3 rfl) ?_
                    refine k_iadd Fx dX10_lines_105 ?_
                    refine k_cg (show (iI ((((aCa n S wt nw th q t n : Nat) : Int) + ((mnN (fun b9 => aOn n S wt nw th be (q + 1) b9 + be * aDs t b9) u : Nat) : Int)))) = (iI (((aOn n S wt nw th be q t : Nat) : Int))) from congrArg iI (on_e1 (by omega) (by omega))) ?_
                    refine stM_27 (z := ((80 * ((q : Nat) : Int)) + ((t : Nat) : Int))) (i := (80 * q + t)) Fx X (by omega) (by omega) dX10_lines_106 (fun H locs X => ?_)
                    refine k_iinc (k := 2) (a := ((t : Nat) : Int)) (lv' := [(2, .int (iI ((((t : Nat) : Int) + 1)))), (0, .ref (ad 0)), (1, .int (iI (((q : Nat) : Int)))), (3, .int (iI (((mnN (fun b9 => aOn n S wt nw th be (q + 1) b9 + be * aDs t b9) u : Nat) : Int)))), (4, .int (iI (((u : Nat) : Int))))]) Fx dX10_lines_107 hl rfl (by decide) rfl (fun ls hl => ?_)
                    refine lv_goto (tgt := 9) Fx.1 Fx.2.1 dX10_lines_110 (by decide) ?_
                    have hl_10 := lv_rp hl 0 rfl (show (iI ((((t : Nat) : Int) + 1))) = (iI ((((t + 1) : Nat) : Int))) from congrArg iI (by omega))
                    exact ih_9 (t + 1) ((updA g2 27 (upd (g2 27) (80 * q + t) (iI (((aOn n S wt nw th be q t : Nat) : Int)))))) (by omega) (by omega) (hS) (hL) (fr_st (Or.inl rfl) hF) (fun s1 t1 h1 h2 h3 => tb_keep (by omega) (hC s1 t1 h1 h2 h3)) (tb_new (F := fun t1 => iI (aOn n S wt nw th be q t1 : Nat)) hD) _ _ _ X (lv_sub hl_10 [1, 2, 0] rfl)
                  · refine lv_iload_n Fx.1 Fx.2.1 dX10_lines_27 rfl (lv_at hl 1 rfl) ?_
                    refine k_iconst Fx dX10_lines_28 ?_
                    refine k_iadd Fx dX10_lines_29 ?_
                    refine k_bipush Fx dX10_lines_30 (by decide) ?_
                    refine k_icmp_ge (a := (((q : Nat) : Int) + 1)) (b := 10) (tgt := 88) Fx dX10_lines_32 (by decide) (by omega) (by omega) (fun c_32 => ?_) (fun c_32 => ?_)
                    · refine lv_aload_n Fx.1 Fx.2.1 dX10_lines_88 rfl (lv_at hl 0 rfl) ?_
                      refine gM_27 Fx X dX10_lines_89 ?_
                      refine k_bipush Fx dX10_lines_92 (by decide) ?_
                      refine lv_iload_n Fx.1 Fx.2.1 dX10_lines_94 rfl (lv_at hl 1 rfl) ?_
                      refine k_imul Fx dX10_lines_95 ?_
                      refine lv_iload_n Fx.1 Fx.2.1 dX10_lines_96 rfl (lv_at hl 2 rfl) ?_
                      refine k_iadd Fx dX10_lines_97 ?_
                      refine lv_aload_n Fx.1 Fx.2.1 dX10_lines_98 rfl (lv_at hl 0 rfl) ?_
                      refine lv_iload_n Fx.1 Fx.2.1 dX10_lines_99 rfl (lv_at hl 1 rfl) ?_
                      refine lv_iload_n Fx.1 Fx.2.1 dX10_lines_100 rfl (lv_at hl 2 rfl) ?_
                      refine r_callVi (As := [.int (iI (((q : Nat) : Int))), .int (iI (((t : Nat) : Int)))]) (rest := [.int (iI (((80 * ((q : Nat) : Int)) + ((t : Nat) : Int)))), .ref (ad 27)]) hE Fx X (c_X10_costAt hE l hS hB hL hLB (q := q) (t := t) (by omega) (by omega)) cV_X10_210 (recM X) rfl rfl (Nat.le_of_ble_eq_true rfl) (by decide) hl.1 dX10_lines_101 (fun H locs X => ?_)
                      refine lv_iload_n Fx.1 Fx.2.1 dX10_lines_104 rfl (lv_at hl 3 rfl) ?_
                      refine k_iadd Fx dX10_lines_105 ?_
                      refine k_cg (show (iI ((((aCa n S wt nw th q t n : Nat) : Int) + ((mnN (fun b9 => aOn n S wt nw th be (q + 1) b9 + be * aDs t b9) u : Nat) : Int)))) = (iI (((aOn n S wt nw th be q t : Nat) : Int))) from congrArg iI (on_e2 (by omega) (by omega))) ?_
                      refine stM_27 (z := ((80 * ((q : Nat) : Int)) + ((t : Nat) : Int))) (i := (80 * q + t)) Fx X (by omega) (by omega) dX10_lines_106 (fun H locs X => ?_)
                      refine k_iinc (k := 2) (a := ((t : Nat) : Int)) (lv' := [(2, .int (iI ((((t : Nat) : Int) + 1)))), (0, .ref (ad 0)), (1, .int (iI (((q : Nat) : Int)))), (3, .int (iI (((mnN (fun b9 => aOn n S wt nw th be (q + 1) b9 + be * aDs t b9) u : Nat) : Int)))), (4, .int (iI (((u : Nat) : Int))))]) Fx dX10_lines_107 hl rfl (by decide) rfl (fun ls hl => ?_)
                      refine lv_goto (tgt := 9) Fx.1 Fx.2.1 dX10_lines_110 (by decide) ?_
                      have hl_11 := lv_rp hl 0 rfl (show (iI ((((t : Nat) : Int) + 1))) = (iI ((((t + 1) : Nat) : Int))) from congrArg iI (by omega))
                      exact ih_9 (t + 1) ((updA g2 27 (upd (g2 27) (80 * q + t) (iI (((aOn n S wt nw th be q t : Nat) : Int)))))) (by omega) (by omega) (hS) (hL) (fr_st (Or.inl rfl) hF) (fun s1 t1 h1 h2 h3 => tb_keep (by omega) (hC s1 t1 h1 h2 h3)) (tb_new (F := fun t1 => iI (aOn n S wt nw th be q t1 : Nat)) hD) _ _ _ X (lv_sub hl_11 [1, 2, 0] rfl)
                    · refine lv_aload_n Fx.1 Fx.2.1 dX10_lines_35 rfl (lv_at hl 0 rfl) ?_
                      refine gM_27 Fx X dX10_lines_36 ?_
                      refine k_bipush Fx dX10_lines_39 (by decide) ?_
                      refine lv_iload_n Fx.1 Fx.2.1 dX10_lines_41 rfl (lv_at hl 1 rfl) ?_
                      refine k_iconst Fx dX10_lines_42 ?_
                      refine k_iadd Fx dX10_lines_43 ?_
                      refine k_imul Fx dX10_lines_44 ?_
                      refine lv_iload Fx.1 Fx.2.1 dX10_lines_45 (lv_at hl 4 rfl) ?_
                      refine k_iadd Fx dX10_lines_47 ?_
                      refine ldM_27 (z := ((80 * (((q : Nat) : Int) + 1)) + ((u : Nat) : Int))) (i := (80 * (q + 1) + u)) (x := (iI (((aOn n S wt nw th be (q + 1) u : Nat) : Int)))) Fx X (by omega) (by omega) (hC (q + 1) u (by omega) (by omega) (by omega)) dX10_lines_48 ?_
                      refine lv_aload_n Fx.1 Fx.2.1 dX10_lines_49 rfl (lv_at hl 0 rfl) ?_
                      refine gM_12 (x := (iI (((be : Nat) : Int)))) Fx X (hL.2.2.1) dX10_lines_50 ?_
                      refine lv_iload_n Fx.1 Fx.2.1 dX10_lines_53 rfl (lv_at hl 2 rfl) ?_
                      refine lv_iload Fx.1 Fx.2.1 dX10_lines_54 (lv_at hl 4 rfl) ?_
                      refine k_isub Fx dX10_lines_56 ?_
                      refine r_callSi (As := [.int (iI ((((t : Nat) : Int) - ((u : Nat) : Int))))]) (rest := [.int (iI (((be : Nat) : Int))), .int (iI (((aOn n S wt nw th be (q + 1) u : Nat) : Int)))]) hE Fx X (c_X10_abs hE l (v := (((t : Nat) : Int) - ((u : Nat) : Int))) (by omega)) cS_X10_207 rfl rfl (Nat.le_of_ble_eq_true rfl) (by decide) hl.1 dX10_lines_57 (fun H locs X => ?_)
                      refine k_imul Fx dX10_lines_60 ?_
                      refine k_iadd Fx dX10_lines_61 ?_
                      refine k_cg (show (iI ((((aOn n S wt nw th be (q + 1) u : Nat) : Int) + (((be : Nat) : Int) * (if (((t : Nat) : Int) - ((u : Nat) : Int)) < 0 then -(((t : Nat) : Int) - ((u : Nat) : Int)) else (((t : Nat) : Int) - ((u : Nat) : Int))))))) = (iI (((aOn n S wt nw th be (q + 1) u + be * aDs t u : Nat) : Int))) from congrArg iI (on_cv _ be t u)) ?_
                      have hb1 := aOn_le hB hLB.1 hLB.2.2.2 (nw := nw) (th := th) (q + 1) u (by omega)
                      have hb2 : be * aDs t u ≤ 9 * 79 := Nat.mul_le_mul hLB.2.2.2 (aDs_le (by omega) (by omega))
                      have hb3 := aOn_le hB hLB.1 hLB.2.2.2 (nw := nw) (th := th) (q + 1) 0 (by omega)
                      have hb4 : be * aDs t 0 ≤ 9 * 79 := Nat.mul_le_mul hLB.2.2.2 (aDs_le (by omega) (by omega))
                      have hb5 := mnN_le2 (fun b9 => aOn n S wt nw th be (q + 1) b9 + be * aDs t b9) u 300000 (by show _ + _ ≤ _; omega)
                      refine lv_istore (lv' := [(5, .int (iI (((aOn n S wt nw th be (q + 1) u + be * aDs t u : Nat) : Int)))), (0, .ref (ad 0)), (1, .int (iI (((q : Nat) : Int)))), (2, .int (iI (((t : Nat) : Int)))), (3, .int (iI (((mnN (fun b9 => aOn n S wt nw th be (q + 1) b9 + be * aDs t b9) u : Nat) : Int)))), (4, .int (iI (((u : Nat) : Int))))]) Fx.1 Fx.2.1 dX10_lines_62 hl (by decide) rfl (fun ls hl => ?_)
                      refine lv_iload Fx.1 Fx.2.1 dX10_lines_64 (lv_at hl 5 rfl) ?_
                      refine k_if_eq (a := ((u : Nat) : Int)) (tgt := 75) Fx dX10_lines_66 (by decide) (by omega) (fun c_66 => ?_) (fun c_66 => ?_)
                      · refine lv_iload Fx.1 Fx.2.1 dX10_lines_75 (lv_at hl 0 rfl) ?_
                        refine lv_goto (tgt := 81) Fx.1 Fx.2.1 dX10_lines_77 (by decide) ?_
                        refine lv_istore_n (lv' := [(3, .int (iI (((aOn n S wt nw th be (q + 1) u + be * aDs t u : Nat) : Int)))), (5, .int (iI (((aOn n S wt nw th be (q + 1) u + be * aDs t u : Nat) : Int)))), (0, .ref (ad 0)), (1, .int (iI (((q : Nat) : Int)))), (2, .int (iI (((t : Nat) : Int)))), (4, .int (iI (((u : Nat) : Int))))]) Fx.1 Fx.2.1 dX10_lines_81 rfl hl (by decide) rfl (fun ls hl => ?_)
                        refine k_iinc (k := 5) (a := ((u : Nat) : Int)) (lv' := [(4, .int (iI ((((u : Nat) : Int) + 1)))), (3, .int (iI (((aOn n S wt nw th be (q + 1) u + be * aDs t u : Nat) : Int)))), (5, .int (iI (((aOn n S wt nw th be (q + 1) u + be * aDs t u : Nat) : Int)))), (0, .ref (ad 0)), (1, .int (iI (((q : Nat) : Int)))), (2, .int (iI (((t : Nat) : Int))))]) Fx dX10_lines_82 hl rfl (by decide) rfl (fun ls hl => ?_)
                        refine lv_goto (tgt := 20) Fx.1 Fx.2.1 dX10_lines_85 (by decide) ?_
                        have hl_12 := lv_rp hl 1 rfl (show (iI (((aOn n S wt nw th be (q + 1) u + be * aDs t u : Nat) : Int))) = (iI (((mnN (fun b9 => aOn n S wt nw th be (q + 1) b9 + be * aDs t b9) (u + 1) : Nat) : Int))) from congrArg (fun z : Nat => iI z) (mn_1 (F := (fun b9 => aOn n S wt nw th be (q + 1) b9 + be * aDs t b9)) (Or.inl (by omega))))
                        have hl_13 := lv_rp hl_12 0 rfl (show (iI ((((u : Nat) : Int) + 1))) = (iI ((((u + 1) : Nat) : Int))) from congrArg iI (by omega))
                        exact ih_20 (u + 1) (by omega) (by omega) (Or.inr (by omega)) _ _ _ X (lv_sub hl_13 [3, 4, 5, 1, 0] rfl)
                      · refine lv_iload Fx.1 Fx.2.1 dX10_lines_69 (lv_at hl 0 rfl) ?_
                        refine lv_iload_n Fx.1 Fx.2.1 dX10_lines_71 rfl (lv_at hl 4 rfl) ?_
                        refine k_icmp_ge (a := ((aOn n S wt nw th be (q + 1) u + be * aDs t u : Nat) : Int)) (b := ((mnN (fun b9 => aOn n S wt nw th be (q + 1) b9 + be * aDs t b9) u : Nat) : Int)) (tgt := 80) Fx dX10_lines_72 (by decide) (by omega) (by omega) (fun c_72 => ?_) (fun c_72 => ?_)
                        · refine lv_iload_n Fx.1 Fx.2.1 dX10_lines_80 rfl (lv_at hl 4 rfl) ?_
                          refine lv_istore_n (lv' := [(3, .int (iI (((mnN (fun b9 => aOn n S wt nw th be (q + 1) b9 + be * aDs t b9) u : Nat) : Int)))), (5, .int (iI (((aOn n S wt nw th be (q + 1) u + be * aDs t u : Nat) : Int)))), (0, .ref (ad 0)), (1, .int (iI (((q : Nat) : Int)))), (2, .int (iI (((t : Nat) : Int)))), (4, .int (iI (((u : Nat) : Int))))]) Fx.1 Fx.2.1 dX10_lines_81 rfl hl (by decide) rfl (fun ls hl => ?_)
                          refine k_iinc (k := 5) (a := ((u : Nat) : Int)) (lv' := [(4, .int (iI ((((u : Nat) : Int) + 1)))), (3, .int (iI (((mnN (fun b9 => aOn n S wt nw th be (q + 1) b9 + be * aDs t b9) u : Nat) : Int)))), (5, .int (iI (((aOn n S wt nw th be (q + 1) u + be * aDs t u : Nat) : Int)))), (0, .ref (ad 0)), (1, .int (iI (((q : Nat) : Int)))), (2, .int (iI (((t : Nat) : Int))))]) Fx dX10_lines_82 hl rfl (by decide) rfl (fun ls hl => ?_)
                          refine lv_goto (tgt := 20) Fx.1 Fx.2.1 dX10_lines_85 (by decide) ?_
                          have hl_14 := lv_rp hl 1 rfl (show (iI (((mnN (fun b9 => aOn n S wt nw th be (q + 1) b9 + be * aDs t b9) u : Nat) : Int))) = (iI (((mnN (fun b9 => aOn n S wt nw th be (q + 1) b9 + be * aDs t b9) (u + 1) : Nat) : Int))) from congrArg (fun z : Nat => iI z) (mn_2 (F := (fun b9 => aOn n S wt nw th be (q + 1) b9 + be * aDs t b9)) (by omega) (by omega)))
                          have hl_15 := lv_rp hl_14 0 rfl (show (iI ((((u : Nat) : Int) + 1))) = (iI ((((u + 1) : Nat) : Int))) from congrArg iI (by omega))
                          exact ih_20 (u + 1) (by omega) (by omega) (Or.inr (by omega)) _ _ _ X (lv_sub hl_15 [3, 4, 5, 1, 0] rfl)
                        · refine lv_iload Fx.1 Fx.2.1 dX10_lines_75 (lv_at hl 0 rfl) ?_
                          refine lv_goto (tgt := 81) Fx.1 Fx.2.1 dX10_lines_77 (by decide) ?_
                          refine lv_istore_n (lv' := [(3, .int (iI (((aOn n S wt nw th be (q + 1) u + be * aDs t u : Nat) : Int)))), (5, .int (iI (((aOn n S wt nw th be (q + 1) u + be * aDs t u : Nat) : Int)))), (0, .ref (ad 0)), (1, .int (iI (((q : Nat) : Int)))), (2, .int (iI (((t : Nat) : Int)))), (4, .int (iI (((u : Nat) : Int))))]) Fx.1 Fx.2.1 dX10_lines_81 rfl hl (by decide) rfl (fun ls hl => ?_)
                          refine k_iinc (k := 5) (a := ((u : Nat) : Int)) (lv' := [(4, .int (iI ((((u : Nat) : Int) + 1)))), (3, .int (iI (((aOn n S wt nw th be (q + 1) u + be * aDs t u : Nat) : Int)))), (5, .int (iI (((aOn n S wt nw th be (q + 1) u + be * aDs t u : Nat) : Int)))), (0, .ref (ad 0)), (1, .int (iI (((q : Nat) : Int)))), (2, .int (iI (((t : Nat) : Int))))]) Fx dX10_lines_82 hl rfl (by decide) rfl (fun ls hl => ?_)
                          refine lv_goto (tgt := 20) Fx.1 Fx.2.1 dX10_lines_85 (by decide) ?_
                          have hl_16 := lv_rp hl 1 rfl (show (iI (((aOn n S wt nw th be (q + 1) u + be * aDs t u : Nat) : Int))) = (iI (((mnN (fun b9 => aOn n S wt nw th be (q + 1) b9 + be * aDs t b9) (u + 1) : Nat) : Int))) from congrArg (fun z : Nat => iI z) (mn_1 (F := (fun b9 => aOn n S wt nw th be (q + 1) b9 + be * aDs t b9)) (Or.inr (by omega))))
                          have hl_17 := lv_rp hl_16 0 rfl (show (iI ((((u : Nat) : Int) + 1))) = (iI ((((u + 1) : Nat) : Int))) from congrArg iI (by omega))
                          exact ih_20 (u + 1) (by omega) (by omega) (Or.inr (by omega)) _ _ _ X (lv_sub hl_17 [3, 4, 5, 1, 0] rfl)
              have hl_18 := lv_rp hl 1 rfl (show (iI (0)) = (iI (((mnN (fun b9 => aOn n S wt nw th be (q + 1) b9 + be * aDs t b9) 0 : Nat) : Int))) from rfl)
              have hl_19 := lv_rp hl_18 0 rfl (show (iI (0)) = (iI (((0 : Nat) : Int))) from congrArg iI (by omega))
              exact lp_20 _ (0) (Nat.lt_succ_self _) (by omega) (Or.inl rfl) _ _ _ X (lv_sub hl_19 [2, 3, 4, 1, 0] rfl)
        have hl_20 := lv_rp hl 0 rfl (show (iI (0)) = (iI (((0 : Nat) : Int))) from congrArg iI (by omega))
        exact lp_9 _ (0) (g1) (Nat.lt_succ_self _) (by omega) (hS) (hL) (hF) (fun s t h1 h2 h3 => hC s t (by omega) h2 h3) (fun t1 h => absurd h (by omega)) _ _ _ X (lv_sub hl_20 [1, 2, 0] rfl)
  have hl_21 := lv_rp hl 0 rfl (show (iI (9)) = (iI ((((10 : Nat) : Int) - 1))) from congrArg iI (by omega))
  exact lp_3 _ (10) (g) (Nat.lt_succ_self _) (by omega) (hS) (hL) (fun _ _ _ => rfl) (fun s t h1 h2 => absurd h1 (by omega)) _ _ _ X (lv_sub hl_21 [1, 0] rfl)

