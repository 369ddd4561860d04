/-! a law in any world: its object at q0, its rows at q1 and q2 -/
def wL (Γ : GG) (w : va_W) (q0 q1 q2 a b c : Nat) (F G : Nat → Int32) (x y z : Int32) : va_W := ((w.set q0 (a, .inr (1, [.ref b, .ref c, .int x, .int y, .int z]))).set q1 (b, .inl (Γ.2 0, 6, .inl F))).set q2 (c, .inl (Γ.2 2, 6, .inl G))
def dL (w : va_W) (q0 q1 q2 : Nat) : Prop := (q0 ≠ q1 ∧ q0 ≠ q2 ∧ q1 ≠ q2) ∧ q0 < w.length ∧ q1 < w.length ∧ q2 < w.length
section WL
variable {Γ : GG} {w : va_W} {q0 q1 q2 a b c : Nat} {F G : Nat → Int32} {x y z : Int32}
theorem wL_0 (h : dL w q0 q1 q2) : (wL Γ w q0 q1 q2 a b c F G x y z)[q0]? = some (a, .inr (1, [.ref b, .ref c, .int x, .int y, .int z])) := by
  unfold wL
  rw [List.getElem?_set_ne h.1.2.1.symm, List.getElem?_set_ne h.1.1.symm]
  exact List.getElem?_set_self h.2.1
theorem wL_1 (h : dL w q0 q1 q2) : (wL Γ w q0 q1 q2 a b c F G x y z)[q1]? = some (b, .inl (Γ.2 0, 6, .inl F)) := by
  unfold wL
  rw [List.getElem?_set_ne h.1.2.2.symm]
  exact List.getElem?_set_self (by rw [List.length_set]; exact h.2.2.1)
theorem wL_2 (h : dL w q0 q1 q2) : (wL Γ w q0 q1 q2 a b c F G x y z)[q2]? = some (c, .inl (Γ.2 2, 6, .inl G)) := by
  unfold wL
  exact List.getElem?_set_self (by rw [List.length_set, List.length_set]; exact h.2.2.2)
theorem wL_s0 (h : dL w q0 q1 q2) {x2 y2 z2 : Int32} : (wL Γ w q0 q1 q2 a b c F G x y z).set q0 (a, .inr (1, [.ref b, .ref c, .int x2, .int y2, .int z2])) = wL Γ w q0 q1 q2 a b c F G x2 y2 z2 := by
  unfold wL
  rw [List.set_comm _ _ h.1.2.1.symm, List.set_comm _ _ h.1.1.symm, List.set_set]
theorem wL_s1 (h : dL w q0 q1 q2) {F2 : Nat → Int32} : (wL Γ w q0 q1 q2 a b c F G x y z).set q1 (b, .inl (Γ.2 0, 6, .inl F2)) = wL Γ w q0 q1 q2 a b c F2 G x y z := by
  unfold wL
  rw [List.set_comm _ _ h.1.2.2.symm, List.set_set]
theorem wL_s2 {G2 : Nat → Int32} : (wL Γ w q0 q1 q2 a b c F G x y z).set q2 (c, .inl (Γ.2 2, 6, .inl G2)) = wL Γ w q0 q1 q2 a b c F G2 x y z := by
  unfold wL
  rw [List.set_set]
end WL

theorem fill_s2 {F1 : Nat → Int32} {j : Nat} {x y : Int32} (e : x = y) (h : ∀ i, i < j → F1 i = y) : ∀ i, i < j + 1 → upd F1 j x i = y := e ▸ fill_s (e ▸ h)

abbrev rm_X0_reset : Room := ({ frames := 1, cells := 0, slots := 0, locals := 23 } : Room)
set_option maxHeartbeats 4000000 in
set_option maxRecDepth 100000 in
theorem c_X0_reset {E : XX} (hE : XS E) (l : Launch) {Γ : GG} {w : va_W} {q0 q1 q2 a b c9 : Nat} {F G : Nat → Int32} {x y z : Int32} (hd : dL w q0 q1 q2) : Con E l yX0_reset cX0_reset 2 none rm_X0_reset Γ (wL Γ w q0 q1 q2 a b c9 (F) (G) (x) (y) (z)) [.ref (a)] (fun v w2 => v = none ∧ ∃ F1 G1, w2 = wL Γ w q0 q1 q2 a b c9 F1 G1 (iI 0) (iI 12) (iI 1) ∧ (∀ k, k < 6 → F1 k = iI 1) ∧ (∀ k, k < 6 → G1 k = bI False)) := by
  refine Con_mk (by decide) (Nat.le_of_ble_eq_true rfl) ?_
  intro p e s₀ m args below meth c A Fx hr hlk hnm X ls hl
  have hl : lv_has ls 2 [(0, .ref (a))] := hl
  refine lv_aload_n Fx.1 Fx.2.1 dX0_reset_0 rfl (lv_at hl 0 rfl) ?_
  refine gf_X0_9 (q0 := q0) Fx X (wL_0 hd) rfl dX0_reset_1 ?_
  refine k_iconst Fx dX0_reset_4 ?_
  refine r_callS (As := [.ref (b), .int (iI (1))]) (rest := []) hE Fx X (c_J7_fill_53178 hE l (q0 := q1) (n := 6) (F := F) (x := (iI (1))) (wL_1 hd) (by decide)) cS_X0_22 rfl rfl (Nat.le_of_ble_eq_true rfl) (by decide) hl.1 dX0_reset_5 (fun v9 w9 H locs hq X => ?_)
  obtain ⟨rfl, F_1, rfl, hF1⟩ := hq
  have X : Wd E Γ A s₀ H locs (wL Γ w q0 q1 q2 a b c9 (F_1) (G) (x) (y) (z)) := Wd.to X (wL_s1 hd)
  refine k_iconst Fx dX0_reset_8 ?_
  refine lv_istore_n (lv' := [(1, .int (iI (0))), (0, .ref (a))]) Fx.1 Fx.2.1 dX0_reset_9 rfl hl (by decide) rfl (fun ls hl => ?_)
  have lp_10 : ∀ (nn : Nat) (k9 : Nat) (G2 : Nat → Int32), 6 - k9 < nn → (k9 ≤ 6) → (∀ k, k < k9 → G2 k = bI False) → ∀ (H : Heap) (locs : List Loc) (ls : Array Slot), Wd E Γ A s₀ H locs (wL Γ w q0 q1 q2 a b c9 (F_1) (G2) (x) (y) (z)) → lv_has ls 2 [(0, .ref (a)), (1, .int (iI (((k9 : Nat) : Int))))] → W p l e rm_X0_reset s₀ m args below meth c H locs (0) (0) (RQ below args s₀ Γ A (fun v w2 => v = none ∧ ∃ F1 G1, w2 = wL Γ w q0 q1 q2 a b c9 F1 G1 (iI 0) (iI 12) (iI 1) ∧ (∀ k, k < 6 → F1 k = iI 1) ∧ (∀ k, k < 6 → G1 k = bI False)) rm_X0_reset) (F0 m 10 ls []) := by
    intro nn
    induction nn with
    | zero => intro k9 G2 hmu; exact absurd hmu (Nat.not_lt_zero _)
    | succ nn ih =>
      intro k9 G2 hmu hk9 hG1 H locs ls X hl
      have ih_10 := ih
      refine lv_iload_n Fx.1 Fx.2.1 dX0_reset_10 rfl (lv_at hl 1 rfl) ?_
      refine k_bipush Fx dX0_reset_11 (by decide) ?_
      refine k_icmp_ge (a := ((k9 : Nat) : Int)) (b := 6) (tgt := 29) Fx dX0_reset_13 (by decide) (by omega) (by omega) (fun c_13 => ?_) (fun c_13 => ?_)
      · refine lv_aload_n Fx.1 Fx.2.1 dX0_reset_29 rfl (lv_at hl 0 rfl) ?_
        refine k_iconst Fx dX0_reset_30 ?_
        refine pf_X0_28 (q0 := q0) (v := .int (iI (0))) Fx X (wL_0 hd) rfl rfl (by show 2 < 5; decide) dX0_reset_31 (fun H locs X => ?_)
        have X : Wd E Γ A s₀ H locs (wL Γ w q0 q1 q2 a b c9 (F_1) (G2) ((iI (0))) (y) (z)) := Wd.to X (wL_s0 hd)
        refine lv_aload_n Fx.1 Fx.2.1 dX0_reset_34 rfl (lv_at hl 0 rfl) ?_
        refine k_bipush Fx dX0_reset_35 (by decide) ?_
        refine pf_X0_32 (q0 := q0) (v := .int (iI (12))) Fx X (wL_0 hd) rfl rfl (by show 3 < 5; decide) dX0_reset_37 (fun H locs X => ?_)
        have X : Wd E Γ A s₀ H locs (wL Γ w q0 q1 q2 a b c9 (F_1) (G2) ((iI (0))) ((iI (12))) (z)) := Wd.to X (wL_s0 hd)
        refine lv_aload_n Fx.1 Fx.2.1 dX0_reset_40 rfl (lv_at hl 0 rfl) ?_
        refine k_iconst Fx dX0_reset_41 ?_
        refine pf_X0_35 (q0 := q0) (v := .int (iI (1))) Fx X (wL_0 hd) rfl rfl (by show 4 < 5; decide) dX0_reset_42 (fun H locs X => ?_)
        have X : Wd E Γ A s₀ H locs (wL Γ w q0 q1 q2 a b c9 (F_1) (G2) ((iI (0))) ((iI (12))) ((iI (1)))) := Wd.to X (wL_s0 hd)
        exact r_vret Fx hr hlk X (by decide) dX0_reset_45 (⟨rfl, _, _, rfl, hF1, fun k hk => hG1 k (by omega)⟩)
      · refine lv_aload_n Fx.1 Fx.2.1 dX0_reset_16 rfl (lv_at hl 0 rfl) ?_
        refine gf_X0_15 (q0 := q0) Fx X (wL_0 hd) rfl dX0_reset_17 ?_
        refine lv_iload_n Fx.1 Fx.2.1 dX0_reset_20 rfl (lv_at hl 1 rfl) ?_
        refine k_iconst Fx dX0_reset_21 ?_
        refine r_zst (q0 := q2) (z := ((k9 : Nat) : Int)) (i := k9) Fx X (wL_2 hd) rfl (by omega) (by decide) dX0_reset_22 (fun H locs X => ?_)
        have X : Wd E Γ A s₀ H locs (wL Γ w q0 q1 q2 a b c9 (F_1) (upd (G2) k9 (vp_nar .boolean (iI (0)))) (x) (y) (z)) := Wd.to X wL_s2
        refine k_iinc (k := 1) (a := ((k9 : Nat) : Int)) (lv' := [(1, .int (iI ((((k9 : Nat) : Int) + 1)))), (0, .ref (a))]) Fx dX0_reset_23 hl rfl (by decide) rfl (fun ls hl => ?_)
        refine lv_goto (tgt := 10) Fx.1 Fx.2.1 dX0_reset_26 (by decide) ?_
        have hl_2 := lv_rp hl 0 rfl (show (iI ((((k9 : Nat) : Int) + 1))) = (iI ((((k9 + 1) : Nat) : Int))) from congrArg iI (by omega))
        exact ih_10 (k9 + 1) (upd (G2) k9 (vp_nar .boolean (iI (0)))) (by omega) (by omega) (fill_s2 (bI_f (fun h => h)).symm hG1) _ _ _ X (lv_sub hl_2 [1, 0] rfl)
  have hl_3 := lv_rp hl 0 rfl (show (iI (0)) = (iI (((0 : Nat) : Int))) from congrArg iI (by omega))
  exact lp_10 _ (0) (G) (Nat.lt_succ_self _) (by omega) (fun k h => absurd h (Nat.not_lt_zero k)) _ _ _ X (lv_sub hl_3 [1, 0] rfl)

