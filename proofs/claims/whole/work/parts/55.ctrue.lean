theorem nr_step1 {F : Nat → Nat → Int} {q y c : Nat} (h : ¬ byd q (nrD F q y (c - 1)) (F q (y - c))) : nrD F q y (c - 1) = nrD F q y (c + 1 - 1) := by
  rw [Nat.add_sub_cancel]
  cases c with
  | zero => rfl
  | succ c =>
    show nrD F q y c = pick q (nrD F q y c) (F q (y - (c + 1)))
    have h : ¬ byd q (nrD F q y c) (F q (y - (c + 1))) := h
    unfold byd at h
    unfold pick
    (repeat' split) <;> first | rfl | (exfalso; apply h; exact ⟨fun _ => by omega, fun _ => by omega⟩)
theorem nr_step2 {F : Nat → Nat → Int} {q y c : Nat} (h : byd q (nrD F q y (c - 1)) (F q (y - c))) : F q (y - c) = nrD F q y (c + 1 - 1) := by
  rw [Nat.add_sub_cancel]
  cases c with
  | zero => rfl
  | succ c =>
    show F q (y - (c + 1)) = pick q (nrD F q y c) (F q (y - (c + 1)))
    have h : byd q (nrD F q y c) (F q (y - (c + 1))) := h
    unfold pick
    by_cases z : q = 0
    · have := h.1 z; rw [if_pos z, if_pos this]
    · have := h.2 z; rw [if_neg z, if_pos this]

theorem ex_row {g : Nat → Nat → Int32} {q i : Nat} {x : Int32} {z : Nat → Int32} (hq : q < 2) : updA (updA g (50 + q) (upd (g (50 + q)) i x)) 23 z (50 + q) i = x := by
  rw [updA_n (by omega), updA_s, upd_s]
theorem ex_run {g : Nat → Nat → Int32} {q i : Nat} {x y z : Int32} (h : z = y) : updA (updA g (50 + q) (upd (g (50 + q)) i x)) 23 (upd (updA g (50 + q) (upd (g (50 + q)) i x) 23) q y) 23 q = z := by
  rw [updA_s, upd_s]; exact h.symm
theorem ex_oth {g : Nat → Nat → Int32} {q i : Nat} {x y : Int32} : ∀ k, k ≠ q → k < 2 → updA (updA g (50 + q) (upd (g (50 + q)) i x)) 23 (upd (updA g (50 + q) (upd (g (50 + q)) i x) 23) q y) (50 + k) = g (50 + k) ∧ updA (updA g (50 + q) (upd (g (50 + q)) i x)) 23 (upd (updA g (50 + q) (upd (g (50 + q)) i x) 23) q y) 23 k = g 23 k := fun k h1 h2 => ⟨(updA_n (by omega)).trans (updA_n (by omega)), by rw [updA_s, upd_n h1, updA_n (by omega)]⟩

abbrev rm_X8_isBeyond : Room := ({ frames := 0, cells := 0, slots := 0, locals := 0 } : Room)
set_option maxHeartbeats 4000000 in
set_option maxRecDepth 100000 in
theorem c_X8_isBeyond {E : XX} (hE : XS E) (l : Launch) {Γ : GG} {w : va_W} {q : Nat} {a b : Int} (hq : q < 2) (ha : -2147483648 ≤ a ∧ a < 2147483648) (hb : -2147483648 ≤ b ∧ b < 2147483648) : Con E l yX8_isBeyond cX8_isBeyond 3 (some .boolean) rm_X8_isBeyond Γ w [.int (iI (((q : Nat) : Int))), .int (iI (a)), .int (iI (b))] (Qi (bI (byd q a b)) w) := by
  refine Con_mk (by decide) (Nat.le_of_ble_eq_true rfl) ?_
  intro p e s₀ m args below meth c A Fx hr hlk hnm X ls hl
  have hl : lv_has ls 3 [(0, .int (iI (((q : Nat) : Int)))), (1, .int (iI (a))), (2, .int (iI (b)))] := hl
  refine lv_iload_n Fx.1 Fx.2.1 dX8_isBeyond_0 rfl (lv_at hl 0 rfl) ?_
  refine k_if_ne (a := ((q : Nat) : Int)) (tgt := 17) Fx dX8_isBeyond_1 (by decide) (by omega) (fun c_1 => ?_) (fun c_1 => ?_)
  · refine lv_iload_n Fx.1 Fx.2.1 dX8_isBeyond_17 rfl (lv_at hl 1 rfl) ?_
    refine lv_iload_n Fx.1 Fx.2.1 dX8_isBeyond_18 rfl (lv_at hl 2 rfl) ?_
    refine k_icmp_ge (a := a) (b := b) (tgt := 26) Fx dX8_isBeyond_19 (by decide) (by omega) (by omega) (fun c_19 => ?_) (fun c_19 => ?_)
    · refine k_iconst Fx dX8_isBeyond_26 ?_
      exact r_zret Fx hr hlk X (by decide) dX8_isBeyond_27 rfl (Qi_mk (bI_0 (fun h => absurd (h.2 (by omega)) (by omega))))
    · refine k_iconst Fx dX8_isBeyond_22 ?_
      refine lv_goto (tgt := 27) Fx.1 Fx.2.1 dX8_isBeyond_23 (by decide) ?_
      exact r_zret Fx hr hlk X (by decide) dX8_isBeyond_27 rfl (Qi_mk (bI_1 (⟨fun _ => by omega, fun _ => by omega⟩)))
  · refine lv_iload_n Fx.1 Fx.2.1 dX8_isBeyond_4 rfl (lv_at hl 1 rfl) ?_
    refine lv_iload_n Fx.1 Fx.2.1 dX8_isBeyond_5 rfl (lv_at hl 2 rfl) ?_
    refine k_icmp_le (a := a) (b := b) (tgt := 13) Fx dX8_isBeyond_6 (by decide) (by omega) (by omega) (fun c_6 => ?_) (fun c_6 => ?_)
    · refine k_iconst Fx dX8_isBeyond_13 ?_
      refine lv_goto (tgt := 27) Fx.1 Fx.2.1 dX8_isBeyond_14 (by decide) ?_
      exact r_zret Fx hr hlk X (by decide) dX8_isBeyond_27 rfl (Qi_mk (bI_0 (fun h => absurd (h.1 (by omega)) (by omega))))
    · refine k_iconst Fx dX8_isBeyond_9 ?_
      refine lv_goto (tgt := 27) Fx.1 Fx.2.1 dX8_isBeyond_10 (by decide) ?_
      exact r_zret Fx hr hlk X (by decide) dX8_isBeyond_27 rfl (Qi_mk (bI_1 (⟨fun _ => by omega, fun _ => by omega⟩)))

abbrev rm_X8_moveLine : Room := ({ frames := 1, cells := 0, slots := 0, locals := 22 } : Room)
set_option maxHeartbeats 4000000 in
set_option maxRecDepth 100000 in
theorem c_X8_moveLine {E : XX} (hE : XS E) (l : Launch) {Γ : GG} {ad : Nat → Nat} {ed : Nat} {f g : Nat → Nat → Int32} {tl : va_W} {q y : Nat} {a x : Int} (hq : q < 2) (ha : -2147483648 ≤ a ∧ a < 2147483648) (hx : -2147483648 ≤ x ∧ x < 2147483648) (hx9 : f 7 0 = iI x) : Con E l yX8_moveLine cX8_moveLine 4 none rm_X8_moveLine Γ (wC Γ ad ed f g tl) [.ref (ad 7), .int (iI (((q : Nat) : Int))), .int (iI (a)), .int (iI (((y : Nat) : Int)))] (fun v w2 => (v = none ∧ byd q a x ∧ w2 = wC Γ ad ed (updA (updA f 7 (upd (f 7) 0 (iI a))) 7 (upd (updA f 7 (upd (f 7) 0 (iI a)) 7) 1 (iI (y : Nat)))) g tl) ∨ (v = none ∧ ¬ byd q a x ∧ w2 = wC Γ ad ed f g tl)) := by
  refine Con_mk (by decide) (Nat.le_of_ble_eq_true rfl) ?_
  intro p e s₀ m args below meth c A Fx hr hlk hnm X ls hl
  have hl : lv_has ls 4 [(0, .ref (ad 7)), (1, .int (iI (((q : Nat) : Int)))), (2, .int (iI (a))), (3, .int (iI (((y : Nat) : Int))))] := hl
  refine lv_iload_n Fx.1 Fx.2.1 dX8_moveLine_0 rfl (lv_at hl 1 rfl) ?_
  refine lv_iload_n Fx.1 Fx.2.1 dX8_moveLine_1 rfl (lv_at hl 2 rfl) ?_
  refine lv_aload_n Fx.1 Fx.2.1 dX8_moveLine_2 rfl (lv_at hl 0 rfl) ?_
  refine gC_X8_9_7 (x := (iI (x))) Fx X (hx9) dX8_moveLine_3 ?_
  refine r_callSi (As := [.int (iI (((q : Nat) : Int))), .int (iI (a)), .int (iI (x))]) (rest := []) hE Fx X (c_X8_isBeyond hE l (q := q) (a := a) (b := x) (by omega) (by omega) (by omega)) cS_X8_67 rfl rfl (Nat.le_of_ble_eq_true rfl) (by decide) hl.1 dX8_moveLine_6 (fun H locs X => ?_)
  refine k_bif_eq (tgt := 22) Fx dX8_moveLine_9 (by decide) (fun c_9 => ?_) (fun c_9 => ?_)
  · exact r_vret Fx hr hlk X (by decide) dX8_moveLine_22 (Or.inr ⟨rfl, c_9, rfl⟩)
  · refine lv_aload_n Fx.1 Fx.2.1 dX8_moveLine_12 rfl (lv_at hl 0 rfl) ?_
    refine lv_iload_n Fx.1 Fx.2.1 dX8_moveLine_13 rfl (lv_at hl 2 rfl) ?_
    refine pC_X8_9_7 Fx X dX8_moveLine_14 (fun H locs X => ?_)
    refine lv_aload_n Fx.1 Fx.2.1 dX8_moveLine_17 rfl (lv_at hl 0 rfl) ?_
    refine lv_iload_n Fx.1 Fx.2.1 dX8_moveLine_18 rfl (lv_at hl 3 rfl) ?_
    refine pC_X8_15_7 Fx X dX8_moveLine_19 (fun H locs X => ?_)
    exact r_vret Fx hr hlk X (by decide) dX8_moveLine_22 (Or.inl ⟨rfl, c_9, rfl⟩)

abbrev rm_X8_nearest : Room := ({ frames := 1, cells := 0, slots := 0, locals := 22 } : Room)
set_option maxHeartbeats 4000000 in
set_option maxRecDepth 100000 in
theorem c_X8_nearest {E : XX} (hE : XS E) (l : Launch) {Γ : GG} {ad : Nat → Nat} {ed : Nat} {f g : Nat → Nat → Int32} {tl : va_W} {F : Nat → Nat → Int} (hF : ∀ n y, -1 ≤ F n y ∧ F n y < 80) {q la ho y : Nat} (hq : q < 2) (hla : la < 60) (hh : 1 ≤ ho ∧ ho ≤ la + 1) (hrow : ∀ d, d < ho → g (50 + q) (la - d) = iI (F q (y - d))) : Con E l yX8_nearest cX8_nearest 6 (some .int) rm_X8_nearest Γ (wC Γ ad ed f g tl) [.ref (ad 7), .int (iI (((q : Nat) : Int))), .int (iI (((la : Nat) : Int))), .int (iI (((ho : Nat) : Int)))] (Qi (iI (aNr F ho q y)) (wC Γ ad ed f g tl)) := by
  refine Con_mk (by decide) (Nat.le_of_ble_eq_true rfl) ?_
  intro p e s₀ m args below meth c A Fx hr hlk hnm X ls hl
  have hl : lv_has ls 6 [(0, .ref (ad 7)), (1, .int (iI (((q : Nat) : Int)))), (2, .int (iI (((la : Nat) : Int)))), (3, .int (iI (((ho : Nat) : Int))))] := hl
  refine lv_aload_n Fx.1 Fx.2.1 dX8_nearest_0 rfl (lv_at hl 0 rfl) ?_
  refine gC_X8_27_7 Fx X dX8_nearest_1 ?_
  refine lv_iload_n Fx.1 Fx.2.1 dX8_nearest_4 rfl (lv_at hl 1 rfl) ?_
  refine r_rld (q0 := 24) (z := ((q : Nat) : Int)) (i := q) Fx X rfl (rfl) (by omega) (by decide) rfl dX8_nearest_5 ?_
  refine lv_iload_n Fx.1 Fx.2.1 dX8_nearest_6 rfl (lv_at hl 2 rfl) ?_
  refine r_ild (q0 := 42 + q) (z := ((la : Nat) : Int)) (i := la) (x := (iI (F q y))) Fx X (row_50 (by omega)) (rfl) (by omega) (by decide) (hrow 0 (by omega)) dX8_nearest_7 ?_
  refine lv_istore (lv' := [(4, .int (iI (F q y))), (0, .ref (ad 7)), (1, .int (iI (((q : Nat) : Int)))), (2, .int (iI (((la : Nat) : Int)))), (3, .int (iI (((ho : Nat) : Int))))]) Fx.1 Fx.2.1 dX8_nearest_8 hl (by decide) rfl (fun ls hl => ?_)
  refine lv_iload_n Fx.1 Fx.2.1 dX8_nearest_10 rfl (lv_at hl 3 rfl) ?_
  refine lv_istore (lv' := [(5, .int (iI (((la : Nat) : Int)))), (4, .int (iI (F q y))), (0, .ref (ad 7)), (1, .int (iI (((q : Nat) : Int)))), (2, .int (iI (((la : Nat) : Int)))), (3, .int (iI (((ho : Nat) : Int))))]) Fx.1 Fx.2.1 dX8_nearest_11 hl (by decide) rfl (fun ls hl => ?_)
  have lp_13 : ∀ (nn : Nat) (c9 : Nat), ho - c9 < nn → (c9 ≤ ho) → ∀ (H : Heap) (locs : List Loc) (ls : Array Slot), Wd E Γ A s₀ H locs (wC Γ ad ed f g tl) → lv_has ls 6 [(0, .ref (ad 7)), (1, .int (iI (((q : Nat) : Int)))), (2, .int (iI (((la : Nat) : Int)))), (3, .int (iI (((ho : Nat) : Int)))), (4, .int (iI (nrD F q y (c9 - 1)))), (5, .int (iI ((((la : Nat) : Int) - ((c9 : Nat) : Int)))))] → W p l e rm_X8_nearest s₀ m args below meth c H locs (0) (0) (RQ below args s₀ Γ A (Qi (iI (aNr F ho q y)) (wC Γ ad ed f g tl)) rm_X8_nearest) (F0 m 13 ls []) := by
    intro nn
    induction nn with
    | zero => intro c9 hmu; exact absurd hmu (Nat.not_lt_zero _)
    | succ nn ih =>
      intro c9 hmu hc H locs ls X hl
      have ih_13 := ih
      refine lv_iload Fx.1 Fx.2.1 dX8_nearest_13 (lv_at hl 5 rfl) ?_
      refine k_if_lt (a := (((la : Nat) : Int) - ((c9 : Nat) : Int))) (tgt := 61) Fx dX8_nearest_15 (by decide) (by omega) (fun c_15 => ?_) (fun c_15 => ?_)
      · refine lv_iload Fx.1 Fx.2.1 dX8_nearest_61 (lv_at hl 4 rfl) ?_
        exact r_iret Fx hr hlk X (by decide) dX8_nearest_63 (Qi_mk (by unfold aNr; rw [show c9 - 1 = ho - 1 by omega]))
      · refine lv_iload Fx.1 Fx.2.1 dX8_nearest_18 (lv_at hl 5 rfl) ?_
        refine lv_iload_n Fx.1 Fx.2.1 dX8_nearest_20 rfl (lv_at hl 2 rfl) ?_
        refine lv_iload_n Fx.1 Fx.2.1 dX8_nearest_21 rfl (lv_at hl 3 rfl) ?_
        refine k_isub Fx dX8_nearest_22 ?_
        refine k_icmp_le (a := (((la : Nat) : Int) - ((c9 : Nat) : Int))) (b := (((la : Nat) : Int) - ((ho : Nat) : Int))) (tgt := 61) Fx dX8_nearest_23 (by decide) (by omega) (by omega) (fun c_23 => ?_) (fun c_23 => ?_)
        · refine lv_iload Fx.1 Fx.2.1 dX8_nearest_61 (lv_at hl 4 rfl) ?_
          exact r_iret Fx hr hlk X (by decide) dX8_nearest_63 (Qi_mk (by unfold aNr; rw [show c9 - 1 = ho - 1 by omega]))
        · have hl := lv_rp hl 5 rfl (show (iI ((((la : Nat) : Int) - ((c9 : Nat) : Int)))) = (iI (((la - c9 : Nat) : Int))) from congrArg iI (by omega))
          have hb1 := hF q (y - c9)
          have hb2 := nrD_b hF q y (c9 - 1)
          refine lv_iload_n Fx.1 Fx.2.1 dX8_nearest_26 rfl (lv_at hl 1 rfl) ?_
          refine lv_iload Fx.1 Fx.2.1 dX8_nearest_27 (lv_at hl 4 rfl) ?_
          refine lv_aload_n Fx.1 Fx.2.1 dX8_nearest_29 rfl (lv_at hl 0 rfl) ?_
          refine gC_X8_27_7 Fx X dX8_nearest_30 ?_
          refine lv_iload_n Fx.1 Fx.2.1 dX8_nearest_33 rfl (lv_at hl 1 rfl) ?_
          refine r_rld (q0 := 24) (z := ((q : Nat) : Int)) (i := q) Fx X rfl (rfl) (by omega) (by decide) rfl dX8_nearest_34 ?_
          refine lv_iload Fx.1 Fx.2.1 dX8_nearest_35 (lv_at hl 5 rfl) ?_
          refine r_ild (q0 := 42 + q) (z := ((la - c9 : Nat) : Int)) (i := (la - c9)) (x := (iI (F q (y - c9)))) Fx X (row_50 (by omega)) (rfl) (by omega) (by decide) (hrow c9 (by omega)) dX8_nearest_37 ?_
          refine r_callSi (As := [.int (iI (((q : Nat) : Int))), .int (iI (nrD F q y (c9 - 1))), .int (iI (F q (y - c9)))]) (rest := []) hE Fx X (c_X8_isBeyond hE l (q := q) (a := nrD F q y (c9 - 1)) (b := F q (y - c9)) (by omega) (by omega) (by omega)) cS_X8_67 rfl rfl (Nat.le_of_ble_eq_true rfl) (by decide) hl.1 dX8_nearest_38 (fun H locs X => ?_)
          refine k_bif_eq (tgt := 55) Fx dX8_nearest_41 (by decide) (fun c_41 => ?_) (fun c_41 => ?_)
          · refine k_iinc (k := 5) (a := ((la - c9 : Nat) : Int)) (lv' := [(5, .int (iI ((((la - c9 : Nat) : Int) + (-1))))), (0, .ref (ad 7)), (1, .int (iI (((q : Nat) : Int)))), (2, .int (iI (((la : Nat) : Int)))), (3, .int (iI (((ho : Nat) : Int)))), (4, .int (iI (nrD F q y (c9 - 1))))]) Fx dX8_nearest_55 hl rfl (by decide) rfl (fun ls hl => ?_)
            refine lv_goto (tgt := 13) Fx.1 Fx.2.1 dX8_nearest_58 (by decide) ?_
            have hl_1 := lv_rp hl 5 rfl (show (iI (nrD F q y (c9 - 1))) = (iI (nrD F q y ((c9 + 1) - 1))) from congrArg iI (nr_step1 c_41))
            have hl_2 := lv_rp hl_1 0 rfl (show (iI ((((la - c9 : Nat) : Int) + (-1)))) = (iI ((((la : Nat) : Int) - (((c9 + 1) : Nat) : Int)))) from congrArg iI (by omega))
            exact ih_13 (c9 + 1) (by omega) (by omega) _ _ _ X (lv_sub hl_2 [1, 2, 3, 4, 5, 0] rfl)
          · refine lv_aload_n Fx.1 Fx.2.1 dX8_nearest_44 rfl (lv_at hl 0 rfl) ?_
            refine gC_X8_27_7 Fx X dX8_nearest_45 ?_
            refine lv_iload_n Fx.1 Fx.2.1 dX8_nearest_48 rfl (lv_at hl 1 rfl) ?_
            refine r_rld (q0 := 24) (z := ((q : Nat) : Int)) (i := q) Fx X rfl (rfl) (by omega) (by decide) rfl dX8_nearest_49 ?_
            refine lv_iload Fx.1 Fx.2.1 dX8_nearest_50 (lv_at hl 5 rfl) ?_
            refine r_ild (q0 := 42 + q) (z := ((la - c9 : Nat) : Int)) (i := (la - c9)) (x := (iI (F q (y - c9)))) Fx X (row_50 (by omega)) (rfl) (by omega) (by decide) (hrow c9 (by omega)) dX8_nearest_52 ?_
            refine lv_istore (lv' := [(4, .int (iI (F q (y - c9)))), (0, .ref (ad 7)), (1, .int (iI (((q : Nat) : Int)))), (2, .int (iI (((la : Nat) : Int)))), (3, .int (iI (((ho : Nat) : Int)))), (5, .int (iI (((la - c9 : Nat) : Int))))]) Fx.1 Fx.2.1 dX8_nearest_53 hl (by decide) rfl (fun ls hl => ?_)
            refine k_iinc (k := 5) (a := ((la - c9 : Nat) : Int)) (lv' := [(5, .int (iI ((((la - c9 : Nat) : Int) + (-1))))), (4, .int (iI (F q (y - c9)))), (0, .ref (ad 7)), (1, .int (iI (((q : Nat) : Int)))), (2, .int (iI (((la : Nat) : Int)))), (3, .int (iI (((ho : Nat) : Int))))]) Fx dX8_nearest_55 hl rfl (by decide) rfl (fun ls hl => ?_)
            refine lv_goto (tgt := 13) Fx.1 Fx.2.1 dX8_nearest_58 (by decide) ?_
            have hl_3 := lv_rp hl 1 rfl (show (iI (F q (y - c9))) = (iI (nrD F q y ((c9 + 1) - 1))) from congrArg iI (nr_step2 c_41))
            have hl_4 := lv_rp hl_3 0 rfl (show (iI ((((la - c9 : Nat) : Int) + (-1)))) = (iI ((((la : Nat) : Int) - (((c9 + 1) : Nat) : Int)))) from congrArg iI (by omega))
            exact ih_13 (c9 + 1) (by omega) (by omega) _ _ _ X (lv_sub hl_4 [2, 3, 4, 5, 1, 0] rfl)
  have hl_5 := lv_rp hl 1 rfl (show (iI (F q y)) = (iI (nrD F q y (0 - 1))) from rfl)
  have hl_6 := lv_rp hl_5 0 rfl (show (iI (((la : Nat) : Int))) = (iI ((((la : Nat) : Int) - ((0 : Nat) : Int)))) from congrArg iI (by omega))
  exact lp_13 _ (0) (Nat.lt_succ_self _) (by omega) _ _ _ X (lv_sub hl_6 [2, 3, 4, 5, 1, 0] rfl)

abbrev rm_X8_extendRun : Room := ({ frames := 1, cells := 0, slots := 0, locals := 24 } : Room)
set_option maxHeartbeats 4000000 in
set_option maxRecDepth 100000 in
theorem c_X8_extendRun {E : XX} (hE : XS E) (l : Launch) {Γ : GG} {ad : Nat → Nat} {ed : Nat} {f g : Nat → Nat → Int32} {tl : va_W} {mn : Nat} {M : Nat → Nat → Nat} (hM : MowC mn M f g) (hMB : MowB mn M) {pn : Nat} {P : Nat → Nat → Nat} (hP : ProC pn P f g) (hPB : ProB pn P) {yc : Nat} {Y : Nat → Nat} (hY : YrC yc Y f g) (hYB : YrB yc Y) {q s i pf : Nat} {r0 : Nat} (hq : q < 2) (hs : s < 10) (hi : i < yc) (hyc : yc ≤ 60) (hpf : pf < 80) (hr0 : g 23 q = iI (r0 : Nat)) (hrt : (0 < i ∧ Y (i - 1) + 1 = Y i) → aRn (spB M mn P pn s ((pf : Nat) : Int)) q (Y i) = r0) (hrf : ¬ (0 < i ∧ Y (i - 1) + 1 = Y i) → aRn (spB M mn P pn s ((pf : Nat) : Int)) q (Y i) = 0) : Con E l yX8_extendRun cX8_extendRun 9 none rm_X8_extendRun Γ (wC Γ ad ed f g tl) [.ref (ad 7), .int (iI (((q : Nat) : Int))), .int (iI (((s : Nat) : Int))), .int (iI (((i : Nat) : Int))), .int (iI (((pf : Nat) : Int)))] (fun v w2 => v = none ∧ ∃ g1, w2 = wC Γ ad ed f g1 tl ∧ g1 (50 + q) i = iI (spF M mn s q (Y i)) ∧ g1 23 q = iI (aRn (spB M mn P pn s ((pf : Nat) : Int)) q (Y i + 1) : Nat) ∧ (∀ j, j ≠ 23 → j ≠ 50 → j ≠ 51 → g1 j = g j) ∧ (∀ k, k ≠ i → g1 (50 + q) k = g (50 + q) k) ∧ (∀ k, k ≠ q → k < 2 → g1 (50 + k) = g (50 + k) ∧ g1 23 k = g 23 k)) := by
  refine Con_mk (by decide) (Nat.le_of_ble_eq_true rfl) ?_
  intro p e s₀ m args below meth c A Fx hr hlk hnm X ls hl
  have hl : lv_has ls 9 [(0, .ref (ad 7)), (1, .int (iI (((q : Nat) : Int)))), (2, .int (iI (((s : Nat) : Int)))), (3, .int (iI (((i : Nat) : Int)))), (4, .int (iI (((pf : Nat) : Int))))] := hl
  refine lv_aload_n Fx.1 Fx.2.1 dX8_extendRun_0 rfl (lv_at hl 0 rfl) ?_
  refine gC_X8_30_7 Fx X dX8_extendRun_1 ?_
  refine gC_X8_57_5 Fx X dX8_extendRun_4 ?_
  refine lv_iload_n Fx.1 Fx.2.1 dX8_extendRun_7 rfl (lv_at hl 3 rfl) ?_
  refine ldC_14 (z := ((i : Nat) : Int)) (i := i) (x := (iI (((Y i : Nat) : Int)))) Fx X (rfl) (by omega) (hY.2 i (by omega)) dX8_extendRun_8 ?_
  have by_x := hYB.2 i (by omega)
  refine lv_istore (lv' := [(5, .int (iI (((Y i : Nat) : Int)))), (0, .ref (ad 7)), (1, .int (iI (((q : Nat) : Int)))), (2, .int (iI (((s : Nat) : Int)))), (3, .int (iI (((i : Nat) : Int)))), (4, .int (iI (((pf : Nat) : Int))))]) Fx.1 Fx.2.1 dX8_extendRun_9 hl (by decide) rfl (fun ls hl => ?_)
  refine lv_aload_n Fx.1 Fx.2.1 dX8_extendRun_11 rfl (lv_at hl 1 rfl) ?_
  refine gC_X8_30_7 Fx X dX8_extendRun_12 ?_
  refine lv_iload_n Fx.1 Fx.2.1 dX8_extendRun_15 rfl (lv_at hl 2 rfl) ?_
  refine lv_iload_n Fx.1 Fx.2.1 dX8_extendRun_16 rfl (lv_at hl 3 rfl) ?_
  refine lv_iload Fx.1 Fx.2.1 dX8_extendRun_17 (lv_at hl 0 rfl) ?_
  refine r_callVi (As := [.int (iI (((q : Nat) : Int))), .int (iI (((s : Nat) : Int))), .int (iI (((Y i : Nat) : Int)))]) (rest := []) hE Fx X (c_X2_reachOf hE l (by exact hM) hMB (q := q) (s := s) (y := Y i) (by omega) (by omega) (by omega)) cV_X8_64 (recC_5 X) rfl rfl (Nat.le_of_ble_eq_true rfl) (by decide) hl.1 dX8_extendRun_19 (fun H locs X => ?_)
  refine lv_istore (lv' := [(6, .int (iI ((aMw M q s (Y i) mn)))), (5, .int (iI (((Y i : Nat) : Int)))), (0, .ref (ad 7)), (1, .int (iI (((q : Nat) : Int)))), (2, .int (iI (((s : Nat) : Int)))), (3, .int (iI (((i : Nat) : Int)))), (4, .int (iI (((pf : Nat) : Int))))]) Fx.1 Fx.2.1 dX8_extendRun_22 hl (by decide) rfl (fun ls hl => ?_)
  have hfb := aMw_b hMB q s (Y i) mn
  refine lv_aload_n Fx.1 Fx.2.1 dX8_extendRun_24 rfl (lv_at hl 2 rfl) ?_
  refine gC_X8_27_7 Fx X dX8_extendRun_25 ?_
  refine lv_iload_n Fx.1 Fx.2.1 dX8_extendRun_28 rfl (lv_at hl 3 rfl) ?_
  refine r_rld (q0 := 24) (z := ((q : Nat) : Int)) (i := q) Fx X rfl (rfl) (by omega) (by decide) rfl dX8_extendRun_29 ?_
  refine lv_iload_n Fx.1 Fx.2.1 dX8_extendRun_30 rfl (lv_at hl 5 rfl) ?_
  refine lv_iload Fx.1 Fx.2.1 dX8_extendRun_31 (lv_at hl 0 rfl) ?_
  refine r_ist (q0 := 42 + q) (z := ((i : Nat) : Int)) (i := i) Fx X (row_50 (by omega)) (rfl) (by omega) (by decide) dX8_extendRun_33 (fun H locs X => ?_)
  have X := Wd.to X (rowset_50 (by omega))
  have hg9 : ∀ j, j < 32 → j ≠ 23 → j ≠ 22 → (updA g (50 + q) (upd (g (50 + q)) i (iI ((aMw M q s (Y i) mn))))) j = g j := fun j h _ _ => updA_n (by omega)
  have hP := ProC_g2 hg9 hP
  have hY := YrC_g hg9 hY
  have hr0 : (updA g (50 + q) (upd (g (50 + q)) i (iI ((aMw M q s (Y i) mn))))) 23 q = iI (r0 : Nat) := (congrFun (updA_n (by omega)) q).trans hr0
  refine lv_iload Fx.1 Fx.2.1 dX8_extendRun_34 (lv_at hl 0 rfl) ?_
  refine k_iconst Fx dX8_extendRun_36 ?_
  refine k_icmp_eq (a := (aMw M q s (Y i) mn)) (b := (-1)) (tgt := 68) Fx dX8_extendRun_37 (by decide) (by omega) (by omega) (fun c_37 => ?_) (fun c_37 => ?_)
  · refine k_iconst Fx dX8_extendRun_68 ?_
    refine lv_istore (lv' := [(7, .int (iI (0))), (6, .int (iI ((aMw M q s (Y i) mn)))), (5, .int (iI (((Y i : Nat) : Int)))), (0, .ref (ad 7)), (1, .int (iI (((q : Nat) : Int)))), (2, .int (iI (((s : Nat) : Int)))), (3, .int (iI (((i : Nat) : Int)))), (4, .int (iI (((pf : Nat) : Int))))]) Fx.1 Fx.2.1 dX8_extendRun_69 hl (by decide) rfl (fun ls hl => ?_)
    refine lv_iload_n Fx.1 Fx.2.1 dX8_extendRun_71 rfl (lv_at hl 6 rfl) ?_
    refine k_if_le (a := ((i : Nat) : Int)) (tgt := 97) Fx dX8_extendRun_72 (by decide) (by omega) (fun c_72 => ?_) (fun c_72 => ?_)
    · refine k_iconst Fx dX8_extendRun_97 ?_
      refine lv_istore (lv' := [(8, .int (iI (0))), (7, .int (iI (0))), (6, .int (iI ((aMw M q s (Y i) mn)))), (5, .int (iI (((Y i : Nat) : Int)))), (0, .ref (ad 7)), (1, .int (iI (((q : Nat) : Int)))), (2, .int (iI (((s : Nat) : Int)))), (3, .int (iI (((i : Nat) : Int)))), (4, .int (iI (((pf : Nat) : Int))))]) Fx.1 Fx.2.1 dX8_extendRun_98 hl (by decide) rfl (fun ls hl => ?_)
      refine lv_iload Fx.1 Fx.2.1 dX8_extendRun_100 (lv_at hl 1 rfl) ?_
      refine k_if_ne (a := 0) (tgt := 115) Fx dX8_extendRun_102 (by decide) (by omega) (fun c_102 => ?_) (fun c_102 => ?_)
      · exact absurd c_102 (by omega)
      refine lv_aload_n Fx.1 Fx.2.1 dX8_extendRun_105 rfl (lv_at hl 4 rfl) ?_
      refine gC_X8_22_7 Fx X dX8_extendRun_106 ?_
      refine lv_iload_n Fx.1 Fx.2.1 dX8_extendRun_109 rfl (lv_at hl 5 rfl) ?_
      refine k_iconst Fx dX8_extendRun_110 ?_
      refine stC_23 (z := ((q : Nat) : Int)) (i := q) Fx X (rfl) (by omega) dX8_extendRun_111 (fun H locs X => ?_)
      refine lv_goto (tgt := 138) Fx.1 Fx.2.1 dX8_extendRun_112 (by decide) ?_
      exact r_vret Fx hr hlk X (by decide) dX8_extendRun_138 (⟨rfl, _, rfl, ex_row hq, ex_run (by rw [(rn_f (fun z => z.1.1 c_37))]; rfl), fun j h1 h2 h3 => (updA_n h1).trans (updA_n (by omega)), fun k h => (congrFun (updA_n (by omega)) k).trans (by rw [updA_s, upd_n h]), ex_oth⟩)
    · refine lv_aload_n Fx.1 Fx.2.1 dX8_extendRun_75 rfl (lv_at hl 3 rfl) ?_
      refine gC_X8_30_7 Fx X dX8_extendRun_76 ?_
      refine gC_X8_57_5 Fx X dX8_extendRun_79 ?_
      refine lv_iload_n Fx.1 Fx.2.1 dX8_extendRun_82 rfl (lv_at hl 6 rfl) ?_
      refine k_iconst Fx dX8_extendRun_83 ?_
      refine k_isub Fx dX8_extendRun_84 ?_
      refine ldC_14 (z := (((i : Nat) : Int) - 1)) (i := (i - 1)) (x := (iI (((Y (i - 1) : Nat) : Int)))) Fx X (by omega) (by omega) (hY.2 (i - 1) (by omega)) dX8_extendRun_85 ?_
      have by_x := hYB.2 (i - 1) (by omega)
      refine lv_iload Fx.1 Fx.2.1 dX8_extendRun_86 (lv_at hl 2 rfl) ?_
      refine k_iconst Fx dX8_extendRun_88 ?_
      refine k_isub Fx dX8_extendRun_89 ?_
      refine k_icmp_ne (a := ((Y (i - 1) : Nat) : Int)) (b := (((Y i : Nat) : Int) - 1)) (tgt := 97) Fx dX8_extendRun_90 (by decide) (by omega) (by omega) (fun c_90 => ?_) (fun c_90 => ?_)
      · refine k_iconst Fx dX8_extendRun_97 ?_
        refine lv_istore (lv' := [(8, .int (iI (0))), (7, .int (iI (0))), (6, .int (iI ((aMw M q s (Y i) mn)))), (5, .int (iI (((Y i : Nat) : Int)))), (0, .ref (ad 7)), (1, .int (iI (((q : Nat) : Int)))), (2, .int (iI (((s : Nat) : Int)))), (3, .int (iI (((i : Nat) : Int)))), (4, .int (iI (((pf : Nat) : Int))))]) Fx.1 Fx.2.1 dX8_extendRun_98 hl (by decide) rfl (fun ls hl => ?_)
        refine lv_iload Fx.1 Fx.2.1 dX8_extendRun_100 (lv_at hl 1 rfl) ?_
        refine k_if_ne (a := 0) (tgt := 115) Fx dX8_extendRun_102 (by decide) (by omega) (fun c_102 => ?_) (fun c_102 => ?_)
        · exact absurd c_102 (by omega)
        refine lv_aload_n Fx.1 Fx.2.1 dX8_extendRun_105 rfl (lv_at hl 4 rfl) ?_
        refine gC_X8_22_7 Fx X dX8_extendRun_106 ?_
        refine lv_iload_n Fx.1 Fx.2.1 dX8_extendRun_109 rfl (lv_at hl 5 rfl) ?_
        refine k_iconst Fx dX8_extendRun_110 ?_
        refine stC_23 (z := ((q : Nat) : Int)) (i := q) Fx X (rfl) (by omega) dX8_extendRun_111 (fun H locs X => ?_)
        refine lv_goto (tgt := 138) Fx.1 Fx.2.1 dX8_extendRun_112 (by decide) ?_
        exact r_vret Fx hr hlk X (by decide) dX8_extendRun_138 (⟨rfl, _, rfl, ex_row hq, ex_run (by rw [(rn_f (fun z => z.1.1 c_37))]; rfl), fun j h1 h2 h3 => (updA_n h1).trans (updA_n (by omega)), fun k h => (congrFun (updA_n (by omega)) k).trans (by rw [updA_s, upd_n h]), ex_oth⟩)
      · refine k_iconst Fx dX8_extendRun_93 ?_
        refine lv_goto (tgt := 98) Fx.1 Fx.2.1 dX8_extendRun_94 (by decide) ?_
        refine lv_istore (lv' := [(8, .int (iI (1))), (7, .int (iI (0))), (6, .int (iI ((aMw M q s (Y i) mn)))), (5, .int (iI (((Y i : Nat) : Int)))), (0, .ref (ad 7)), (1, .int (iI (((q : Nat) : Int)))), (2, .int (iI (((s : Nat) : Int)))), (3, .int (iI (((i : Nat) : Int)))), (4, .int (iI (((pf : Nat) : Int))))]) Fx.1 Fx.2.1 dX8_extendRun_98 hl (by decide) rfl (fun ls hl => ?_)
        refine lv_iload Fx.1 Fx.2.1 dX8_extendRun_100 (lv_at hl 1 rfl) ?_
        refine k_if_ne (a := 0) (tgt := 115) Fx dX8_extendRun_102 (by decide) (by omega) (fun c_102 => ?_) (fun c_102 => ?_)
        · exact absurd c_102 (by omega)
        refine lv_aload_n Fx.1 Fx.2.1 dX8_extendRun_105 rfl (lv_at hl 4 rfl) ?_
        refine gC_X8_22_7 Fx X dX8_extendRun_106 ?_
        refine lv_iload_n Fx.1 Fx.2.1 dX8_extendRun_109 rfl (lv_at hl 5 rfl) ?_
        refine k_iconst Fx dX8_extendRun_110 ?_
        refine stC_23 (z := ((q : Nat) : Int)) (i := q) Fx X (rfl) (by omega) dX8_extendRun_111 (fun H locs X => ?_)
        refine lv_goto (tgt := 138) Fx.1 Fx.2.1 dX8_extendRun_112 (by decide) ?_
        exact r_vret Fx hr hlk X (by decide) dX8_extendRun_138 (⟨rfl, _, rfl, ex_row hq, ex_run (by rw [(rn_f (fun z => z.1.1 c_37))]; rfl), fun j h1 h2 h3 => (updA_n h1).trans (updA_n (by omega)), fun k h => (congrFun (updA_n (by omega)) k).trans (by rw [updA_s, upd_n h]), ex_oth⟩)
  · refine lv_iload_n Fx.1 Fx.2.1 dX8_extendRun_40 rfl (lv_at hl 3 rfl) ?_
    refine lv_iload Fx.1 Fx.2.1 dX8_extendRun_41 (lv_at hl 0 rfl) ?_
    refine lv_iload Fx.1 Fx.2.1 dX8_extendRun_43 (lv_at hl 6 rfl) ?_
    refine r_callSi (As := [.int (iI (((q : Nat) : Int))), .int (iI ((aMw M q s (Y i) mn))), .int (iI (((pf : Nat) : Int)))]) (rest := []) hE Fx X (c_X8_isBeyond hE l (q := q) (a := (aMw M q s (Y i) mn)) (b := ((pf : Nat) : Int)) (by omega) (by omega) (by omega)) cS_X8_67 rfl rfl (Nat.le_of_ble_eq_true rfl) (by decide) hl.1 dX8_extendRun_45 (fun H locs X => ?_)
    refine k_bif_eq (tgt := 68) Fx dX8_extendRun_48 (by decide) (fun c_48 => ?_) (fun c_48 => ?_)
    · refine k_iconst Fx dX8_extendRun_68 ?_
      refine lv_istore (lv' := [(7, .int (iI (0))), (6, .int (iI ((aMw M q s (Y i) mn)))), (5, .int (iI (((Y i : Nat) : Int)))), (0, .ref (ad 7)), (1, .int (iI (((q : Nat) : Int)))), (2, .int (iI (((s : Nat) : Int)))), (3, .int (iI (((i : Nat) : Int)))), (4, .int (iI (((pf : Nat) : Int))))]) Fx.1 Fx.2.1 dX8_extendRun_69 hl (by decide) rfl (fun ls hl => ?_)
      refine lv_iload_n Fx.1 Fx.2.1 dX8_extendRun_71 rfl (lv_at hl 6 rfl) ?_
      refine k_if_le (a := ((i : Nat) : Int)) (tgt := 97) Fx dX8_extendRun_72 (by decide) (by omega) (fun c_72 => ?_) (fun c_72 => ?_)
      · refine k_iconst Fx dX8_extendRun_97 ?_
        refine lv_istore (lv' := [(8, .int (iI (0))), (7, .int (iI (0))), (6, .int (iI ((aMw M q s (Y i) mn)))), (5, .int (iI (((Y i : Nat) : Int)))), (0, .ref (ad 7)), (1, .int (iI (((q : Nat) : Int)))), (2, .int (iI (((s : Nat) : Int)))), (3, .int (iI (((i : Nat) : Int)))), (4, .int (iI (((pf : Nat) : Int))))]) Fx.1 Fx.2.1 dX8_extendRun_98 hl (by decide) rfl (fun ls hl => ?_)
        refine lv_iload Fx.1 Fx.2.1 dX8_extendRun_100 (lv_at hl 1 rfl) ?_
        refine k_if_ne (a := 0) (tgt := 115) Fx dX8_extendRun_102 (by decide) (by omega) (fun c_102 => ?_) (fun c_102 => ?_)
        · exact absurd c_102 (by omega)
        refine lv_aload_n Fx.1 Fx.2.1 dX8_extendRun_105 rfl (lv_at hl 4 rfl) ?_
        refine gC_X8_22_7 Fx X dX8_extendRun_106 ?_
        refine lv_iload_n Fx.1 Fx.2.1 dX8_extendRun_109 rfl (lv_at hl 5 rfl) ?_
        refine k_iconst Fx dX8_extendRun_110 ?_
        refine stC_23 (z := ((q : Nat) : Int)) (i := q) Fx X (rfl) (by omega) dX8_extendRun_111 (fun H locs X => ?_)
        refine lv_goto (tgt := 138) Fx.1 Fx.2.1 dX8_extendRun_112 (by decide) ?_
        exact r_vret Fx hr hlk X (by decide) dX8_extendRun_138 (⟨rfl, _, rfl, ex_row hq, ex_run (by rw [(rn_f (fun z => c_48 z.1.2))]; rfl), fun j h1 h2 h3 => (updA_n h1).trans (updA_n (by omega)), fun k h => (congrFun (updA_n (by omega)) k).trans (by rw [updA_s, upd_n h]), ex_oth⟩)
      · refine lv_aload_n Fx.1 Fx.2.1 dX8_extendRun_75 rfl (lv_at hl 3 rfl) ?_
        refine gC_X8_30_7 Fx X dX8_extendRun_76 ?_
        refine gC_X8_57_5 Fx X dX8_extendRun_79 ?_
        refine lv_iload_n Fx.1 Fx.2.1 dX8_extendRun_82 rfl (lv_at hl 6 rfl) ?_
        refine k_iconst Fx dX8_extendRun_83 ?_
        refine k_isub Fx dX8_extendRun_84 ?_
        refine ldC_14 (z := (((i : Nat) : Int) - 1)) (i := (i - 1)) (x := (iI (((Y (i - 1) : Nat) : Int)))) Fx X (by omega) (by omega) (hY.2 (i - 1) (by omega)) dX8_extendRun_85 ?_
        have by_x := hYB.2 (i - 1) (by omega)
        refine lv_iload Fx.1 Fx.2.1 dX8_extendRun_86 (lv_at hl 2 rfl) ?_
        refine k_iconst Fx dX8_extendRun_88 ?_
        refine k_isub Fx dX8_extendRun_89 ?_
        refine k_icmp_ne (a := ((Y (i - 1) : Nat) : Int)) (b := (((Y i : Nat) : Int) - 1)) (tgt := 97) Fx dX8_extendRun_90 (by decide) (by omega) (by omega) (fun c_90 => ?_) (fun c_90 => ?_)
        · refine k_iconst Fx dX8_extendRun_97 ?_
          refine lv_istore (lv' := [(8, .int (iI (0))), (7, .int (iI (0))), (6, .int (iI ((aMw M q s (Y i) mn)))), (5, .int (iI (((Y i : Nat) : Int)))), (0, .ref (ad 7)), (1, .int (iI (((q : Nat) : Int)))), (2, .int (iI (((s : Nat) : Int)))), (3, .int (iI (((i : Nat) : Int)))), (4, .int (iI (((pf : Nat) : Int))))]) Fx.1 Fx.2.1 dX8_extendRun_98 hl (by decide) rfl (fun ls hl => ?_)
          refine lv_iload Fx.1 Fx.2.1 dX8_extendRun_100 (lv_at hl 1 rfl) ?_
          refine k_if_ne (a := 0) (tgt := 115) Fx dX8_extendRun_102 (by decide) (by omega) (fun c_102 => ?_) (fun c_102 => ?_)
          · exact absurd c_102 (by omega)
          refine lv_aload_n Fx.1 Fx.2.1 dX8_extendRun_105 rfl (lv_at hl 4 rfl) ?_
          refine gC_X8_22_7 Fx X dX8_extendRun_106 ?_
          refine lv_iload_n Fx.1 Fx.2.1 dX8_extendRun_109 rfl (lv_at hl 5 rfl) ?_
          refine k_iconst Fx dX8_extendRun_110 ?_
          refine stC_23 (z := ((q : Nat) : Int)) (i := q) Fx X (rfl) (by omega) dX8_extendRun_111 (fun H locs X => ?_)
          refine lv_goto (tgt := 138) Fx.1 Fx.2.1 dX8_extendRun_112 (by decide) ?_
          exact r_vret Fx hr hlk X (by decide) dX8_extendRun_138 (⟨rfl, _, rfl, ex_row hq, ex_run (by rw [(rn_f (fun z => c_48 z.1.2))]; rfl), fun j h1 h2 h3 => (updA_n h1).trans (updA_n (by omega)), fun k h => (congrFun (updA_n (by omega)) k).trans (by rw [updA_s, upd_n h]), ex_oth⟩)
        · refine k_iconst Fx dX8_extendRun_93 ?_
          refine lv_goto (tgt := 98) Fx.1 Fx.2.1 dX8_extendRun_94 (by decide) ?_
          refine lv_istore (lv' := [(8, .int (iI (1))), (7, .int (iI (0))), (6, .int (iI ((aMw M q s (Y i) mn)))), (5, .int (iI (((Y i : Nat) : Int)))), (0, .ref (ad 7)), (1, .int (iI (((q : Nat) : Int)))), (2, .int (iI (((s : Nat) : Int)))), (3, .int (iI (((i : Nat) : Int)))), (4, .int (iI (((pf : Nat) : Int))))]) Fx.1 Fx.2.1 dX8_extendRun_98 hl (by decide) rfl (fun ls hl => ?_)
          refine lv_iload Fx.1 Fx.2.1 dX8_extendRun_100 (lv_at hl 1 rfl) ?_
          refine k_if_ne (a := 0) (tgt := 115) Fx dX8_extendRun_102 (by decide) (by omega) (fun c_102 => ?_) (fun c_102 => ?_)
          · exact absurd c_102 (by omega)
          refine lv_aload_n Fx.1 Fx.2.1 dX8_extendRun_105 rfl (lv_at hl 4 rfl) ?_
          refine gC_X8_22_7 Fx X dX8_extendRun_106 ?_
          refine lv_iload_n Fx.1 Fx.2.1 dX8_extendRun_109 rfl (lv_at hl 5 rfl) ?_
          refine k_iconst Fx dX8_extendRun_110 ?_
          refine stC_23 (z := ((q : Nat) : Int)) (i := q) Fx X (rfl) (by omega) dX8_extendRun_111 (fun H locs X => ?_)
          refine lv_goto (tgt := 138) Fx.1 Fx.2.1 dX8_extendRun_112 (by decide) ?_
          exact r_vret Fx hr hlk X (by decide) dX8_extendRun_138 (⟨rfl, _, rfl, ex_row hq, ex_run (by rw [(rn_f (fun z => c_48 z.1.2))]; rfl), fun j h1 h2 h3 => (updA_n h1).trans (updA_n (by omega)), fun k h => (congrFun (updA_n (by omega)) k).trans (by rw [updA_s, upd_n h]), ex_oth⟩)
    · refine lv_aload_n Fx.1 Fx.2.1 dX8_extendRun_51 rfl (lv_at hl 2 rfl) ?_
      refine gC_X8_34_7 Fx X dX8_extendRun_52 ?_
      refine lv_iload_n Fx.1 Fx.2.1 dX8_extendRun_55 rfl (lv_at hl 4 rfl) ?_
      refine lv_iload Fx.1 Fx.2.1 dX8_extendRun_56 (lv_at hl 1 rfl) ?_
      refine r_callVi (As := [.int (iI (((s : Nat) : Int))), .int (iI (((Y i : Nat) : Int)))]) (rest := []) hE Fx X (c_X4_isTold hE l (by exact hP) hPB (s := s) (y := Y i) (by omega) (by omega)) cV_X8_71 (recC_6 X) rfl rfl (Nat.le_of_ble_eq_true rfl) (by decide) hl.1 dX8_extendRun_58 (fun H locs X => ?_)
      refine k_bif_ne (tgt := 68) Fx dX8_extendRun_61 (by decide) (fun c_61 => ?_) (fun c_61 => ?_)
      · refine k_iconst Fx dX8_extendRun_68 ?_
        refine lv_istore (lv' := [(7, .int (iI (0))), (6, .int (iI ((aMw M q s (Y i) mn)))), (5, .int (iI (((Y i : Nat) : Int)))), (0, .ref (ad 7)), (1, .int (iI (((q : Nat) : Int)))), (2, .int (iI (((s : Nat) : Int)))), (3, .int (iI (((i : Nat) : Int)))), (4, .int (iI (((pf : Nat) : Int))))]) Fx.1 Fx.2.1 dX8_extendRun_69 hl (by decide) rfl (fun ls hl => ?_)
        refine lv_iload_n Fx.1 Fx.2.1 dX8_extendRun_71 rfl (lv_at hl 6 rfl) ?_
        refine k_if_le (a := ((i : Nat) : Int)) (tgt := 97) Fx dX8_extendRun_72 (by decide) (by omega) (fun c_72 => ?_) (fun c_72 => ?_)
        · refine k_iconst Fx dX8_extendRun_97 ?_
          refine lv_istore (lv' := [(8, .int (iI (0))), (7, .int (iI (0))), (6, .int (iI ((aMw M q s (Y i) mn)))), (5, .int (iI (((Y i : Nat) : Int)))), (0, .ref (ad 7)), (1, .int (iI (((q : Nat) : Int)))), (2, .int (iI (((s : Nat) : Int)))), (3, .int (iI (((i : Nat) : Int)))), (4, .int (iI (((pf : Nat) : Int))))]) Fx.1 Fx.2.1 dX8_extendRun_98 hl (by decide) rfl (fun ls hl => ?_)
          refine lv_iload Fx.1 Fx.2.1 dX8_extendRun_100 (lv_at hl 1 rfl) ?_
          refine k_if_ne (a := 0) (tgt := 115) Fx dX8_extendRun_102 (by decide) (by omega) (fun c_102 => ?_) (fun c_102 => ?_)
          · exact absurd c_102 (by omega)
          refine lv_aload_n Fx.1 Fx.2.1 dX8_extendRun_105 rfl (lv_at hl 4 rfl) ?_
          refine gC_X8_22_7 Fx X dX8_extendRun_106 ?_
          refine lv_iload_n Fx.1 Fx.2.1 dX8_extendRun_109 rfl (lv_at hl 5 rfl) ?_
          refine k_iconst Fx dX8_extendRun_110 ?_
          refine stC_23 (z := ((q : Nat) : Int)) (i := q) Fx X (rfl) (by omega) dX8_extendRun_111 (fun H locs X => ?_)
          refine lv_goto (tgt := 138) Fx.1 Fx.2.1 dX8_extendRun_112 (by decide) ?_
          exact r_vret Fx hr hlk X (by decide) dX8_extendRun_138 (⟨rfl, _, rfl, ex_row hq, ex_run (by rw [(rn_f (fun z => z.2 c_61))]; rfl), fun j h1 h2 h3 => (updA_n h1).trans (updA_n (by omega)), fun k h => (congrFun (updA_n (by omega)) k).trans (by rw [updA_s, upd_n h]), ex_oth⟩)
        · refine lv_aload_n Fx.1 Fx.2.1 dX8_extendRun_75 rfl (lv_at hl 3 rfl) ?_
          refine gC_X8_30_7 Fx X dX8_extendRun_76 ?_
          refine gC_X8_57_5 Fx X dX8_extendRun_79 ?_
          refine lv_iload_n Fx.1 Fx.2.1 dX8_extendRun_82 rfl (lv_at hl 6 rfl) ?_
          refine k_iconst Fx dX8_extendRun_83 ?_
          refine k_isub Fx dX8_extendRun_84 ?_
          refine ldC_14 (z := (((i : Nat) : Int) - 1)) (i := (i - 1)) (x := (iI (((Y (i - 1) : Nat) : Int)))) Fx X (by omega) (by omega) (hY.2 (i - 1) (by omega)) dX8_extendRun_85 ?_
          have by_x := hYB.2 (i - 1) (by omega)
          refine lv_iload Fx.1 Fx.2.1 dX8_extendRun_86 (lv_at hl 2 rfl) ?_
          refine k_iconst Fx dX8_extendRun_88 ?_
          refine k_isub Fx dX8_extendRun_89 ?_
          refine k_icmp_ne (a := ((Y (i - 1) : Nat) : Int)) (b := (((Y i : Nat) : Int) - 1)) (tgt := 97) Fx dX8_extendRun_90 (by decide) (by omega) (by omega) (fun c_90 => ?_) (fun c_90 => ?_)
          · refine k_iconst Fx dX8_extendRun_97 ?_
            refine lv_istore (lv' := [(8, .int (iI (0))), (7, .int (iI (0))), (6, .int (iI ((aMw M q s (Y i) mn)))), (5, .int (iI (((Y i : Nat) : Int)))), (0, .ref (ad 7)), (1, .int (iI (((q : Nat) : Int)))), (2, .int (iI (((s : Nat) : Int)))), (3, .int (iI (((i : Nat) : Int)))), (4, .int (iI (((pf : Nat) : Int))))]) Fx.1 Fx.2.1 dX8_extendRun_98 hl (by decide) rfl (fun ls hl => ?_)
            refine lv_iload Fx.1 Fx.2.1 dX8_extendRun_100 (lv_at hl 1 rfl) ?_
            refine k_if_ne (a := 0) (tgt := 115) Fx dX8_extendRun_102 (by decide) (by omega) (fun c_102 => ?_) (fun c_102 => ?_)
            · exact absurd c_102 (by omega)
            refine lv_aload_n Fx.1 Fx.2.1 dX8_extendRun_105 rfl (lv_at hl 4 rfl) ?_
            refine gC_X8_22_7 Fx X dX8_extendRun_106 ?_
            refine lv_iload_n Fx.1 Fx.2.1 dX8_extendRun_109 rfl (lv_at hl 5 rfl) ?_
            refine k_iconst Fx dX8_extendRun_110 ?_
            refine stC_23 (z := ((q : Nat) : Int)) (i := q) Fx X (rfl) (by omega) dX8_extendRun_111 (fun H locs X => ?_)
            refine lv_goto (tgt := 138) Fx.1 Fx.2.1 dX8_extendRun_112 (by decide) ?_
            exact r_vret Fx hr hlk X (by decide) dX8_extendRun_138 (⟨rfl, _, rfl, ex_row hq, ex_run (by rw [(rn_f (fun z => z.2 c_61))]; rfl), fun j h1 h2 h3 => (updA_n h1).trans (updA_n (by omega)), fun k h => (congrFun (updA_n (by omega)) k).trans (by rw [updA_s, upd_n h]), ex_oth⟩)
          · refine k_iconst Fx dX8_extendRun_93 ?_
            refine lv_goto (tgt := 98) Fx.1 Fx.2.1 dX8_extendRun_94 (by decide) ?_
            refine lv_istore (lv' := [(8, .int (iI (1))), (7, .int (iI (0))), (6, .int (iI ((aMw M q s (Y i) mn)))), (5, .int (iI (((Y i : Nat) : Int)))), (0, .ref (ad 7)), (1, .int (iI (((q : Nat) : Int)))), (2, .int (iI (((s : Nat) : Int)))), (3, .int (iI (((i : Nat) : Int)))), (4, .int (iI (((pf : Nat) : Int))))]) Fx.1 Fx.2.1 dX8_extendRun_98 hl (by decide) rfl (fun ls hl => ?_)
            refine lv_iload Fx.1 Fx.2.1 dX8_extendRun_100 (lv_at hl 1 rfl) ?_
            refine k_if_ne (a := 0) (tgt := 115) Fx dX8_extendRun_102 (by decide) (by omega) (fun c_102 => ?_) (fun c_102 => ?_)
            · exact absurd c_102 (by omega)
            refine lv_aload_n Fx.1 Fx.2.1 dX8_extendRun_105 rfl (lv_at hl 4 rfl) ?_
            refine gC_X8_22_7 Fx X dX8_extendRun_106 ?_
            refine lv_iload_n Fx.1 Fx.2.1 dX8_extendRun_109 rfl (lv_at hl 5 rfl) ?_
            refine k_iconst Fx dX8_extendRun_110 ?_
            refine stC_23 (z := ((q : Nat) : Int)) (i := q) Fx X (rfl) (by omega) dX8_extendRun_111 (fun H locs X => ?_)
            refine lv_goto (tgt := 138) Fx.1 Fx.2.1 dX8_extendRun_112 (by decide) ?_
            exact r_vret Fx hr hlk X (by decide) dX8_extendRun_138 (⟨rfl, _, rfl, ex_row hq, ex_run (by rw [(rn_f (fun z => z.2 c_61))]; rfl), fun j h1 h2 h3 => (updA_n h1).trans (updA_n (by omega)), fun k h => (congrFun (updA_n (by omega)) k).trans (by rw [updA_s, upd_n h]), ex_oth⟩)
      · refine k_iconst Fx dX8_extendRun_64 ?_
        refine lv_goto (tgt := 69) Fx.1 Fx.2.1 dX8_extendRun_65 (by decide) ?_
        refine lv_istore (lv' := [(7, .int (iI (1))), (6, .int (iI ((aMw M q s (Y i) mn)))), (5, .int (iI (((Y i : Nat) : Int)))), (0, .ref (ad 7)), (1, .int (iI (((q : Nat) : Int)))), (2, .int (iI (((s : Nat) : Int)))), (3, .int (iI (((i : Nat) : Int)))), (4, .int (iI (((pf : Nat) : Int))))]) Fx.1 Fx.2.1 dX8_extendRun_69 hl (by decide) rfl (fun ls hl => ?_)
        refine lv_iload_n Fx.1 Fx.2.1 dX8_extendRun_71 rfl (lv_at hl 6 rfl) ?_
        refine k_if_le (a := ((i : Nat) : Int)) (tgt := 97) Fx dX8_extendRun_72 (by decide) (by omega) (fun c_72 => ?_) (fun c_72 => ?_)
        · refine k_iconst Fx dX8_extendRun_97 ?_
          refine lv_istore (lv' := [(8, .int (iI (0))), (7, .int (iI (1))), (6, .int (iI ((aMw M q s (Y i) mn)))), (5, .int (iI (((Y i : Nat) : Int)))), (0, .ref (ad 7)), (1, .int (iI (((q : Nat) : Int)))), (2, .int (iI (((s : Nat) : Int)))), (3, .int (iI (((i : Nat) : Int)))), (4, .int (iI (((pf : Nat) : Int))))]) Fx.1 Fx.2.1 dX8_extendRun_98 hl (by decide) rfl (fun ls hl => ?_)
          refine lv_iload Fx.1 Fx.2.1 dX8_extendRun_100 (lv_at hl 1 rfl) ?_
          refine k_if_ne (a := 1) (tgt := 115) Fx dX8_extendRun_102 (by decide) (by omega) (fun c_102 => ?_) (fun c_102 => ?_)
          rotate_left
          · exact absurd c_102 (by omega)
          refine lv_aload_n Fx.1 Fx.2.1 dX8_extendRun_115 rfl (lv_at hl 4 rfl) ?_
          refine gC_X8_22_7 Fx X dX8_extendRun_116 ?_
          refine lv_iload_n Fx.1 Fx.2.1 dX8_extendRun_119 rfl (lv_at hl 5 rfl) ?_
          refine lv_iload Fx.1 Fx.2.1 dX8_extendRun_120 (lv_at hl 0 rfl) ?_
          refine k_if_eq (a := 0) (tgt := 136) Fx dX8_extendRun_122 (by decide) (by omega) (fun c_122 => ?_) (fun c_122 => ?_)
          rotate_left
          · exact absurd c_122 (by omega)
          refine k_iconst Fx dX8_extendRun_136 ?_
          refine stC_23 (z := ((q : Nat) : Int)) (i := q) Fx X (rfl) (by omega) dX8_extendRun_137 (fun H locs X => ?_)
          exact r_vret Fx hr hlk X (by decide) dX8_extendRun_138 (⟨rfl, _, rfl, ex_row hq, ex_run (by rw [rn_t (⟨⟨c_37, c_48⟩, c_61⟩ : (spB M mn P pn s ((pf : Nat) : Int)) q (Y i)), hrf (by omega)]; rfl), fun j h1 h2 h3 => (updA_n h1).trans (updA_n (by omega)), fun k h => (congrFun (updA_n (by omega)) k).trans (by rw [updA_s, upd_n h]), ex_oth⟩)
        · refine lv_aload_n Fx.1 Fx.2.1 dX8_extendRun_75 rfl (lv_at hl 3 rfl) ?_
          refine gC_X8_30_7 Fx X dX8_extendRun_76 ?_
          refine gC_X8_57_5 Fx X dX8_extendRun_79 ?_
          refine lv_iload_n Fx.1 Fx.2.1 dX8_extendRun_82 rfl (lv_at hl 6 rfl) ?_
          refine k_iconst Fx dX8_extendRun_83 ?_
          refine k_isub Fx dX8_extendRun_84 ?_
          refine ldC_14 (z := (((i : Nat) : Int) - 1)) (i := (i - 1)) (x := (iI (((Y (i - 1) : Nat) : Int)))) Fx X (by omega) (by omega) (hY.2 (i - 1) (by omega)) dX8_extendRun_85 ?_
          have by_x := hYB.2 (i - 1) (by omega)
          refine lv_iload Fx.1 Fx.2.1 dX8_extendRun_86 (lv_at hl 2 rfl) ?_
          refine k_iconst Fx dX8_extendRun_88 ?_
          refine k_isub Fx dX8_extendRun_89 ?_
          refine k_icmp_ne (a := ((Y (i - 1) : Nat) : Int)) (b := (((Y i : Nat) : Int) - 1)) (tgt := 97) Fx dX8_extendRun_90 (by decide) (by omega) (by omega) (fun c_90 => ?_) (fun c_90 => ?_)
          · refine k_iconst Fx dX8_extendRun_97 ?_
            refine lv_istore (lv' := [(8, .int (iI (0))), (7, .int (iI (1))), (6, .int (iI ((aMw M q s (Y i) mn)))), (5, .int (iI (((Y i : Nat) : Int)))), (0, .ref (ad 7)), (1, .int (iI (((q : Nat) : Int)))), (2, .int (iI (((s : Nat) : Int)))), (3, .int (iI (((i : Nat) : Int)))), (4, .int (iI (((pf : Nat) : Int))))]) Fx.1 Fx.2.1 dX8_extendRun_98 hl (by decide) rfl (fun ls hl => ?_)
            refine lv_iload Fx.1 Fx.2.1 dX8_extendRun_100 (lv_at hl 1 rfl) ?_
            refine k_if_ne (a := 1) (tgt := 115) Fx dX8_extendRun_102 (by decide) (by omega) (fun c_102 => ?_) (fun c_102 => ?_)
            rotate_left
            · exact absurd c_102 (by omega)
            refine lv_aload_n Fx.1 Fx.2.1 dX8_extendRun_115 rfl (lv_at hl 4 rfl) ?_
            refine gC_X8_22_7 Fx X dX8_extendRun_116 ?_
            refine lv_iload_n Fx.1 Fx.2.1 dX8_extendRun_119 rfl (lv_at hl 5 rfl) ?_
            refine lv_iload Fx.1 Fx.2.1 dX8_extendRun_120 (lv_at hl 0 rfl) ?_
            refine k_if_eq (a := 0) (tgt := 136) Fx dX8_extendRun_122 (by decide) (by omega) (fun c_122 => ?_) (fun c_122 => ?_)
            rotate_left
            · exact absurd c_122 (by omega)
            refine k_iconst Fx dX8_extendRun_136 ?_
            refine stC_23 (z := ((q : Nat) : Int)) (i := q) Fx X (rfl) (by omega) dX8_extendRun_137 (fun H locs X => ?_)
            exact r_vret Fx hr hlk X (by decide) dX8_extendRun_138 (⟨rfl, _, rfl, ex_row hq, ex_run (by rw [rn_t (⟨⟨c_37, c_48⟩, c_61⟩ : (spB M mn P pn s ((pf : Nat) : Int)) q (Y i)), hrf (by omega)]; rfl), fun j h1 h2 h3 => (updA_n h1).trans (updA_n (by omega)), fun k h => (congrFun (updA_n (by omega)) k).trans (by rw [updA_s, upd_n h]), ex_oth⟩)
          · refine k_iconst Fx dX8_extendRun_93 ?_
            refine lv_goto (tgt := 98) Fx.1 Fx.2.1 dX8_extendRun_94 (by decide) ?_
            refine lv_istore (lv' := [(8, .int (iI (1))), (7, .int (iI (1))), (6, .int (iI ((aMw M q s (Y i) mn)))), (5, .int (iI (((Y i : Nat) : Int)))), (0, .ref (ad 7)), (1, .int (iI (((q : Nat) : Int)))), (2, .int (iI (((s : Nat) : Int)))), (3, .int (iI (((i : Nat) : Int)))), (4, .int (iI (((pf : Nat) : Int))))]) Fx.1 Fx.2.1 dX8_extendRun_98 hl (by decide) rfl (fun ls hl => ?_)
            refine lv_iload Fx.1 Fx.2.1 dX8_extendRun_100 (lv_at hl 1 rfl) ?_
            refine k_if_ne (a := 1) (tgt := 115) Fx dX8_extendRun_102 (by decide) (by omega) (fun c_102 => ?_) (fun c_102 => ?_)
            rotate_left
            · exact absurd c_102 (by omega)
            refine lv_aload_n Fx.1 Fx.2.1 dX8_extendRun_115 rfl (lv_at hl 4 rfl) ?_
            refine gC_X8_22_7 Fx X dX8_extendRun_116 ?_
            refine lv_iload_n Fx.1 Fx.2.1 dX8_extendRun_119 rfl (lv_at hl 5 rfl) ?_
            refine lv_iload Fx.1 Fx.2.1 dX8_extendRun_120 (lv_at hl 0 rfl) ?_
            refine k_if_eq (a := 1) (tgt := 136) Fx dX8_extendRun_122 (by decide) (by omega) (fun c_122 => ?_) (fun c_122 => ?_)
            · exact absurd c_122 (by omega)
            refine lv_aload_n Fx.1 Fx.2.1 dX8_extendRun_125 rfl (lv_at hl 4 rfl) ?_
            refine gC_X8_22_7 Fx X dX8_extendRun_126 ?_
            refine lv_iload_n Fx.1 Fx.2.1 dX8_extendRun_129 rfl (lv_at hl 5 rfl) ?_
            refine ldC_23 (z := ((q : Nat) : Int)) (i := q) (x := (iI (((r0 : Nat) : Int)))) Fx X (rfl) (by omega) (hr0) dX8_extendRun_130 ?_
            refine k_iconst Fx dX8_extendRun_131 ?_
            refine k_iadd Fx dX8_extendRun_132 ?_
            refine lv_goto (tgt := 137) Fx.1 Fx.2.1 dX8_extendRun_133 (by decide) ?_
            refine stC_23 (z := ((q : Nat) : Int)) (i := q) Fx X (rfl) (by omega) dX8_extendRun_137 (fun H locs X => ?_)
            exact r_vret Fx hr hlk X (by decide) dX8_extendRun_138 (⟨rfl, _, rfl, ex_row hq, ex_run (by rw [rn_t (⟨⟨c_37, c_48⟩, c_61⟩ : (spB M mn P pn s ((pf : Nat) : Int)) q (Y i)), hrt (by omega)]; rfl), fun j h1 h2 h3 => (updA_n h1).trans (updA_n (by omega)), fun k h => (congrFun (updA_n (by omega)) k).trans (by rw [updA_s, upd_n h]), ex_oth⟩)

