theorem pp_0 {n : Nat} {S : Nat → Nat → Nat} {wt : Nat → Nat} {nw : Nat → Prop} {th be : Nat} : amN (fun t => aOn n S wt nw th be 0 t + 0 * aDs t 0) 80 = aPp n S wt nw th be 0 := congrArg (fun F => amN F 80) (funext fun t => by rw [Nat.zero_mul, Nat.add_zero])
theorem pp_s {n : Nat} {S : Nat → Nat → Nat} {wt : Nat → Nat} {nw : Nat → Prop} {th be q : Nat} (h : 1 ≤ q) : amN (fun t => aOn n S wt nw th be q t + be * aDs t (aPp n S wt nw th be (q - 1))) 80 = aPp n S wt nw th be q := by
  obtain ⟨u, rfl⟩ : ∃ u, q = u + 1 := ⟨q - 1, by omega⟩
  rfl
theorem pt_s {g : Nat → Nat → Int32} {k t : Nat} {F : Nat → Int32} {x : Int32} (hx : x = F t) (h1 : ∀ q, q < t → g k q = F q) : ∀ q, q < t + 1 → updA g k (upd (g k) t x) k q = F q := by
  intro q hq
  rw [updA_s]
  by_cases e : q = t
  · rw [e, upd_s, hx]
  · rw [upd_n e]; exact h1 q (by omega)

abbrev rm_X3_chooseFeet : Room := ({ frames := 3, cells := 0, slots := 0, locals := 62 } : Room)
set_option maxHeartbeats 4000000 in
set_option maxRecDepth 100000 in
theorem c_X3_chooseFeet {E : XX} (hE : XS E) (l : Launch) {Γ : GG} {ad : Nat → Nat} {ed : Nat} {f g : Nat → Nat → Int32} {tl : va_W} {n : Nat} {S : Nat → Nat → Nat} {wt : Nat → Nat} {nw : Nat → Prop} {th ho be : Nat} (hB : SayB n S) (hLB : LawB wt th ho be) (hC : ∀ s t, s < 10 → t < 80 → g (40 + s) t = iI ((aOn n S wt nw th be s t : Nat) : Int)) : Con E l yX3_chooseFeet cX3_chooseFeet 3 none rm_X3_chooseFeet Γ (wC Γ ad ed f g tl) [.ref (ad 4), .int (iI (((be : Nat) : Int)))] (fun v w2 => v = none ∧ ∃ g1, w2 = wC Γ ad ed (updA f 4 (upd (f 4) 1 (iI ((aOn n S wt nw th be 0 (aPp n S wt nw th be 0) : Nat) : Int)))) g1 tl ∧ (∀ s, s < 10 → g1 12 s = iI ((aPp n S wt nw th be s : Nat) : Int)) ∧ (∀ j, j ≠ 12 → g1 j = g j)) := by
  refine Con_mk (by decide) (Nat.le_of_ble_eq_true rfl) ?_
  intro p e s₀ m args below meth c A Fx hr hlk hnm X ls hl
  have hl : lv_has ls 3 [(0, .ref (ad 4)), (1, .int (iI (((be : Nat) : Int))))] := hl
  have hbe := hLB.2.2.2
  refine lv_aload_n Fx.1 Fx.2.1 dX3_chooseFeet_0 rfl (lv_at hl 0 rfl) ?_
  refine gC_X3_9_4 Fx X dX3_chooseFeet_1 ?_
  refine k_iconst Fx dX3_chooseFeet_4 ?_
  refine lv_aload_n Fx.1 Fx.2.1 dX3_chooseFeet_5 rfl (lv_at hl 0 rfl) ?_
  refine gC_X3_21_4 Fx X dX3_chooseFeet_6 ?_
  refine k_iconst Fx dX3_chooseFeet_9 ?_
  refine r_rld (q0 := 13) (z := 0) (i := 0) Fx X rfl (rfl) (by omega) (by decide) rfl dX3_chooseFeet_10 ?_
  refine k_iconst Fx dX3_chooseFeet_11 ?_
  refine k_iconst Fx dX3_chooseFeet_12 ?_
  refine r_callSi (As := [.ref (ad (40 + 0)), .int (iI (0)), .int (iI (0))]) (rest := [.int (iI (0)), .ref (ad 12)]) hE Fx X (c_X3_cheapest hE l (r := 0) (be := 0) (u0 := 0) (F := aOn n S wt nw th be 0) (by omega) (by omega) (by omega) (fun t ht => (hC 0 t (by omega) ht)) (fun t ht => Nat.le_trans (aOn_le hB hLB.1 hLB.2.2.2 0 t ht) (by omega))) cS_X3_95 rfl rfl (Nat.le_of_ble_eq_true rfl) (by decide) hl.1 dX3_chooseFeet_13 (fun H locs X => ?_)
  refine k_cg (show (iI (((amN (fun t => aOn n S wt nw th be 0 t + 0 * aDs t 0) 80 : Nat) : Int))) = (iI (((aPp n S wt nw th be 0 : Nat) : Int))) from congrArg (fun z9 : Nat => iI z9) pp_0) ?_
  refine stC_12 (z := 0) (i := 0) Fx X (rfl) (by omega) dX3_chooseFeet_16 (fun H locs X => ?_)
  refine lv_aload_n Fx.1 Fx.2.1 dX3_chooseFeet_17 rfl (lv_at hl 0 rfl) ?_
  refine lv_aload_n Fx.1 Fx.2.1 dX3_chooseFeet_18 rfl (lv_at hl 0 rfl) ?_
  refine gC_X3_21_4 Fx X dX3_chooseFeet_19 ?_
  refine k_iconst Fx dX3_chooseFeet_22 ?_
  refine r_rld (q0 := 13) (z := 0) (i := 0) Fx X rfl (rfl) (by omega) (by decide) rfl dX3_chooseFeet_23 ?_
  refine lv_aload_n Fx.1 Fx.2.1 dX3_chooseFeet_24 rfl (lv_at hl 0 rfl) ?_
  refine gC_X3_9_4 Fx X dX3_chooseFeet_25 ?_
  refine k_iconst Fx dX3_chooseFeet_28 ?_
  refine ldC_12 (z := 0) (i := 0) (x := (iI (((aPp n S wt nw th be 0 : Nat) : Int)))) Fx X (rfl) (by omega) (rfl) dX3_chooseFeet_29 ?_
  have b0 := aPp_lt n S wt nw th be 0
  refine r_ild (q0 := 32 + 0) (z := ((aPp n S wt nw th be 0 : Nat) : Int)) (i := (aPp n S wt nw th be 0)) (x := (iI (((aOn n S wt nw th be 0 (aPp n S wt nw th be 0) : Nat) : Int)))) Fx X (row_40 (by omega)) (rfl) (by omega) (by decide) (hC 0 _ (by omega) b0) dX3_chooseFeet_30 ?_
  refine pC_X3_15_4 Fx X dX3_chooseFeet_31 (fun H locs X => ?_)
  refine k_iconst Fx dX3_chooseFeet_34 ?_
  refine lv_istore_n (lv' := [(2, .int (iI (1))), (0, .ref (ad 4)), (1, .int (iI (((be : Nat) : Int))))]) Fx.1 Fx.2.1 dX3_chooseFeet_35 rfl hl (by decide) rfl (fun ls hl => ?_)
  have lp_36 : ∀ (nn : Nat) (q : Nat) (g2 : Nat → Nat → Int32), 10 - q < nn → (1 ≤ q ∧ q ≤ 10) → (∀ s, s < q → g2 12 s = (fun q9 => iI ((aPp n S wt nw th be q9 : Nat) : Int)) s) → (∀ j, j ≠ 12 → g2 j = g j) → (∀ s t, s < 10 → t < 80 → g2 (40 + s) t = iI ((aOn n S wt nw th be s t : Nat) : Int)) → ∀ (H : Heap) (locs : List Loc) (ls : Array Slot), Wd E Γ A s₀ H locs (wC Γ ad ed (updA f 4 (upd (f 4) 1 (iI (((aOn n S wt nw th be 0 (aPp n S wt nw th be 0) : Nat) : Int))))) g2 tl) → lv_has ls 3 [(0, .ref (ad 4)), (1, .int (iI (((be : Nat) : Int)))), (2, .int (iI (((q : Nat) : Int))))] → W p l e rm_X3_chooseFeet s₀ m args below meth c H locs (0) (0) (RQ below args s₀ Γ A (fun v w2 => v = none ∧ ∃ g1, w2 = wC Γ ad ed (updA f 4 (upd (f 4) 1 (iI ((aOn n S wt nw th be 0 (aPp n S wt nw th be 0) : Nat) : Int)))) g1 tl ∧ (∀ s, s < 10 → g1 12 s = iI ((aPp n S wt nw th be s : Nat) : Int)) ∧ (∀ j, j ≠ 12 → g1 j = g j)) rm_X3_chooseFeet) (F0 m 36 ls []) := by
    intro nn
    induction nn with
    | zero => intro q g2 hmu; exact absurd hmu (Nat.not_lt_zero _)
    | succ nn ih =>
      intro q g2 hmu hq hP hGr hC H locs ls X hl
      have ih_36 := ih
      refine lv_iload_n Fx.1 Fx.2.1 dX3_chooseFeet_36 rfl (lv_at hl 2 rfl) ?_
      refine k_bipush Fx dX3_chooseFeet_37 (by decide) ?_
      refine k_icmp_ge (a := ((q : Nat) : Int)) (b := 10) (tgt := 72) Fx dX3_chooseFeet_39 (by decide) (by omega) (by omega) (fun c_39 => ?_) (fun c_39 => ?_)
      · exact r_vret Fx hr hlk X (by decide) dX3_chooseFeet_72 (⟨rfl, _, rfl, fun s hs => hP s (by omega), hGr⟩)
      · refine lv_aload_n Fx.1 Fx.2.1 dX3_chooseFeet_42 rfl (lv_at hl 0 rfl) ?_
        refine gC_X3_9_4 Fx X dX3_chooseFeet_43 ?_
        refine lv_iload_n Fx.1 Fx.2.1 dX3_chooseFeet_46 rfl (lv_at hl 2 rfl) ?_
        refine lv_aload_n Fx.1 Fx.2.1 dX3_chooseFeet_47 rfl (lv_at hl 0 rfl) ?_
        refine gC_X3_21_4 Fx X dX3_chooseFeet_48 ?_
        refine lv_iload_n Fx.1 Fx.2.1 dX3_chooseFeet_51 rfl (lv_at hl 2 rfl) ?_
        refine r_rld (q0 := 13) (z := ((q : Nat) : Int)) (i := q) Fx X rfl (rfl) (by omega) (by decide) rfl dX3_chooseFeet_52 ?_
        refine lv_aload_n Fx.1 Fx.2.1 dX3_chooseFeet_53 rfl (lv_at hl 0 rfl) ?_
        refine gC_X3_9_4 Fx X dX3_chooseFeet_54 ?_
        refine lv_iload_n Fx.1 Fx.2.1 dX3_chooseFeet_57 rfl (lv_at hl 2 rfl) ?_
        refine k_iconst Fx dX3_chooseFeet_58 ?_
        refine k_isub Fx dX3_chooseFeet_59 ?_
        refine ldC_12 (z := (((q : Nat) : Int) - 1)) (i := (q - 1)) (x := (iI (((aPp n S wt nw th be (q - 1) : Nat) : Int)))) Fx X (by omega) (by omega) (hP (q - 1) (by omega)) dX3_chooseFeet_60 ?_
        have bP := aPp_lt n S wt nw th be (q - 1)
        refine lv_iload_n Fx.1 Fx.2.1 dX3_chooseFeet_61 rfl (lv_at hl 1 rfl) ?_
        refine r_callSi (As := [.ref (ad (40 + q)), .int (iI (((aPp n S wt nw th be (q - 1) : Nat) : Int))), .int (iI (((be : Nat) : Int)))]) (rest := [.int (iI (((q : Nat) : Int))), .ref (ad 12)]) hE Fx X (c_X3_cheapest hE l (r := q) (be := be) (u0 := aPp n S wt nw th be (q - 1)) (F := aOn n S wt nw th be q) (by omega) (by omega) (by omega) (fun t ht => (hC q t (by omega) ht)) (fun t ht => Nat.le_trans (aOn_le hB hLB.1 hLB.2.2.2 q t ht) (by omega))) cS_X3_95 rfl rfl (Nat.le_of_ble_eq_true rfl) (by decide) hl.1 dX3_chooseFeet_62 (fun H locs X => ?_)
        refine k_cg (show (iI (((amN (fun t => aOn n S wt nw th be q t + be * aDs t (aPp n S wt nw th be (q - 1))) 80 : Nat) : Int))) = (iI (((aPp n S wt nw th be q : Nat) : Int))) from congrArg (fun z9 : Nat => iI z9) (pp_s (by omega))) ?_
        refine stC_12 (z := ((q : Nat) : Int)) (i := q) Fx X (rfl) (by omega) dX3_chooseFeet_65 (fun H locs X => ?_)
        refine k_iinc (k := 2) (a := ((q : Nat) : Int)) (lv' := [(2, .int (iI ((((q : Nat) : Int) + 1)))), (0, .ref (ad 4)), (1, .int (iI (((be : Nat) : Int))))]) Fx dX3_chooseFeet_66 hl rfl (by decide) rfl (fun ls hl => ?_)
        refine lv_goto (tgt := 36) Fx.1 Fx.2.1 dX3_chooseFeet_69 (by decide) ?_
        have hl_1 := lv_rp hl 0 rfl (show (iI ((((q : Nat) : Int) + 1))) = (iI ((((q + 1) : Nat) : Int))) from congrArg iI (by omega))
        exact ih_36 (q + 1) ((updA g2 12 (upd (g2 12) q (iI (((aPp n S wt nw th be q : Nat) : Int)))))) (by omega) (by omega) (pt_s (F := (fun q9 => iI ((aPp n S wt nw th be q9 : Nat) : Int))) rfl hP) (fun j h => (updA_n h).trans (hGr j h)) (fun s t h1 h2 => (congrFun (updA_n (by omega)) t).trans (hC s t h1 h2)) _ _ _ X (lv_sub hl_1 [1, 2, 0] rfl)
  have hl_2 := lv_rp hl 0 rfl (show (iI (1)) = (iI (((1 : Nat) : Int))) from congrArg iI (by omega))
  exact lp_36 _ (1) ((updA g 12 (upd (g 12) 0 (iI (((aPp n S wt nw th be 0 : Nat) : Int)))))) (Nat.lt_succ_self _) (by omega) (fun s hs => by rw [show s = 0 by omega]; rfl) (fun j h => updA_n h) (fun s t h1 h2 => (congrFun (updA_n (by omega)) t).trans (hC s t h1 h2)) _ _ _ X (lv_sub hl_2 [1, 2, 0] rfl)

theorem dw_9 {n : Nat} {S : Nat → Nat → Nat} {wt : Nat → Nat} {nw : Nat → Prop} {th be q t : Nat} (h : q = 9) : (0 : Nat) + aCa n S wt nw th q t n = aOn n S wt nw th be q t := by rw [on_last h, Nat.zero_add]
theorem dw_s {n : Nat} {S : Nat → Nat → Nat} {wt : Nat → Nat} {nw : Nat → Prop} {th be q t : Nat} (h : q < 9) : mnN (fun u => aOn n S wt nw th be (q + 1) u + be * aDs t u) 80 + aCa n S wt nw th q t n = aOn n S wt nw th be q t := by rw [on_step h, Nat.add_comm]

abbrev rm_X3_draw : Room := ({ frames := 5, cells := 0, slots := 0, locals := 118 } : Room)
set_option maxHeartbeats 4000000 in
set_option maxRecDepth 100000 in
theorem c_X3_draw {E : XX} (hE : XS E) (l : Launch) {Γ : GG} {κ : KK} (hN : EN E κ)  {ad : Nat → Nat} {ed cap n : Nat} {sa : Nat → Nat} {S : Nat → Nat → Nat} {f g : Nat → Nat → Int32} (hn9 : f 1 2 = iI n) (hcap : n ≤ cap ∧ cap < 1000) (hB : SayB n S) {wt : Nat → Nat} {nw : Nat → Prop} {th ho be : Nat} (hL : LawC wt nw th ho be f g) (hLB : LawB wt th ho be) : Con E l yX3_draw cX3_draw 5 none rm_X3_draw Γ (wC Γ ad ed f g (tS Γ ed cap sa S n)) [.ref (ad 4), .ref (ad 1), .ref (ad 9)] (fun v w2 => v = none ∧ ∃ g1, w2 = wC Γ ad ed (updA f 4 (upd (f 4) 1 (iI ((aOn n S wt nw th be 0 (aPp n S wt nw th be 0) : Nat) : Int)))) g1 (tS Γ ed cap sa S n) ∧ (∀ s, s < 10 → g1 12 s = iI ((aPp n S wt nw th be s : Nat) : Int)) ∧ (∀ j, (j < 12 ∨ (12 < j ∧ j < 40) ∨ 49 < j) → g1 j = g j)) := by
  refine Con_mk (by decide) (Nat.le_of_ble_eq_true rfl) ?_
  intro p e s₀ m args below meth c A Fx hr hlk hnm X ls hl
  have hl : lv_has ls 5 [(0, .ref (ad 4)), (1, .ref (ad 1)), (2, .ref (ad 9))] := hl
  refine k_bipush Fx dX3_draw_0 (by decide) ?_
  refine lv_istore_n (lv' := [(3, .int (iI (9))), (0, .ref (ad 4)), (1, .ref (ad 1)), (2, .ref (ad 9))]) Fx.1 Fx.2.1 dX3_draw_2 rfl hl (by decide) rfl (fun ls hl => ?_)
  have lp_3 : ∀ (nn : Nat) (a : Nat) (g2 : Nat → Nat → Int32), a < nn → (a ≤ 10) → (LawC wt nw th ho be f g2) → (∀ s t, a ≤ s → s < 10 → t < 80 → g2 (40 + s) t = iI ((aOn n S wt nw th be s t : Nat) : Int)) → (∀ j, (j < 12 ∨ (12 < j ∧ j < 40) ∨ 49 < j) → g2 j = g j) → ∀ (H : Heap) (locs : List Loc) (ls : Array Slot), Wd E Γ A s₀ H locs (wC Γ ad ed f g2 (tS Γ ed cap sa S n)) → lv_has ls 5 [(0, .ref (ad 4)), (1, .ref (ad 1)), (2, .ref (ad 9)), (3, .int (iI ((((a : Nat) : Int) - 1))))] → W p l e rm_X3_draw s₀ m args below meth c H locs (0) (0) (RQ below args s₀ Γ A (fun v w2 => v = none ∧ ∃ g1, w2 = wC Γ ad ed (updA f 4 (upd (f 4) 1 (iI ((aOn n S wt nw th be 0 (aPp n S wt nw th be 0) : Nat) : Int)))) g1 (tS Γ ed cap sa S n) ∧ (∀ s, s < 10 → g1 12 s = iI ((aPp n S wt nw th be s : Nat) : Int)) ∧ (∀ j, (j < 12 ∨ (12 < j ∧ j < 40) ∨ 49 < j) → g1 j = g j)) rm_X3_draw) (F0 m 3 ls []) := by
    intro nn
    induction nn with
    | zero => intro a g2 hmu; exact absurd hmu (Nat.not_lt_zero _)
    | succ nn ih =>
      intro a g2 hmu ha hL hC hGr H locs ls X hl
      have ih_3 := ih
      refine lv_iload_n Fx.1 Fx.2.1 dX3_draw_3 rfl (lv_at hl 3 rfl) ?_
      refine k_if_lt (a := (((a : Nat) : Int) - 1)) (tgt := 61) Fx dX3_draw_4 (by decide) (by omega) (fun c_4 => ?_) (fun c_4 => ?_)
      · refine lv_aload_n Fx.1 Fx.2.1 dX3_draw_61 rfl (lv_at hl 0 rfl) ?_
        refine lv_aload_n Fx.1 Fx.2.1 dX3_draw_62 rfl (lv_at hl 2 rfl) ?_
        refine gC_X3_30_9 (x := (iI (((be : Nat) : Int)))) Fx X (hL.2.2.1) dX3_draw_63 ?_
        refine r_callV (As := [.int (iI (((be : Nat) : Int)))]) (rest := []) hE Fx X (c_X3_chooseFeet hE l hB hLB (fun s t h1 h2 => hC s t (by omega) h1 h2)) cV_X3_43 (recC_4 X) rfl rfl (Nat.le_of_ble_eq_true rfl) (by decide) hl.1 dX3_draw_66 (fun v9 w9 H locs hq X => ?_)
        obtain ⟨rfl, g_1, rfl, hPp, hPf⟩ := hq
        exact r_vret Fx hr hlk X (by decide) dX3_draw_69 (⟨rfl, _, rfl, hPp, fun j h => (hPf j (by omega)).trans (hGr j h)⟩)
      · obtain ⟨q, hq1⟩ : ∃ q, a = q + 1 := ⟨a - 1, by omega⟩
        have hl := lv_rp hl 3 rfl (show (iI ((((a : Nat) : Int) - 1))) = (iI (((q : Nat) : Int))) from congrArg iI (by omega))
        refine lv_aload_n Fx.1 Fx.2.1 dX3_draw_7 rfl (lv_at hl 0 rfl) ?_
        refine gC_X3_21_4 Fx X dX3_draw_8 ?_
        refine lv_iload_n Fx.1 Fx.2.1 dX3_draw_11 rfl (lv_at hl 3 rfl) ?_
        refine r_rld (q0 := 13) (z := ((q : Nat) : Int)) (i := q) Fx X rfl (rfl) (by omega) (by decide) rfl dX3_draw_12 ?_
        refine lv_astore (lv' := [(4, .ref (ad (40 + q))), (0, .ref (ad 4)), (1, .ref (ad 1)), (2, .ref (ad 9)), (3, .int (iI (((q : Nat) : Int))))]) Fx.1 Fx.2.1 dX3_draw_13 hl (by decide) rfl (fun ls hl => ?_)
        refine lv_iload_n Fx.1 Fx.2.1 dX3_draw_15 rfl (lv_at hl 4 rfl) ?_
        refine k_bipush Fx dX3_draw_16 (by decide) ?_
        refine k_icmp_ne (a := ((q : Nat) : Int)) (b := 9) (tgt := 30) Fx dX3_draw_18 (by decide) (by omega) (by omega) (fun c_18 => ?_) (fun c_18 => ?_)
        · refine lv_aload_n Fx.1 Fx.2.1 dX3_draw_30 rfl (lv_at hl 1 rfl) ?_
          refine gC_X3_21_4 Fx X dX3_draw_31 ?_
          refine lv_iload_n Fx.1 Fx.2.1 dX3_draw_34 rfl (lv_at hl 4 rfl) ?_
          refine k_iconst Fx dX3_draw_35 ?_
          refine k_iadd Fx dX3_draw_36 ?_
          refine r_rld (q0 := 13) (z := (((q : Nat) : Int) + 1)) (i := (q + 1)) Fx X rfl (rfl) (by omega) (by decide) rfl dX3_draw_37 ?_
          refine lv_aload Fx.1 Fx.2.1 dX3_draw_38 (lv_at hl 0 rfl) ?_
          refine lv_aload_n Fx.1 Fx.2.1 dX3_draw_40 rfl (lv_at hl 3 rfl) ?_
          refine gC_X3_30_9 (x := (iI (((be : Nat) : Int)))) Fx X (hL.2.2.1) dX3_draw_41 ?_
          refine r_callS (As := [.ref (ad (40 + (q + 1))), .ref (ad (40 + q)), .int (iI (((be : Nat) : Int)))]) (rest := []) hE Fx X (c_X3_bendTowards hE l (r := q) (be := be) (N := aOn n S wt nw th be (q + 1)) (by omega) hLB.2.2.2 (fun t ht => hC (q + 1) t (by omega) (by omega) ht) (fun t ht => Nat.le_trans (aOn_le hB hLB.1 hLB.2.2.2 (q + 1) t ht) (by omega))) cS_X3_35 rfl rfl (Nat.le_of_ble_eq_true rfl) (by decide) hl.1 dX3_draw_44 (fun v9 w9 H locs hq X => ?_)
          obtain ⟨rfl, g_2, rfl, hR9, hBf⟩ := hq
          have hL := LawC_g ⟨hBf 28 (by omega), hBf 29 (by omega)⟩ hL
          refine lv_aload Fx.1 Fx.2.1 dX3_draw_47 (lv_at hl 0 rfl) ?_
          refine lv_iload_n Fx.1 Fx.2.1 dX3_draw_49 rfl (lv_at hl 4 rfl) ?_
          refine lv_aload_n Fx.1 Fx.2.1 dX3_draw_50 rfl (lv_at hl 2 rfl) ?_
          refine lv_aload_n Fx.1 Fx.2.1 dX3_draw_51 rfl (lv_at hl 3 rfl) ?_
          refine r_callS (As := [.ref (ad (40 + q)), .int (iI (((q : Nat) : Int))), .ref (ad 1), .ref (ad 9)]) (rest := []) hE Fx X (c_X3_addMisses hE l hN (by exact hn9) hcap hB (by exact hL) hLB (r := q) (s := q) (R := (fun t => mnN (fun u => aOn n S wt nw th be (q + 1) u + be * aDs t u) 80)) (by omega) (by omega) hR9) cS_X3_39 rfl rfl (Nat.le_of_ble_eq_true rfl) (by decide) hl.1 dX3_draw_52 (fun v9 w9 H locs hq X => ?_)
          obtain ⟨rfl, g_3, rfl, hMs, hMf⟩ := hq
          have hL := LawC_g ⟨hMf 28 (by omega), hMf 29 (by omega)⟩ hL
          refine k_iinc (k := 4) (a := ((q : Nat) : Int)) (lv' := [(3, .int (iI ((((q : Nat) : Int) + (-1))))), (4, .ref (ad (40 + q))), (0, .ref (ad 4)), (1, .ref (ad 1)), (2, .ref (ad 9))]) Fx dX3_draw_55 hl rfl (by decide) rfl (fun ls hl => ?_)
          refine lv_goto (tgt := 3) Fx.1 Fx.2.1 dX3_draw_58 (by decide) ?_
          have hl_4 := lv_rp hl 0 rfl (show (iI ((((q : Nat) : Int) + (-1)))) = (iI ((((q : Nat) : Int) - 1))) from congrArg iI (by omega))
          exact ih_3 (q) (g_3) (by omega) (by omega) (hL) (fun s t h1 h2 h3 => by
                              by_cases e9 : s = q
                              · subst e9; rw [hMs t h3]; exact congrArg (fun z9 : Nat => iI z9) (dw_s (by omega))
                              · rw [hMf (40 + s) (by omega), hBf (40 + s) (by omega)]; exact hC s t (by omega) h2 h3) (fun j h => (hMf j (by omega)).trans ((hBf j (by omega)).trans (hGr j h))) _ _ _ X (lv_sub hl_4 [2, 3, 4, 0] rfl)
        · refine lv_aload Fx.1 Fx.2.1 dX3_draw_21 (lv_at hl 0 rfl) ?_
          refine k_iconst Fx dX3_draw_23 ?_
          refine r_callS (As := [.ref (ad (40 + q)), .int (iI (0))]) (rest := []) hE Fx X (c_J7_fill_53178 hE l (q0 := 32 + q) (n := 80) (F := g2 (40 + q)) (x := (iI (0))) (row_40 (by omega)) (by decide)) cS_X3_24 rfl rfl (Nat.le_of_ble_eq_true rfl) (by decide) hl.1 dX3_draw_24 (fun v9 w9 H locs hq X => ?_)
          obtain ⟨rfl, F_5, rfl, hF_5⟩ := hq
          have X := Wd.to X (rowset_40 (by omega))
          have hL := LawC_g (g1 := (updA g2 (40 + q) F_5)) ⟨updA_n (by omega), updA_n (by omega)⟩ hL
          have hR9 : ∀ t, t < 80 → (updA g2 (40 + q) F_5) (40 + q) t = iI ((((fun _ => 0 : Nat → Nat) t) : Nat) : Int) := fun t ht => by rw [updA_s]; exact hF_5 t ht
          refine lv_goto (tgt := 47) Fx.1 Fx.2.1 dX3_draw_27 (by decide) ?_
          refine lv_aload Fx.1 Fx.2.1 dX3_draw_47 (lv_at hl 0 rfl) ?_
          refine lv_iload_n Fx.1 Fx.2.1 dX3_draw_49 rfl (lv_at hl 4 rfl) ?_
          refine lv_aload_n Fx.1 Fx.2.1 dX3_draw_50 rfl (lv_at hl 2 rfl) ?_
          refine lv_aload_n Fx.1 Fx.2.1 dX3_draw_51 rfl (lv_at hl 3 rfl) ?_
          refine r_callS (As := [.ref (ad (40 + q)), .int (iI (((q : Nat) : Int))), .ref (ad 1), .ref (ad 9)]) (rest := []) hE Fx X (c_X3_addMisses hE l hN (by exact hn9) hcap hB (by exact hL) hLB (r := q) (s := q) (R := (fun _ => 0)) (by omega) (by omega) hR9) cS_X3_39 rfl rfl (Nat.le_of_ble_eq_true rfl) (by decide) hl.1 dX3_draw_52 (fun v9 w9 H locs hq X => ?_)
          obtain ⟨rfl, g_6, rfl, hMs, hMf⟩ := hq
          have hL := LawC_g ⟨hMf 28 (by omega), hMf 29 (by omega)⟩ hL
          refine k_iinc (k := 4) (a := ((q : Nat) : Int)) (lv' := [(3, .int (iI ((((q : Nat) : Int) + (-1))))), (4, .ref (ad (40 + q))), (0, .ref (ad 4)), (1, .ref (ad 1)), (2, .ref (ad 9))]) Fx dX3_draw_55 hl rfl (by decide) rfl (fun ls hl => ?_)
          refine lv_goto (tgt := 3) Fx.1 Fx.2.1 dX3_draw_58 (by decide) ?_
          have hl_7 := lv_rp hl 0 rfl (show (iI ((((q : Nat) : Int) + (-1)))) = (iI ((((q : Nat) : Int) - 1))) from congrArg iI (by omega))
          exact ih_3 (q) (g_6) (by omega) (by omega) (hL) (fun s t h1 h2 h3 => by
                              by_cases e9 : s = q
                              · subst e9; rw [hMs t h3]; exact congrArg (fun z9 : Nat => iI z9) (dw_9 (by omega))
                              · exact absurd h1 (by omega)) (fun j h => (hMf j (by omega)).trans ((updA_n (by omega)).trans (hGr j h))) _ _ _ X (lv_sub hl_7 [2, 3, 4, 0] rfl)
  have hl_8 := lv_rp hl 0 rfl (show (iI (9)) = (iI ((((10 : Nat) : Int) - 1))) from congrArg iI (by omega))
  exact lp_3 _ (10) (g) (Nat.lt_succ_self _) (by omega) (hL) (fun s t h1 h2 => absurd h1 (by omega)) (fun _ _ => rfl) _ _ _ X (lv_sub hl_8 [1, 2, 3, 0] rfl)

