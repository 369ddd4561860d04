abbrev rm_X10_tells : Room := ({ frames := 0, cells := 0, slots := 0, locals := 0 } : Room)
set_option maxHeartbeats 4000000 in
set_option maxRecDepth 100000 in
theorem c_X10_tells {E : XX} (hE : XS E) (l : Launch) {Γ : GG} {ad : Nat → Nat} {f : Nat → Int32} {g : Nat → Nat → Int32} {x : LWT} (hL : LawT x f g) {u k v : Int} {rk rv : Int32} (hu : 3 ≤ u ∧ u ≤ 7) (hk : (u = 3 ∨ u = 7) → rk = iI k ∧ 0 ≤ k ∧ k ≤ 5) (hv : u ≠ 7 → rv = iI v ∧ 0 ≤ v ∧ v ≤ 99) : Con E l yX10_tells cX10_tells 4 none rm_X10_tells Γ (wM Γ ad f g) [.ref (ad 0), .int (iI (u)), .int (rk), .int (rv)] (fun v9 w2 => v9 = none ∧ ∃ f1 g1, w2 = wM Γ ad f1 g1 ∧ LawT (lnA x u k v) f1 g1 ∧ FrL f1 f g1 g) := by
  refine Con_mk (by decide) (Nat.le_of_ble_eq_true rfl) ?_
  intro p e s₀ m args below meth c A Fx hr hlk hnm X ls hl
  have hl : lv_has ls 4 [(0, .ref (ad 0)), (1, .int (iI (u))), (2, .int (rk)), (3, .int (rv))] := hl
  refine lv_iload_n Fx.1 Fx.2.1 dX10_tells_0 rfl (lv_at hl 1 rfl) ?_
  refine k_iconst Fx dX10_tells_1 ?_
  refine k_icmp_ne (a := u) (b := 3) (tgt := 15) Fx dX10_tells_2 (by decide) (by omega) (by omega) (fun c_2 => ?_) (fun c_2 => ?_)
  · refine lv_iload_n Fx.1 Fx.2.1 dX10_tells_15 rfl (lv_at hl 1 rfl) ?_
    refine k_iconst Fx dX10_tells_16 ?_
    refine k_icmp_ne (a := u) (b := 4) (tgt := 28) Fx dX10_tells_17 (by decide) (by omega) (by omega) (fun c_17 => ?_) (fun c_17 => ?_)
    · refine lv_iload_n Fx.1 Fx.2.1 dX10_tells_28 rfl (lv_at hl 1 rfl) ?_
      refine k_iconst Fx dX10_tells_29 ?_
      refine k_icmp_ne (a := u) (b := 5) (tgt := 41) Fx dX10_tells_30 (by decide) (by omega) (by omega) (fun c_30 => ?_) (fun c_30 => ?_)
      · refine lv_iload_n Fx.1 Fx.2.1 dX10_tells_41 rfl (lv_at hl 1 rfl) ?_
        refine k_bipush Fx dX10_tells_42 (by decide) ?_
        refine k_icmp_ne (a := u) (b := 6) (tgt := 55) Fx dX10_tells_44 (by decide) (by omega) (by omega) (fun c_44 => ?_) (fun c_44 => ?_)
        · have hk := hk (by omega)
          have hl := lv_rp hl 2 rfl (show (rk) = (iI (k)) from hk.1)
          refine lv_aload_n Fx.1 Fx.2.1 dX10_tells_55 rfl (lv_at hl 0 rfl) ?_
          refine gM_14 Fx X dX10_tells_56 ?_
          refine lv_iload_n Fx.1 Fx.2.1 dX10_tells_59 rfl (lv_at hl 2 rfl) ?_
          refine k_iconst Fx dX10_tells_60 ?_
          refine stM_14 (z := k) (i := k.toNat) Fx X (by omega) (by omega) dX10_tells_61 (fun H locs X => ?_)
          exact r_vret Fx hr hlk X (by decide) dX10_tells_62 (⟨rfl, _, _, rfl, te_7 (by omega) hL, FrL_g (by omega)⟩)
        · have hv := hv (by omega)
          have hl := lv_rp hl 3 rfl (show (rv) = (iI (v)) from hv.1)
          refine lv_aload_n Fx.1 Fx.2.1 dX10_tells_47 rfl (lv_at hl 0 rfl) ?_
          refine lv_iload_n Fx.1 Fx.2.1 dX10_tells_48 rfl (lv_at hl 3 rfl) ?_
          refine pM_12 Fx X dX10_tells_49 (fun H locs X => ?_)
          refine lv_goto (tgt := 62) Fx.1 Fx.2.1 dX10_tells_52 (by decide) ?_
          exact r_vret Fx hr hlk X (by decide) dX10_tells_62 (⟨rfl, _, _, rfl, te_6 (by omega) (by omega) hL, FrL_f (by omega)⟩)
      · have hv := hv (by omega)
        have hl := lv_rp hl 3 rfl (show (rv) = (iI (v)) from hv.1)
        refine lv_aload_n Fx.1 Fx.2.1 dX10_tells_33 rfl (lv_at hl 0 rfl) ?_
        refine lv_iload_n Fx.1 Fx.2.1 dX10_tells_34 rfl (lv_at hl 3 rfl) ?_
        refine pM_11 Fx X dX10_tells_35 (fun H locs X => ?_)
        refine lv_goto (tgt := 62) Fx.1 Fx.2.1 dX10_tells_38 (by decide) ?_
        exact r_vret Fx hr hlk X (by decide) dX10_tells_62 (⟨rfl, _, _, rfl, te_5 (by omega) (by omega) hL, FrL_f (by omega)⟩)
    · have hv := hv (by omega)
      have hl := lv_rp hl 3 rfl (show (rv) = (iI (v)) from hv.1)
      refine lv_aload_n Fx.1 Fx.2.1 dX10_tells_20 rfl (lv_at hl 0 rfl) ?_
      refine lv_iload_n Fx.1 Fx.2.1 dX10_tells_21 rfl (lv_at hl 3 rfl) ?_
      refine pM_10 Fx X dX10_tells_22 (fun H locs X => ?_)
      refine lv_goto (tgt := 62) Fx.1 Fx.2.1 dX10_tells_25 (by decide) ?_
      exact r_vret Fx hr hlk X (by decide) dX10_tells_62 (⟨rfl, _, _, rfl, te_4 (by omega) (by omega) hL, FrL_f (by omega)⟩)
  · have hk := hk (by omega)
    have hv := hv (by omega)
    have hl := lv_rp hl 2 rfl (show (rk) = (iI (k)) from hk.1)
    have hl := lv_rp hl 3 rfl (show (rv) = (iI (v)) from hv.1)
    refine lv_aload_n Fx.1 Fx.2.1 dX10_tells_5 rfl (lv_at hl 0 rfl) ?_
    refine gM_13 Fx X dX10_tells_6 ?_
    refine lv_iload_n Fx.1 Fx.2.1 dX10_tells_9 rfl (lv_at hl 2 rfl) ?_
    refine lv_iload_n Fx.1 Fx.2.1 dX10_tells_10 rfl (lv_at hl 3 rfl) ?_
    refine stM_13 (z := k) (i := k.toNat) Fx X (by omega) (by omega) dX10_tells_11 (fun H locs X => ?_)
    refine lv_goto (tgt := 62) Fx.1 Fx.2.1 dX10_tells_12 (by decide) ?_
    exact r_vret Fx hr hlk X (by decide) dX10_tells_62 (⟨rfl, _, _, rfl, te_3 (by omega) (by omega) (by omega) hL, FrL_g (by omega)⟩)

theorem ln_good {tn : Nat} {tb : Nat → Nat} {j i : Nat} (h : lnF tn tb j i = 0) : (3 ≤ tkT tn tb i ∧ tkT tn tb i ≤ 7) ∧ ((tkT tn tb i = 3 ∨ tkT tn tb i = 7) → 0 ≤ tkT tn tb (tkN tn tb i) - 300 ∧ tkT tn tb (tkN tn tb i) - 300 ≤ 5) := by
  by_cases h1 : 3 ≤ tkT tn tb i ∧ tkT tn tb i ≤ 7
  · refine ⟨h1, fun z => ?_⟩
    by_cases h2 : j = 20
    · rw [(lnF_b h1 h2).1] at h; exact absurd h (by decide)
    · by_cases h3 : 300 ≤ tkT tn tb (tkN tn tb i) ∧ tkT tn tb (tkN tn tb i) ≤ 305
      · omega
      · rw [(lnF_c h1 h2 z h3).1] at h; exact absurd h (by decide)
  · rw [(lnF_a h1).1] at h; exact absurd h (by decide)
theorem lnJ_here {tn : Nat} {tb : Nat → Nat} {j : Nat} (hJ : spn (lnG tn tb) 21 j = lnJ tn tb) (h : ¬ lnG tn tb j) : j = lnJ tn tb := by
  rw [← hJ]; exact (spn_f (fun z => h z.2)).symm
theorem LnM_kp {tn : Nat} {tb : Nat → Nat} {q j i : Nat} {g g1 : Nat → Nat → Int32} (h : q < j) (hk : ∀ r, r < 3 * j → g1 16 r = g 16 r) (hL : LnM tn tb q i g) : LnM tn tb q i g1 := by
  unfold LnM at *
  rw [hk _ (by omega), hk _ (by omega), hk _ (by omega)]
  exact hL

theorem ru_w {g : Nat → Nat → Int32} {q : Nat} (h : ∀ k, k < q → g 13 k = iI 1 ∧ g 14 k = bI False) : ∀ k, k < q + 1 → updA (updA g 13 (upd (g 13) q (iI 1))) 14 (upd (updA g 13 (upd (g 13) q (iI 1)) 14) q (vp_nar .boolean (iI 0))) 13 k = iI 1 ∧ updA (updA g 13 (upd (g 13) q (iI 1))) 14 (upd (updA g 13 (upd (g 13) q (iI 1)) 14) q (vp_nar .boolean (iI 0))) 14 k = bI False := by
  intro k hk
  rw [updA_n (show (13 : Nat) ≠ 14 by decide), updA_s, updA_s, updA_n (show (14 : Nat) ≠ 13 by decide)]
  by_cases e : k = q
  · rw [e, upd_s, upd_s]; exact ⟨rfl, bI_0 (fun h => h)⟩
  · rw [upd_n e, upd_n e]; exact h k (by omega)

abbrev rm_X10_rules : Room := ({ frames := 5, cells := 0, slots := 0, locals := 109 } : Room)
set_option maxHeartbeats 4000000 in
set_option maxRecDepth 100000 in
theorem c_X10_rules {E : XX} (hE : XS E) (l : Launch) {Γ : GG} {ad : Nat → Nat} {f : Nat → Int32} {g : Nat → Nat → Int32} {tn : Nat} {tb : Nat → Nat} (hT : TapM tn tb f g) (hTB : TapB tn tb) : Con E l yX10_rules cX10_rules 3 (some .int) rm_X10_rules Γ (wM Γ ad f g) [.ref (ad 0)] (RuPost tn tb Γ ad f g) := by
  refine Con_mk (by decide) (Nat.le_of_ble_eq_true rfl) ?_
  intro p e s₀ m args below meth c A Fx hr hlk hnm X ls hl
  have hl : lv_has ls 3 [(0, .ref (ad 0))] := hl
  have hT2 := hTB.1
  refine lv_aload_n Fx.1 Fx.2.1 dX10_rules_0 rfl (lv_at hl 0 rfl) ?_
  refine k_iconst Fx dX10_rules_1 ?_
  refine pM_22 Fx X dX10_rules_2 (fun H locs X => ?_)
  refine lv_aload_n Fx.1 Fx.2.1 dX10_rules_5 rfl (lv_at hl 0 rfl) ?_
  refine k_iconst Fx dX10_rules_6 ?_
  refine pM_18 Fx X dX10_rules_7 (fun H locs X => ?_)
  refine lv_aload_n Fx.1 Fx.2.1 dX10_rules_10 rfl (lv_at hl 0 rfl) ?_
  refine k_iconst Fx dX10_rules_11 ?_
  refine pM_25 Fx X dX10_rules_12 (fun H locs X => ?_)
  refine lv_aload_n Fx.1 Fx.2.1 dX10_rules_15 rfl (lv_at hl 0 rfl) ?_
  refine r_callV (As := []) (rest := []) hE Fx X (c_X10_next0 hE l (by exact hT) hTB (i := 0) (Nat.zero_le _) rfl) cV_X10_174 (recM X) rfl rfl (Nat.le_of_ble_eq_true rfl) (by decide) hl.1 dX10_rules_16 (fun v9 w9 H locs hq X => ?_)
  obtain ⟨rfl, f_1, rfl, hK, hN⟩ := hq
  have hT := TapM_fr (hN 17 (by omega) (by omega) (by omega) (by omega)) rfl hT
  have bt_x := tkT_b tn tb 0
  refine k_iconst Fx dX10_rules_19 ?_
  refine lv_istore_n (lv' := [(1, .int (iI (1))), (0, .ref (ad 0))]) Fx.1 Fx.2.1 dX10_rules_20 rfl hl (by decide) rfl (fun ls hl => ?_)
  have lp_21 : ∀ (nn : Nat) (j : Nat) (f1 : Nat → Int32) (g1 : Nat → Nat → Int32), 21 - j < nn → (j ≤ 20) → (TapM tn tb f1 g1) → (TokM tn tb (lnI tn tb j) f1) → (f1 25 = iI (j : Nat)) → (f1 22 = iI 0) → (spn (lnG tn tb) 21 j = lnJ tn tb) → (∀ q, q < j → (3 ≤ tkT tn tb (lnI tn tb q) ∧ tkT tn tb (lnI tn tb q) ≤ 7) ∧ ((tkT tn tb (lnI tn tb q) = 3 ∨ tkT tn tb (lnI tn tb q) = 7) → 0 ≤ tkT tn tb (tkN tn tb (lnI tn tb q)) - 300 ∧ tkT tn tb (tkN tn tb (lnI tn tb q)) - 300 ≤ 5)) → (∀ q, q < j → LnM tn tb q (lnI tn tb q) g1) → (∀ k, k ≠ 16 → g1 k = g k) → (∀ k, (k < 17 ∨ 26 < k) → f1 k = f k) → ∀ (H : Heap) (locs : List Loc) (ls : Array Slot), Wd E Γ A s₀ H locs (wM Γ ad f1 g1) → lv_has ls 3 [(0, .ref (ad 0)), (1, .int (bI (True)))] → W p l e rm_X10_rules s₀ m args below meth c H locs (0) (0) (RQ below args s₀ Γ A (RuPost tn tb Γ ad f g) rm_X10_rules) (F0 m 21 ls []) := by
    intro nn
    induction nn with
    | zero => intro j f1 g1 hmu; exact absurd hmu (Nat.not_lt_zero _)
    | succ nn ih =>
      intro j f1 g1 hmu hj hT hK h25 h22 hJ hgood hLMs hGr hFr H locs ls X hl
      have ih_21 := ih
      have hi := lnI_le tn tb j
      refine lv_iload_n Fx.1 Fx.2.1 dX10_rules_21 rfl (lv_at hl 1 rfl) ?_
      refine k_bif_eq (tgt := 40) Fx dX10_rules_22 (by decide) (fun c_22 => ?_) (fun c_22 => ?_)
      · exact absurd trivial c_22
      refine lv_aload_n Fx.1 Fx.2.1 dX10_rules_25 rfl (lv_at hl 0 rfl) ?_
      refine gM_19 (x := (iI (tkT tn tb (lnI tn tb j)))) Fx X (hK.2.1) dX10_rules_26 ?_
      have bt_x := tkT_b tn tb (lnI tn tb j)
      refine k_if_eq (a := tkT tn tb (lnI tn tb j)) (tgt := 40) Fx dX10_rules_29 (by decide) (by omega) (fun c_29 => ?_) (fun c_29 => ?_)
      · have hJe : j = lnJ tn tb := lnJ_here hJ (fun z => z.1 c_29)
        refine lv_aload_n Fx.1 Fx.2.1 dX10_rules_40 rfl (lv_at hl 0 rfl) ?_
        refine k_iconst Fx dX10_rules_41 ?_
        refine pM_17 Fx X dX10_rules_42 (fun H locs X => ?_)
        refine lv_aload_n Fx.1 Fx.2.1 dX10_rules_45 rfl (lv_at hl 0 rfl) ?_
        refine lv_aload_n Fx.1 Fx.2.1 dX10_rules_46 rfl (lv_at hl 0 rfl) ?_
        refine gM_22 (x := (iI (0))) Fx X (h22) dX10_rules_47 ?_
        refine pM_24 Fx X dX10_rules_50 (fun H locs X => ?_)
        refine lv_aload_n Fx.1 Fx.2.1 dX10_rules_53 rfl (lv_at hl 0 rfl) ?_
        refine lv_iload_n Fx.1 Fx.2.1 dX10_rules_54 rfl (lv_at hl 1 rfl) ?_
        refine k_bif_eq (tgt := 62) Fx dX10_rules_55 (by decide) (fun c_55 => ?_) (fun c_55 => ?_)
        · exact absurd trivial c_55
        refine k_iconst Fx dX10_rules_58 ?_
        refine lv_goto (tgt := 66) Fx.1 Fx.2.1 dX10_rules_59 (by decide) ?_
        refine pM_26 Fx X dX10_rules_66 (fun H locs X => ?_)
        refine lv_iload_n Fx.1 Fx.2.1 dX10_rules_69 rfl (lv_at hl 1 rfl) ?_
        refine k_bif_ne (tgt := 75) Fx dX10_rules_70 (by decide) (fun c_70 => ?_) (fun c_70 => ?_)
        rotate_left
        · exact absurd trivial c_70
        refine lv_aload_n Fx.1 Fx.2.1 dX10_rules_75 rfl (lv_at hl 0 rfl) ?_
        refine k_iconst Fx dX10_rules_76 ?_
        refine pM_10 Fx X dX10_rules_77 (fun H locs X => ?_)
        refine lv_aload_n Fx.1 Fx.2.1 dX10_rules_80 rfl (lv_at hl 0 rfl) ?_
        refine k_bipush Fx dX10_rules_81 (by decide) ?_
        refine pM_11 Fx X dX10_rules_83 (fun H locs X => ?_)
        refine lv_aload_n Fx.1 Fx.2.1 dX10_rules_86 rfl (lv_at hl 0 rfl) ?_
        refine k_iconst Fx dX10_rules_87 ?_
        refine pM_12 Fx X dX10_rules_88 (fun H locs X => ?_)
        refine k_iconst Fx dX10_rules_91 ?_
        refine lv_istore_n (lv' := [(2, .int (iI (0))), (0, .ref (ad 0)), (1, .int (bI (True)))]) Fx.1 Fx.2.1 dX10_rules_92 rfl hl (by decide) rfl (fun ls hl => ?_)
        have lp_93 : ∀ (nn : Nat) (q : Nat) (g2 : Nat → Nat → Int32), 6 - q < nn → (q ≤ 6) → (∀ k, k < q → g2 13 k = iI 1 ∧ g2 14 k = bI False) → (∀ k, k ≠ 13 → k ≠ 14 → g2 k = g1 k) → ∀ (H : Heap) (locs : List Loc) (ls : Array Slot), Wd E Γ A s₀ H locs (wM Γ ad (upd (upd (upd (upd (upd (upd f1 17 (iI (0))) 24 (iI (0))) 26 (iI ((-1)))) 10 (iI (0))) 11 (iI (12))) 12 (iI (1))) g2) → lv_has ls 3 [(0, .ref (ad 0)), (1, .int (bI (True))), (2, .int (iI (((q : Nat) : Int))))] → W p l e rm_X10_rules s₀ m args below meth c H locs (0) (0) (RQ below args s₀ Γ A (RuPost tn tb Γ ad f g) rm_X10_rules) (F0 m 93 ls []) := by
          intro nn
          induction nn with
          | zero => intro q g2 hmu; exact absurd hmu (Nat.not_lt_zero _)
          | succ nn ih =>
            intro q g2 hmu hq hW hG2 H locs ls X hl
            have ih_93 := ih
            refine lv_iload_n Fx.1 Fx.2.1 dX10_rules_93 rfl (lv_at hl 2 rfl) ?_
            refine k_bipush Fx dX10_rules_94 (by decide) ?_
            refine k_icmp_ge (a := ((q : Nat) : Int)) (b := 6) (tgt := 119) Fx dX10_rules_96 (by decide) (by omega) (by omega) (fun c_96 => ?_) (fun c_96 => ?_)
            · refine k_iconst Fx dX10_rules_119 ?_
              refine lv_istore_n (lv' := [(2, .int (iI (0))), (0, .ref (ad 0)), (1, .int (bI (True)))]) Fx.1 Fx.2.1 dX10_rules_120 rfl hl (by decide) rfl (fun ls hl => ?_)
              have lp_121 : ∀ (nn : Nat) (q : Nat) (f4 : Nat → Int32) (g4 : Nat → Nat → Int32), j - q < nn → (q ≤ j) → (LawT (lnL tn tb q) f4 g4) → (FrL f4 (upd (upd (upd (upd (upd (upd f1 17 (iI (0))) 24 (iI (0))) 26 (iI ((-1)))) 10 (iI (0))) 11 (iI (12))) 12 (iI (1))) g4 g2) → ∀ (H : Heap) (locs : List Loc) (ls : Array Slot), Wd E Γ A s₀ H locs (wM Γ ad f4 g4) → lv_has ls 3 [(0, .ref (ad 0)), (1, .int (bI (True))), (2, .int (iI (((q : Nat) : Int))))] → W p l e rm_X10_rules s₀ m args below meth c H locs (0) (0) (RQ below args s₀ Γ A (RuPost tn tb Γ ad f g) rm_X10_rules) (F0 m 121 ls []) := by
                intro nn
                induction nn with
                | zero => intro q f4 g4 hmu; exact absurd hmu (Nat.not_lt_zero _)
                | succ nn ih =>
                  intro q f4 g4 hmu hq hLw hFG H locs ls X hl
                  have ih_121 := ih
                  refine lv_iload_n Fx.1 Fx.2.1 dX10_rules_121 rfl (lv_at hl 2 rfl) ?_
                  refine lv_aload_n Fx.1 Fx.2.1 dX10_rules_122 rfl (lv_at hl 0 rfl) ?_
                  refine gM_25 (x := (iI (((j : Nat) : Int)))) Fx X ((hFG.1 25 (by omega) (by omega) (by omega)).trans h25) dX10_rules_123 ?_
                  refine k_icmp_ge (a := ((q : Nat) : Int)) (b := ((j : Nat) : Int)) (tgt := 167) Fx dX10_rules_126 (by decide) (by omega) (by omega) (fun c_126 => ?_) (fun c_126 => ?_)
                  · refine lv_aload_n Fx.1 Fx.2.1 dX10_rules_167 rfl (lv_at hl 0 rfl) ?_
                    refine gM_25 (x := (iI (((j : Nat) : Int)))) Fx X ((hFG.1 25 (by omega) (by omega) (by omega)).trans h25) dX10_rules_168 ?_
                    exact r_iret Fx hr hlk X (by decide) dX10_rules_171 (⟨_, _, rfl, (hFG.1 17 (by omega) (by omega) (by omega)).trans rfl, fun k h1 h2 h3 => ((hFG.2 k h1 h2).trans (hG2 k h1 h2)).trans (hGr k h3), fun k h1 h2 h3 h4 => (hFG.1 k h1 h2 h3).trans (by (simp only [upd_n h1, upd_n h2, upd_n h3, upd_n (show k ≠ 26 by omega), upd_n (show k ≠ 24 by omega), upd_n (show k ≠ 17 by omega)]; exact hFr k (by omega))), Or.inl ⟨by rw [← hJe]; omega, by rw [← hJe], (hFG.1 24 (by omega) (by omega) (by omega)).trans rfl, (hFG.1 26 (by omega) (by omega) (by omega)).trans rfl, by rw [← hJe]; exact (show q = j by omega) ▸ hLw⟩⟩)
                  · refine lv_aload_n Fx.1 Fx.2.1 dX10_rules_129 rfl (lv_at hl 0 rfl) ?_
                    refine lv_aload_n Fx.1 Fx.2.1 dX10_rules_130 rfl (lv_at hl 0 rfl) ?_
                    refine gM_16 Fx X dX10_rules_131 ?_
                    refine k_iconst Fx dX10_rules_134 ?_
                    refine lv_iload_n Fx.1 Fx.2.1 dX10_rules_135 rfl (lv_at hl 2 rfl) ?_
                    refine k_imul Fx dX10_rules_136 ?_
                    refine ldM_16 (z := (3 * ((q : Nat) : Int))) (i := (3 * q)) (x := (iI (tkT tn tb (lnI tn tb q)))) Fx X (by omega) (by omega) ((congrFun ((hFG.2 16 (by omega) (by omega)).trans (hG2 16 (by omega) (by omega))) _).trans (hLMs q (by omega)).1) dX10_rules_137 ?_
                    refine lv_aload_n Fx.1 Fx.2.1 dX10_rules_138 rfl (lv_at hl 0 rfl) ?_
                    refine gM_16 Fx X dX10_rules_139 ?_
                    refine k_iconst Fx dX10_rules_142 ?_
                    refine lv_iload_n Fx.1 Fx.2.1 dX10_rules_143 rfl (lv_at hl 2 rfl) ?_
                    refine k_imul Fx dX10_rules_144 ?_
                    refine k_iconst Fx dX10_rules_145 ?_
                    refine k_iadd Fx dX10_rules_146 ?_
                    refine ldM_16 (z := ((3 * ((q : Nat) : Int)) + 1)) (i := (3 * q + 1)) (x := (g4 16 (3 * q + 1))) Fx X (by omega) (by omega) (rfl) dX10_rules_147 ?_
                    refine lv_aload_n Fx.1 Fx.2.1 dX10_rules_148 rfl (lv_at hl 0 rfl) ?_
                    refine gM_16 Fx X dX10_rules_149 ?_
                    refine k_iconst Fx dX10_rules_152 ?_
                    refine lv_iload_n Fx.1 Fx.2.1 dX10_rules_153 rfl (lv_at hl 2 rfl) ?_
                    refine k_imul Fx dX10_rules_154 ?_
                    refine k_iconst Fx dX10_rules_155 ?_
                    refine k_iadd Fx dX10_rules_156 ?_
                    refine ldM_16 (z := ((3 * ((q : Nat) : Int)) + 2)) (i := (3 * q + 2)) (x := (g4 16 (3 * q + 2))) Fx X (by omega) (by omega) (rfl) dX10_rules_157 ?_
                    have hLM := hLMs q (by omega)
                    have hG16 := (hFG.2 16 (by omega) (by omega)).trans (hG2 16 (by omega) (by omega))
                    have hgd := hgood q (by omega)
                    refine r_callV (As := [.int (iI (tkT tn tb (lnI tn tb q))), .int (g4 16 (3 * q + 1)), .int (g4 16 (3 * q + 2))]) (rest := []) hE Fx X (c_X10_tells hE l (x := lnL tn tb q) hLw (u := tkT tn tb (lnI tn tb q)) (k := tkT tn tb (tkN tn tb (lnI tn tb q)) - 300) (v := tkV tn tb (lnK tn tb (lnI tn tb q))) hgd.1 (fun z => ⟨(by rw [hG16]; exact hLM.2.1 z), hgd.2 z⟩) (fun z => ⟨(by rw [hG16]; exact hLM.2.2 z), tkV_b _ _ _⟩)) cV_X10_193 (recM X) rfl rfl (Nat.le_of_ble_eq_true rfl) (by decide) hl.1 dX10_rules_158 (fun v9 w9 H locs hq X => ?_)
                    obtain ⟨rfl, f_2, g_3, rfl, hLw, hFG1⟩ := hq
                    have hFG := FrL_tr hFG1 hFG
                    refine k_iinc (k := 2) (a := ((q : Nat) : Int)) (lv' := [(2, .int (iI ((((q : Nat) : Int) + 1)))), (0, .ref (ad 0)), (1, .int (bI (True)))]) Fx dX10_rules_161 hl rfl (by decide) rfl (fun ls hl => ?_)
                    refine lv_goto (tgt := 121) Fx.1 Fx.2.1 dX10_rules_164 (by decide) ?_
                    have hl_4 := lv_rp hl 0 rfl (show (iI ((((q : Nat) : Int) + 1))) = (iI ((((q + 1) : Nat) : Int))) from congrArg iI (by omega))
                    exact ih_121 (q + 1) (f_2) (g_3) (by omega) (by omega) (hLw) (hFG) _ _ _ X (lv_sub hl_4 [1, 2, 0] rfl)
              have hl_5 := lv_rp hl 0 rfl (show (iI (0)) = (iI (((0 : Nat) : Int))) from congrArg iI (by omega))
              exact lp_121 _ (0) ((upd (upd (upd (upd (upd (upd f1 17 (iI (0))) 24 (iI (0))) 26 (iI ((-1)))) 10 (iI (0))) 11 (iI (12))) 12 (iI (1)))) (g2) (Nat.lt_succ_self _) (by omega) (law_0 rfl rfl rfl (fun k hk => hW k (by omega))) (⟨fun _ _ _ _ => rfl, fun _ _ _ => rfl⟩) _ _ _ X (lv_sub hl_5 [1, 2, 0] rfl)
            · refine lv_aload_n Fx.1 Fx.2.1 dX10_rules_99 rfl (lv_at hl 0 rfl) ?_
              refine gM_13 Fx X dX10_rules_100 ?_
              refine lv_iload_n Fx.1 Fx.2.1 dX10_rules_103 rfl (lv_at hl 2 rfl) ?_
              refine k_iconst Fx dX10_rules_104 ?_
              refine stM_13 (z := ((q : Nat) : Int)) (i := q) Fx X (rfl) (by omega) dX10_rules_105 (fun H locs X => ?_)
              refine lv_aload_n Fx.1 Fx.2.1 dX10_rules_106 rfl (lv_at hl 0 rfl) ?_
              refine gM_14 Fx X dX10_rules_107 ?_
              refine lv_iload_n Fx.1 Fx.2.1 dX10_rules_110 rfl (lv_at hl 2 rfl) ?_
              refine k_iconst Fx dX10_rules_111 ?_
              refine stM_14 (z := ((q : Nat) : Int)) (i := q) Fx X (rfl) (by omega) dX10_rules_112 (fun H locs X => ?_)
              refine k_iinc (k := 2) (a := ((q : Nat) : Int)) (lv' := [(2, .int (iI ((((q : Nat) : Int) + 1)))), (0, .ref (ad 0)), (1, .int (bI (True)))]) Fx dX10_rules_113 hl rfl (by decide) rfl (fun ls hl => ?_)
              refine lv_goto (tgt := 93) Fx.1 Fx.2.1 dX10_rules_116 (by decide) ?_
              have hl_6 := lv_rp hl 0 rfl (show (iI ((((q : Nat) : Int) + 1))) = (iI ((((q + 1) : Nat) : Int))) from congrArg iI (by omega))
              exact ih_93 (q + 1) ((updA (updA g2 13 (upd (g2 13) q (iI (1)))) 14 (upd ((updA g2 13 (upd (g2 13) q (iI (1)))) 14) q (vp_nar .boolean (iI (0)))))) (by omega) (by omega) (ru_w hW) (fun k h1 h2 => ((updA_n h2).trans (updA_n h1)).trans (hG2 k h1 h2)) _ _ _ X (lv_sub hl_6 [1, 2, 0] rfl)
        have hl_7 := lv_rp hl 0 rfl (show (iI (0)) = (iI (((0 : Nat) : Int))) from congrArg iI (by omega))
        exact lp_93 _ (0) (g1) (Nat.lt_succ_self _) (by omega) (fun k h => absurd h (Nat.not_lt_zero k)) (fun _ _ _ => rfl) _ _ _ X (lv_sub hl_7 [1, 2, 0] rfl)
      · refine lv_aload_n Fx.1 Fx.2.1 dX10_rules_32 rfl (lv_at hl 0 rfl) ?_
        refine r_callV (As := []) (rest := []) hE Fx X (c_X10_aLine hE l (by exact hT) hTB hi (by exact hK) (j := j) (by omega) (by exact h25) rfl) cV_X10_184 (recM X) rfl rfl (Nat.le_of_ble_eq_true rfl) (by decide) hl.1 dX10_rules_33 (fun v9 w9 H locs hq X => ?_)
        rcases hq with ⟨hln, rfl, f_8, g_9, rfl, hK1, h251, h221, hF1, hG1, hLM1, hkp1⟩ | ⟨hln, rfl, f_10, g_11, rfl, h221, h231, hF1, hG1⟩
        · refine lv_istore_n (lv' := [(1, .int (bI (True))), (0, .ref (ad 0))]) Fx.1 Fx.2.1 dX10_rules_36 rfl hl (by decide) rfl (fun ls hl => ?_)
          refine lv_goto (tgt := 21) Fx.1 Fx.2.1 dX10_rules_37 (by decide) ?_
          exact ih_21 (j + 1) (f_8) (g_9) (by omega) (by rcases Nat.lt_or_ge j 20 with h9 | h9; (omega); (exact absurd ((show j = 20 by omega) ▸ hln) (lnF_20 tn tb _))) (TapM_fr (hF1 17 (by omega)) (hG1 15 (by omega)) hT) (hK1) (h251) (h221.trans h22) ((spn_t (i := j) ⟨by omega, c_29, hln⟩).symm.trans hJ) (lt_s hgood (ln_good hln)) (lt_s (fun q h9 => LnM_kp h9 hkp1 (hLMs q h9)) hLM1) (fun k hk => (hG1 k hk).trans (hGr k hk)) (fun k hk => (hF1 k (by omega)).trans (hFr k hk)) _ _ _ X (lv_sub hl [1, 0] rfl)
        · refine lv_istore_n (lv' := [(1, .int (bI (False))), (0, .ref (ad 0))]) Fx.1 Fx.2.1 dX10_rules_36 rfl hl (by decide) rfl (fun ls hl => ?_)
          refine lv_goto (tgt := 21) Fx.1 Fx.2.1 dX10_rules_37 (by decide) ?_
          refine lv_iload_n Fx.1 Fx.2.1 dX10_rules_21 rfl (lv_at hl 0 rfl) ?_
          refine k_bif_eq (tgt := 40) Fx dX10_rules_22 (by decide) (fun c_22 => ?_) (fun c_22 => ?_)
          rotate_left
          · exact absurd c_22 (fun h => h)
          have hJe : j = lnJ tn tb := lnJ_here hJ (fun z => hln z.2)
          refine lv_aload_n Fx.1 Fx.2.1 dX10_rules_40 rfl (lv_at hl 1 rfl) ?_
          refine k_iconst Fx dX10_rules_41 ?_
          refine pM_17 Fx X dX10_rules_42 (fun H locs X => ?_)
          refine lv_aload_n Fx.1 Fx.2.1 dX10_rules_45 rfl (lv_at hl 1 rfl) ?_
          refine lv_aload_n Fx.1 Fx.2.1 dX10_rules_46 rfl (lv_at hl 1 rfl) ?_
          refine gM_22 (x := (iI (lnF tn tb j (lnI tn tb j)))) Fx X (h221) dX10_rules_47 ?_
          refine pM_24 Fx X dX10_rules_50 (fun H locs X => ?_)
          refine lv_aload_n Fx.1 Fx.2.1 dX10_rules_53 rfl (lv_at hl 1 rfl) ?_
          refine lv_iload_n Fx.1 Fx.2.1 dX10_rules_54 rfl (lv_at hl 0 rfl) ?_
          refine k_bif_eq (tgt := 62) Fx dX10_rules_55 (by decide) (fun c_55 => ?_) (fun c_55 => ?_)
          rotate_left
          · exact absurd c_55 (fun h => h)
          refine lv_aload_n Fx.1 Fx.2.1 dX10_rules_62 rfl (lv_at hl 1 rfl) ?_
          refine gM_23 (x := (iI (((lnP tn tb j (lnI tn tb j) : Nat) : Int)))) Fx X (h231) dX10_rules_63 ?_
          refine pM_26 Fx X dX10_rules_66 (fun H locs X => ?_)
          refine lv_iload_n Fx.1 Fx.2.1 dX10_rules_69 rfl (lv_at hl 0 rfl) ?_
          refine k_bif_ne (tgt := 75) Fx dX10_rules_70 (by decide) (fun c_70 => ?_) (fun c_70 => ?_)
          · exact absurd c_70 (fun h => h)
          refine k_iconst Fx dX10_rules_73 ?_
          exact r_iret Fx hr hlk X (by decide) dX10_rules_74 (⟨_, _, rfl, rfl, fun k h1 h2 h3 => (hG1 k h3).trans (hGr k h3), fun k h1 h2 h3 h4 => by (simp only [upd_n (show k ≠ 26 by omega), upd_n (show k ≠ 24 by omega), upd_n (show k ≠ 17 by omega)]; exact (hF1 k (by omega)).trans (hFr k (by omega))), Or.inr ⟨by rw [← hJe]; omega, rfl, by rw [← hJe]; rfl, by rw [← hJe]; rfl, (hF1 10 (by omega)).trans (hFr 10 (by omega)), (hF1 11 (by omega)).trans (hFr 11 (by omega)), (hF1 12 (by omega)).trans (hFr 12 (by omega)), (hG1 13 (by omega)).trans (hGr 13 (by omega)), (hG1 14 (by omega)).trans (hGr 14 (by omega))⟩⟩)
  have hl_12 := lv_rp hl 0 rfl (show (iI (1)) = (bI (True)) from bI_1 (by first | trivial | omega))
  exact lp_21 _ (0) (f_1) (g) (Nat.lt_succ_self _) (by omega) (hT) (hK) ((hN 25 (by omega) (by omega) (by omega) (by omega)).trans rfl) ((hN 22 (by omega) (by omega) (by omega) (by omega)).trans rfl) (rfl) (fun q h => absurd h (Nat.not_lt_zero q)) (fun q h => absurd h (Nat.not_lt_zero q)) (fun _ _ => rfl) (fun k hk => (hN k (by omega) (by omega) (by omega) (by omega)).trans (((upd_n (by omega)).trans (upd_n (by omega))).trans (upd_n (by omega)))) _ _ _ X (lv_sub hl_12 [1, 0] rfl)

