abbrev rm_X10_quarrel : Room := ({ frames := 2, cells := 0, slots := 0, locals := 42 } : Room)
set_option maxHeartbeats 4000000 in
set_option maxRecDepth 100000 in
theorem c_X10_quarrel {E : XX} (hE : XS E) (l : Launch) {Γ : GG} {ad : Nat → Nat} {f : Nat → Int32} {g : Nat → Nat → Int32} {a0 a1 v0 v1 k0 k1 m0 m1 : Int} (ha0 : -2147483648 ≤ a0 ∧ a0 < 2147483648) (ha1 : -2147483648 ≤ a1 ∧ a1 < 2147483648) (hv0 : -2147483648 ≤ v0 ∧ v0 < 2147483648) (hv1 : -2147483648 ≤ v1 ∧ v1 < 2147483648) (hk0 : -2147483648 ≤ k0 ∧ k0 < 2147483648) (hk1 : -2147483648 ≤ k1 ∧ k1 < 2147483648) (hm0 : -2147483648 ≤ m0 ∧ m0 < 2147483648) (hm1 : -2147483648 ≤ m1 ∧ m1 < 2147483648) : Con E l yX10_quarrel cX10_quarrel 9 (some .boolean) rm_X10_quarrel Γ (wM Γ ad f g) [.ref (ad 0), .int (iI (a0)), .int (iI (a1)), .int (iI (v0)), .int (iI (v1)), .int (iI (k0)), .int (iI (k1)), .int (iI (m0)), .int (iI (m1))] (fun v w2 => (qOk (fun j => if j = 0 then a0 else if j = 1 then a1 else if j = 2 then v0 else if j = 3 then v1 else if j = 4 then k0 else if j = 5 then k1 else if j = 6 then m0 else m1) ∧ v = some (.int (bI True)) ∧ ∃ f1, w2 = wM Γ ad f1 g ∧ QuaM True (fun j => if j = 0 then a0 else if j = 1 then a1 else if j = 2 then v0 else if j = 3 then v1 else if j = 4 then k0 else if j = 5 then k1 else if j = 6 then m0 else m1) f1 ∧ (∀ j, (j < 41 ∨ 49 < j) → f1 j = f j)) ∨ (¬ qOk (fun j => if j = 0 then a0 else if j = 1 then a1 else if j = 2 then v0 else if j = 3 then v1 else if j = 4 then k0 else if j = 5 then k1 else if j = 6 then m0 else m1) ∧ v = some (.int (bI False)) ∧ w2 = wM Γ ad f g)) := by
  refine Con_mk (by decide) (Nat.le_of_ble_eq_true rfl) ?_
  intro p e s₀ m args below meth c A Fx hr hlk hnm X ls hl
  have hl : lv_has ls 9 [(0, .ref (ad 0)), (1, .int (iI (a0))), (2, .int (iI (a1))), (3, .int (iI (v0))), (4, .int (iI (v1))), (5, .int (iI (k0))), (6, .int (iI (k1))), (7, .int (iI (m0))), (8, .int (iI (m1)))] := hl
  refine lv_iload_n Fx.1 Fx.2.1 dX10_quarrel_0 rfl (lv_at hl 1 rfl) ?_
  refine r_callSi (As := [.int (iI (a0))]) (rest := []) hE Fx X (c_X10_isFoot hE l (v := a0) (by omega)) cS_X10_102 rfl rfl (Nat.le_of_ble_eq_true rfl) (by decide) hl.1 dX10_quarrel_1 (fun H locs X => ?_)
  refine k_bif_eq (tgt := 86) Fx dX10_quarrel_4 (by decide) (fun c_4 => ?_) (fun c_4 => ?_)
  · refine k_iconst Fx dX10_quarrel_86 ?_
    exact r_zret Fx hr hlk X (by decide) dX10_quarrel_87 rfl (Or.inr ⟨by simp only [qOk]; simp; omega, (by rw [bI_f (fun h => h)]; rfl), rfl⟩)
  · refine lv_iload_n Fx.1 Fx.2.1 dX10_quarrel_7 rfl (lv_at hl 2 rfl) ?_
    refine r_callSi (As := [.int (iI (a1))]) (rest := []) hE Fx X (c_X10_isFoot hE l (v := a1) (by omega)) cS_X10_102 rfl rfl (Nat.le_of_ble_eq_true rfl) (by decide) hl.1 dX10_quarrel_8 (fun H locs X => ?_)
    refine k_bif_eq (tgt := 86) Fx dX10_quarrel_11 (by decide) (fun c_11 => ?_) (fun c_11 => ?_)
    · refine k_iconst Fx dX10_quarrel_86 ?_
      exact r_zret Fx hr hlk X (by decide) dX10_quarrel_87 rfl (Or.inr ⟨by simp only [qOk]; simp; omega, (by rw [bI_f (fun h => h)]; rfl), rfl⟩)
    · refine lv_iload_n Fx.1 Fx.2.1 dX10_quarrel_14 rfl (lv_at hl 1 rfl) ?_
      refine lv_iload_n Fx.1 Fx.2.1 dX10_quarrel_15 rfl (lv_at hl 2 rfl) ?_
      refine k_icmp_le (a := a0) (b := a1) (tgt := 86) Fx dX10_quarrel_16 (by decide) (by omega) (by omega) (fun c_16 => ?_) (fun c_16 => ?_)
      · refine k_iconst Fx dX10_quarrel_86 ?_
        exact r_zret Fx hr hlk X (by decide) dX10_quarrel_87 rfl (Or.inr ⟨by simp only [qOk]; simp; omega, (by rw [bI_f (fun h => h)]; rfl), rfl⟩)
      · refine lv_iload_n Fx.1 Fx.2.1 dX10_quarrel_19 rfl (lv_at hl 3 rfl) ?_
        refine k_iconst Fx dX10_quarrel_20 ?_
        refine k_bipush Fx dX10_quarrel_21 (by decide) ?_
        refine r_callSi (As := [.int (iI (v0)), .int (iI (0)), .int (iI (99))]) (rest := []) hE Fx X (c_X10_isIn hE l (v := v0) (a := 0) (b := 99) (by omega) (by omega) (by omega)) cS_X10_90 rfl rfl (Nat.le_of_ble_eq_true rfl) (by decide) hl.1 dX10_quarrel_23 (fun H locs X => ?_)
        refine k_bif_eq (tgt := 86) Fx dX10_quarrel_26 (by decide) (fun c_26 => ?_) (fun c_26 => ?_)
        · refine k_iconst Fx dX10_quarrel_86 ?_
          exact r_zret Fx hr hlk X (by decide) dX10_quarrel_87 rfl (Or.inr ⟨by simp only [qOk]; simp; omega, (by rw [bI_f (fun h => h)]; rfl), rfl⟩)
        · refine lv_iload Fx.1 Fx.2.1 dX10_quarrel_29 (lv_at hl 4 rfl) ?_
          refine k_iconst Fx dX10_quarrel_31 ?_
          refine k_bipush Fx dX10_quarrel_32 (by decide) ?_
          refine r_callSi (As := [.int (iI (v1)), .int (iI (0)), .int (iI (99))]) (rest := []) hE Fx X (c_X10_isIn hE l (v := v1) (a := 0) (b := 99) (by omega) (by omega) (by omega)) cS_X10_90 rfl rfl (Nat.le_of_ble_eq_true rfl) (by decide) hl.1 dX10_quarrel_34 (fun H locs X => ?_)
          refine k_bif_eq (tgt := 86) Fx dX10_quarrel_37 (by decide) (fun c_37 => ?_) (fun c_37 => ?_)
          · refine k_iconst Fx dX10_quarrel_86 ?_
            exact r_zret Fx hr hlk X (by decide) dX10_quarrel_87 rfl (Or.inr ⟨by simp only [qOk]; simp; omega, (by rw [bI_f (fun h => h)]; rfl), rfl⟩)
          · refine lv_iload Fx.1 Fx.2.1 dX10_quarrel_40 (lv_at hl 5 rfl) ?_
            refine k_iconst Fx dX10_quarrel_42 ?_
            refine k_sipush Fx dX10_quarrel_43 (by decide) ?_
            refine r_callSi (As := [.int (iI (k0)), .int (iI (0)), .int (iI (999))]) (rest := []) hE Fx X (c_X10_isIn hE l (v := k0) (a := 0) (b := 999) (by omega) (by omega) (by omega)) cS_X10_90 rfl rfl (Nat.le_of_ble_eq_true rfl) (by decide) hl.1 dX10_quarrel_46 (fun H locs X => ?_)
            refine k_bif_eq (tgt := 86) Fx dX10_quarrel_49 (by decide) (fun c_49 => ?_) (fun c_49 => ?_)
            · refine k_iconst Fx dX10_quarrel_86 ?_
              exact r_zret Fx hr hlk X (by decide) dX10_quarrel_87 rfl (Or.inr ⟨by simp only [qOk]; simp; omega, (by rw [bI_f (fun h => h)]; rfl), rfl⟩)
            · refine lv_iload Fx.1 Fx.2.1 dX10_quarrel_52 (lv_at hl 6 rfl) ?_
              refine k_iconst Fx dX10_quarrel_54 ?_
              refine k_sipush Fx dX10_quarrel_55 (by decide) ?_
              refine r_callSi (As := [.int (iI (k1)), .int (iI (0)), .int (iI (999))]) (rest := []) hE Fx X (c_X10_isIn hE l (v := k1) (a := 0) (b := 999) (by omega) (by omega) (by omega)) cS_X10_90 rfl rfl (Nat.le_of_ble_eq_true rfl) (by decide) hl.1 dX10_quarrel_58 (fun H locs X => ?_)
              refine k_bif_eq (tgt := 86) Fx dX10_quarrel_61 (by decide) (fun c_61 => ?_) (fun c_61 => ?_)
              · refine k_iconst Fx dX10_quarrel_86 ?_
                exact r_zret Fx hr hlk X (by decide) dX10_quarrel_87 rfl (Or.inr ⟨by simp only [qOk]; simp; omega, (by rw [bI_f (fun h => h)]; rfl), rfl⟩)
              · refine lv_iload Fx.1 Fx.2.1 dX10_quarrel_64 (lv_at hl 7 rfl) ?_
                refine k_iconst Fx dX10_quarrel_66 ?_
                refine k_bipush Fx dX10_quarrel_67 (by decide) ?_
                refine r_callSi (As := [.int (iI (m0)), .int (iI (1)), .int (iI (99))]) (rest := []) hE Fx X (c_X10_isIn hE l (v := m0) (a := 1) (b := 99) (by omega) (by omega) (by omega)) cS_X10_90 rfl rfl (Nat.le_of_ble_eq_true rfl) (by decide) hl.1 dX10_quarrel_69 (fun H locs X => ?_)
                refine k_bif_eq (tgt := 86) Fx dX10_quarrel_72 (by decide) (fun c_72 => ?_) (fun c_72 => ?_)
                · refine k_iconst Fx dX10_quarrel_86 ?_
                  exact r_zret Fx hr hlk X (by decide) dX10_quarrel_87 rfl (Or.inr ⟨by simp only [qOk]; simp; omega, (by rw [bI_f (fun h => h)]; rfl), rfl⟩)
                · refine lv_iload Fx.1 Fx.2.1 dX10_quarrel_75 (lv_at hl 8 rfl) ?_
                  refine k_iconst Fx dX10_quarrel_77 ?_
                  refine k_bipush Fx dX10_quarrel_78 (by decide) ?_
                  refine r_callSi (As := [.int (iI (m1)), .int (iI (1)), .int (iI (99))]) (rest := []) hE Fx X (c_X10_isIn hE l (v := m1) (a := 1) (b := 99) (by omega) (by omega) (by omega)) cS_X10_90 rfl rfl (Nat.le_of_ble_eq_true rfl) (by decide) hl.1 dX10_quarrel_80 (fun H locs X => ?_)
                  refine k_bif_ne (tgt := 88) Fx dX10_quarrel_83 (by decide) (fun c_83 => ?_) (fun c_83 => ?_)
                  · refine lv_aload_n Fx.1 Fx.2.1 dX10_quarrel_88 rfl (lv_at hl 0 rfl) ?_
                    refine k_iconst Fx dX10_quarrel_89 ?_
                    refine pM_41 Fx X rfl rfl dX10_quarrel_90 (fun H locs X => ?_)
                    refine lv_aload_n Fx.1 Fx.2.1 dX10_quarrel_93 rfl (lv_at hl 0 rfl) ?_
                    refine lv_iload_n Fx.1 Fx.2.1 dX10_quarrel_94 rfl (lv_at hl 1 rfl) ?_
                    refine pM_42 Fx X dX10_quarrel_95 (fun H locs X => ?_)
                    refine lv_aload_n Fx.1 Fx.2.1 dX10_quarrel_98 rfl (lv_at hl 0 rfl) ?_
                    refine lv_iload_n Fx.1 Fx.2.1 dX10_quarrel_99 rfl (lv_at hl 2 rfl) ?_
                    refine pM_43 Fx X dX10_quarrel_100 (fun H locs X => ?_)
                    refine lv_aload_n Fx.1 Fx.2.1 dX10_quarrel_103 rfl (lv_at hl 0 rfl) ?_
                    refine lv_iload_n Fx.1 Fx.2.1 dX10_quarrel_104 rfl (lv_at hl 3 rfl) ?_
                    refine pM_44 Fx X dX10_quarrel_105 (fun H locs X => ?_)
                    refine lv_aload_n Fx.1 Fx.2.1 dX10_quarrel_108 rfl (lv_at hl 0 rfl) ?_
                    refine lv_iload Fx.1 Fx.2.1 dX10_quarrel_109 (lv_at hl 4 rfl) ?_
                    refine pM_45 Fx X dX10_quarrel_111 (fun H locs X => ?_)
                    refine lv_aload_n Fx.1 Fx.2.1 dX10_quarrel_114 rfl (lv_at hl 0 rfl) ?_
                    refine lv_iload Fx.1 Fx.2.1 dX10_quarrel_115 (lv_at hl 5 rfl) ?_
                    refine pM_46 Fx X dX10_quarrel_117 (fun H locs X => ?_)
                    refine lv_aload_n Fx.1 Fx.2.1 dX10_quarrel_120 rfl (lv_at hl 0 rfl) ?_
                    refine lv_iload Fx.1 Fx.2.1 dX10_quarrel_121 (lv_at hl 6 rfl) ?_
                    refine pM_47 Fx X dX10_quarrel_123 (fun H locs X => ?_)
                    refine lv_aload_n Fx.1 Fx.2.1 dX10_quarrel_126 rfl (lv_at hl 0 rfl) ?_
                    refine lv_iload Fx.1 Fx.2.1 dX10_quarrel_127 (lv_at hl 7 rfl) ?_
                    refine pM_48 Fx X dX10_quarrel_129 (fun H locs X => ?_)
                    refine lv_aload_n Fx.1 Fx.2.1 dX10_quarrel_132 rfl (lv_at hl 0 rfl) ?_
                    refine lv_iload Fx.1 Fx.2.1 dX10_quarrel_133 (lv_at hl 8 rfl) ?_
                    refine pM_49 Fx X dX10_quarrel_135 (fun H locs X => ?_)
                    refine k_iconst Fx dX10_quarrel_138 ?_
                    exact r_zret Fx hr hlk X (by decide) dX10_quarrel_139 rfl (Or.inl ⟨by simp only [qOk]; simp; omega, (by rw [bI_t trivial]; rfl), _, rfl, ⟨bI_1 trivial, rfl, rfl, rfl, rfl, rfl, rfl, rfl, rfl⟩, fun j h1 => ((((((((upd_n (by omega)).trans (upd_n (by omega))).trans (upd_n (by omega))).trans (upd_n (by omega))).trans (upd_n (by omega))).trans (upd_n (by omega))).trans (upd_n (by omega))).trans (upd_n (by omega))).trans (upd_n (by omega))⟩)
                  · refine k_iconst Fx dX10_quarrel_86 ?_
                    exact r_zret Fx hr hlk X (by decide) dX10_quarrel_87 rfl (Or.inr ⟨by simp only [qOk]; simp; omega, (by rw [bI_f (fun h => h)]; rfl), rfl⟩)

abbrev rm_X10_gain : Room := ({ frames := 0, cells := 0, slots := 0, locals := 0 } : Room)
set_option maxHeartbeats 4000000 in
set_option maxRecDepth 100000 in
theorem c_X10_gain {E : XX} (hE : XS E) (l : Launch) {Γ : GG} {ad : Nat → Nat} {f : Nat → Int32} {g : Nat → Nat → Int32} {o : Prop} {q : Nat → Int} (hQ : QuaM o q f) (hq : qOk q) {t : Int} (ht : q 1 ≤ t ∧ t ≤ q 0) : Con E l yX10_gain cX10_gain 4 (some .int) rm_X10_gain Γ (wM Γ ad f g) [.ref (ad 0), .int (iI (t))] (Qi (iI (aG q t)) (wM Γ ad f g)) := by
  refine Con_mk (by decide) (Nat.le_of_ble_eq_true rfl) ?_
  intro p e s₀ m args below meth c A Fx hr hlk hnm X ls hl
  have hl : lv_has ls 4 [(0, .ref (ad 0)), (1, .int (iI (t)))] := hl
  refine lv_aload_n Fx.1 Fx.2.1 dX10_gain_0 rfl (lv_at hl 0 rfl) ?_
  refine gM_44 (x := (iI (q 2))) Fx X (hQ.2.2.2.1) dX10_gain_1 ?_
  refine lv_iload_n Fx.1 Fx.2.1 dX10_gain_4 rfl (lv_at hl 1 rfl) ?_
  refine lv_aload_n Fx.1 Fx.2.1 dX10_gain_5 rfl (lv_at hl 0 rfl) ?_
  refine gM_43 (x := (iI (q 1))) Fx X (hQ.2.2.1) dX10_gain_6 ?_
  refine k_isub Fx dX10_gain_9 ?_
  refine k_imul Fx dX10_gain_10 ?_
  refine lv_aload_n Fx.1 Fx.2.1 dX10_gain_11 rfl (lv_at hl 0 rfl) ?_
  refine gM_48 (x := (iI (q 6))) Fx X (hQ.2.2.2.2.2.2.2.1) dX10_gain_12 ?_
  refine lv_aload_n Fx.1 Fx.2.1 dX10_gain_15 rfl (lv_at hl 0 rfl) ?_
  refine gM_49 (x := (iI (q 7))) Fx X (hQ.2.2.2.2.2.2.2.2) dX10_gain_16 ?_
  refine k_iadd Fx dX10_gain_19 ?_
  refine k_imul Fx dX10_gain_20 ?_
  refine lv_aload_n Fx.1 Fx.2.1 dX10_gain_21 rfl (lv_at hl 0 rfl) ?_
  refine gM_44 (x := (iI (q 2))) Fx X (hQ.2.2.2.1) dX10_gain_22 ?_
  refine lv_aload_n Fx.1 Fx.2.1 dX10_gain_25 rfl (lv_at hl 0 rfl) ?_
  refine gM_42 (x := (iI (q 0))) Fx X (hQ.2.1) dX10_gain_26 ?_
  refine lv_aload_n Fx.1 Fx.2.1 dX10_gain_29 rfl (lv_at hl 0 rfl) ?_
  refine gM_43 (x := (iI (q 1))) Fx X (hQ.2.2.1) dX10_gain_30 ?_
  refine k_isub Fx dX10_gain_33 ?_
  refine k_imul Fx dX10_gain_34 ?_
  refine lv_aload_n Fx.1 Fx.2.1 dX10_gain_35 rfl (lv_at hl 0 rfl) ?_
  refine gM_48 (x := (iI (q 6))) Fx X (hQ.2.2.2.2.2.2.2.1) dX10_gain_36 ?_
  refine k_imul Fx dX10_gain_39 ?_
  refine k_isub Fx dX10_gain_40 ?_
  refine lv_aload_n Fx.1 Fx.2.1 dX10_gain_41 rfl (lv_at hl 0 rfl) ?_
  refine gM_46 (x := (iI (q 4))) Fx X (hQ.2.2.2.2.2.1) dX10_gain_42 ?_
  refine lv_aload_n Fx.1 Fx.2.1 dX10_gain_45 rfl (lv_at hl 0 rfl) ?_
  refine gM_48 (x := (iI (q 6))) Fx X (hQ.2.2.2.2.2.2.2.1) dX10_gain_46 ?_
  refine lv_aload_n Fx.1 Fx.2.1 dX10_gain_49 rfl (lv_at hl 0 rfl) ?_
  refine gM_49 (x := (iI (q 7))) Fx X (hQ.2.2.2.2.2.2.2.2) dX10_gain_50 ?_
  refine k_iadd Fx dX10_gain_53 ?_
  refine k_imul Fx dX10_gain_54 ?_
  refine k_iadd Fx dX10_gain_55 ?_
  refine lv_istore_n (lv' := [(2, .int (iI (((((q 2 * (t - q 1)) * (q 6 + q 7)) - ((q 2 * (q 0 - q 1)) * q 6)) + (q 4 * (q 6 + q 7)))))), (0, .ref (ad 0)), (1, .int (iI (t)))]) Fx.1 Fx.2.1 dX10_gain_56 rfl hl (by decide) rfl (fun ls hl => ?_)
  refine lv_aload_n Fx.1 Fx.2.1 dX10_gain_57 rfl (lv_at hl 1 rfl) ?_
  refine gM_45 (x := (iI (q 3))) Fx X (hQ.2.2.2.2.1) dX10_gain_58 ?_
  refine lv_aload_n Fx.1 Fx.2.1 dX10_gain_61 rfl (lv_at hl 1 rfl) ?_
  refine gM_42 (x := (iI (q 0))) Fx X (hQ.2.1) dX10_gain_62 ?_
  refine lv_iload_n Fx.1 Fx.2.1 dX10_gain_65 rfl (lv_at hl 2 rfl) ?_
  refine k_isub Fx dX10_gain_66 ?_
  refine k_imul Fx dX10_gain_67 ?_
  refine lv_aload_n Fx.1 Fx.2.1 dX10_gain_68 rfl (lv_at hl 1 rfl) ?_
  refine gM_48 (x := (iI (q 6))) Fx X (hQ.2.2.2.2.2.2.2.1) dX10_gain_69 ?_
  refine lv_aload_n Fx.1 Fx.2.1 dX10_gain_72 rfl (lv_at hl 1 rfl) ?_
  refine gM_49 (x := (iI (q 7))) Fx X (hQ.2.2.2.2.2.2.2.2) dX10_gain_73 ?_
  refine k_iadd Fx dX10_gain_76 ?_
  refine k_imul Fx dX10_gain_77 ?_
  refine lv_aload_n Fx.1 Fx.2.1 dX10_gain_78 rfl (lv_at hl 1 rfl) ?_
  refine gM_45 (x := (iI (q 3))) Fx X (hQ.2.2.2.2.1) dX10_gain_79 ?_
  refine lv_aload_n Fx.1 Fx.2.1 dX10_gain_82 rfl (lv_at hl 1 rfl) ?_
  refine gM_42 (x := (iI (q 0))) Fx X (hQ.2.1) dX10_gain_83 ?_
  refine lv_aload_n Fx.1 Fx.2.1 dX10_gain_86 rfl (lv_at hl 1 rfl) ?_
  refine gM_43 (x := (iI (q 1))) Fx X (hQ.2.2.1) dX10_gain_87 ?_
  refine k_isub Fx dX10_gain_90 ?_
  refine k_imul Fx dX10_gain_91 ?_
  refine lv_aload_n Fx.1 Fx.2.1 dX10_gain_92 rfl (lv_at hl 1 rfl) ?_
  refine gM_49 (x := (iI (q 7))) Fx X (hQ.2.2.2.2.2.2.2.2) dX10_gain_93 ?_
  refine k_imul Fx dX10_gain_96 ?_
  refine k_isub Fx dX10_gain_97 ?_
  refine lv_aload_n Fx.1 Fx.2.1 dX10_gain_98 rfl (lv_at hl 1 rfl) ?_
  refine gM_47 (x := (iI (q 5))) Fx X (hQ.2.2.2.2.2.2.1) dX10_gain_99 ?_
  refine lv_aload_n Fx.1 Fx.2.1 dX10_gain_102 rfl (lv_at hl 1 rfl) ?_
  refine gM_48 (x := (iI (q 6))) Fx X (hQ.2.2.2.2.2.2.2.1) dX10_gain_103 ?_
  refine lv_aload_n Fx.1 Fx.2.1 dX10_gain_106 rfl (lv_at hl 1 rfl) ?_
  refine gM_49 (x := (iI (q 7))) Fx X (hQ.2.2.2.2.2.2.2.2) dX10_gain_107 ?_
  refine k_iadd Fx dX10_gain_110 ?_
  refine k_imul Fx dX10_gain_111 ?_
  refine k_iadd Fx dX10_gain_112 ?_
  refine lv_istore_n (lv' := [(3, .int (iI (((((q 3 * (q 0 - t)) * (q 6 + q 7)) - ((q 3 * (q 0 - q 1)) * q 7)) + (q 5 * (q 6 + q 7)))))), (2, .int (iI (((((q 2 * (t - q 1)) * (q 6 + q 7)) - ((q 2 * (q 0 - q 1)) * q 6)) + (q 4 * (q 6 + q 7)))))), (0, .ref (ad 0)), (1, .int (iI (t)))]) Fx.1 Fx.2.1 dX10_gain_113 rfl hl (by decide) rfl (fun ls hl => ?_)
  have hl := lv_rp hl 1 rfl (show (iI (((((q 2 * (t - q 1)) * (q 6 + q 7)) - ((q 2 * (q 0 - q 1)) * q 6)) + (q 4 * (q 6 + q 7))))) = (iI (aG0 q t)) from rfl)
  have hl := lv_rp hl 0 rfl (show (iI (((((q 3 * (q 0 - t)) * (q 6 + q 7)) - ((q 3 * (q 0 - q 1)) * q 7)) + (q 5 * (q 6 + q 7))))) = (iI (aG1 q t)) from rfl)
  have b0 := aG0_b hq ht
  have b1 := aG1_b hq ht
  refine lv_iload_n Fx.1 Fx.2.1 dX10_gain_114 rfl (lv_at hl 1 rfl) ?_
  refine lv_iload_n Fx.1 Fx.2.1 dX10_gain_115 rfl (lv_at hl 0 rfl) ?_
  refine k_icmp_ge (a := aG0 q t) (b := aG1 q t) (tgt := 123) Fx dX10_gain_116 (by decide) (by omega) (by omega) (fun c_116 => ?_) (fun c_116 => ?_)
  · refine lv_iload_n Fx.1 Fx.2.1 dX10_gain_123 rfl (lv_at hl 0 rfl) ?_
    exact r_iret Fx hr hlk X (by decide) dX10_gain_124 (Qi_mk (congrArg iI (if_neg (by omega)).symm))
  · refine lv_iload_n Fx.1 Fx.2.1 dX10_gain_119 rfl (lv_at hl 1 rfl) ?_
    refine lv_goto (tgt := 124) Fx.1 Fx.2.1 dX10_gain_120 (by decide) ?_
    exact r_iret Fx hr hlk X (by decide) dX10_gain_124 (Qi_mk (congrArg iI (if_pos c_116).symm))

abbrev rm_X10_split : Room := ({ frames := 1, cells := 0, slots := 0, locals := 23 } : Room)
set_option maxHeartbeats 4000000 in
set_option maxRecDepth 100000 in
theorem c_X10_split {E : XX} (hE : XS E) (l : Launch) {Γ : GG} {ad : Nat → Nat} {f : Nat → Int32} {g : Nat → Nat → Int32} {o : Prop} {q : Nat → Int} (hQ : QuaM o q f) (hq0 : o → qOk q) {z : Int} (hz : -2147483648 ≤ z ∧ z < 2147483648) : Con E l yX10_split cX10_split 7 (some .int) rm_X10_split Γ (wM Γ ad f g) [.ref (ad 0), .int (iI (z))] (Qi (iI (aSpl o q z)) (wM Γ ad f g)) := by
  refine Con_mk (by decide) (Nat.le_of_ble_eq_true rfl) ?_
  intro p e s₀ m args below meth c A Fx hr hlk hnm X ls hl
  have hl : lv_has ls 7 [(0, .ref (ad 0)), (1, .int (iI (z)))] := hl
  refine lv_aload_n Fx.1 Fx.2.1 dX10_split_0 rfl (lv_at hl 0 rfl) ?_
  refine gM_41 (x := (bI (o))) Fx X (hQ.1) dX10_split_1 ?_
  refine k_bif_eq (tgt := 16) Fx dX10_split_4 (by decide) (fun c_4 => ?_) (fun c_4 => ?_)
  · refine k_iconst Fx dX10_split_16 ?_
    exact r_iret Fx hr hlk X (by decide) dX10_split_17 (Qi_mk (congrArg iI (by unfold aSpl; rw [if_neg (fun h => c_4 h.1)])))
  · refine lv_iload_n Fx.1 Fx.2.1 dX10_split_7 rfl (lv_at hl 1 rfl) ?_
    refine k_iconst Fx dX10_split_8 ?_
    refine k_iconst Fx dX10_split_9 ?_
    refine r_callSi (As := [.int (iI (z)), .int (iI (0)), .int (iI (3))]) (rest := []) hE Fx X (c_X10_isIn hE l (v := z) (a := 0) (b := 3) (by omega) (by omega) (by omega)) cS_X10_90 rfl rfl (Nat.le_of_ble_eq_true rfl) (by decide) hl.1 dX10_split_10 (fun H locs X => ?_)
    refine k_bif_ne (tgt := 18) Fx dX10_split_13 (by decide) (fun c_13 => ?_) (fun c_13 => ?_)
    · have hq := hq0 c_4
      have hq1 := hq.1
      have hq2 := hq.2.1
      have hq3 := hq.2.2.1
      refine k_iconst Fx dX10_split_18 ?_
      refine lv_istore_n (lv' := [(2, .int (iI (0))), (0, .ref (ad 0)), (1, .int (iI (z)))]) Fx.1 Fx.2.1 dX10_split_19 rfl hl (by decide) rfl (fun ls hl => ?_)
      refine k_iconst Fx dX10_split_20 ?_
      refine lv_istore_n (lv' := [(3, .int (iI ((-1)))), (2, .int (iI (0))), (0, .ref (ad 0)), (1, .int (iI (z)))]) Fx.1 Fx.2.1 dX10_split_21 rfl hl (by decide) rfl (fun ls hl => ?_)
      refine k_iconst Fx dX10_split_22 ?_
      refine lv_istore (lv' := [(4, .int (iI ((-1)))), (3, .int (iI ((-1)))), (2, .int (iI (0))), (0, .ref (ad 0)), (1, .int (iI (z)))]) Fx.1 Fx.2.1 dX10_split_23 hl (by decide) rfl (fun ls hl => ?_)
      refine k_iconst Fx dX10_split_25 ?_
      refine lv_istore (lv' := [(5, .int (iI ((-1)))), (4, .int (iI ((-1)))), (3, .int (iI ((-1)))), (2, .int (iI (0))), (0, .ref (ad 0)), (1, .int (iI (z)))]) Fx.1 Fx.2.1 dX10_split_26 hl (by decide) rfl (fun ls hl => ?_)
      refine lv_aload_n Fx.1 Fx.2.1 dX10_split_28 rfl (lv_at hl 4 rfl) ?_
      refine gM_43 (x := (iI (q 1))) Fx X (hQ.2.2.1) dX10_split_29 ?_
      refine lv_istore (lv' := [(6, .int (iI (q 1))), (5, .int (iI ((-1)))), (4, .int (iI ((-1)))), (3, .int (iI ((-1)))), (2, .int (iI (0))), (0, .ref (ad 0)), (1, .int (iI (z)))]) Fx.1 Fx.2.1 dX10_split_32 hl (by decide) rfl (fun ls hl => ?_)
      have lp_34 : ∀ (nn : Nat) (j : Nat), (q 0 - q 1 + 1).toNat - j < nn → (((j : Nat) : Int) ≤ q 0 - q 1 + 1) → ∀ (H : Heap) (locs : List Loc) (ls : Array Slot), Wd E Γ A s₀ H locs (wM Γ ad f g) → lv_has ls 7 [(0, .ref (ad 0)), (1, .int (iI (z))), (2, .int (iI (aFn q j))), (3, .int (iI (aFf q j))), (4, .int (iI (aFl q j))), (5, .int (iI (aFb q j))), (6, .int (iI ((q 1 + ((j : Nat) : Int)))))] → W p l e rm_X10_split s₀ m args below meth c H locs (0) (0) (RQ below args s₀ Γ A (Qi (iI (aSpl o q z)) (wM Γ ad f g)) rm_X10_split) (F0 m 34 ls []) := by
        intro nn
        induction nn with
        | zero => intro j hmu; exact absurd hmu (Nat.not_lt_zero _)
        | succ nn ih =>
          intro j hmu hj H locs ls X hl
          have ih_34 := ih
          refine lv_iload Fx.1 Fx.2.1 dX10_split_34 (lv_at hl 6 rfl) ?_
          refine lv_aload_n Fx.1 Fx.2.1 dX10_split_36 rfl (lv_at hl 0 rfl) ?_
          refine gM_42 (x := (iI (q 0))) Fx X (hQ.2.1) dX10_split_37 ?_
          have e1 := aFn_b q j
          have e2 := aFf_b q j
          have e3 := aFl_b q j
          have e4 := aFb_b q j
          refine k_icmp_gt (a := (q 1 + ((j : Nat) : Int))) (b := q 0) (tgt := 110) Fx dX10_split_40 (by decide) (by omega) (by omega) (fun c_40 => ?_) (fun c_40 => ?_)
          · refine lv_iload_n Fx.1 Fx.2.1 dX10_split_110 rfl (lv_at hl 1 rfl) ?_
            refine k_if_ne (a := z) (tgt := 118) Fx dX10_split_111 (by decide) (by omega) (fun c_111 => ?_) (fun c_111 => ?_)
            · refine lv_iload_n Fx.1 Fx.2.1 dX10_split_118 rfl (lv_at hl 1 rfl) ?_
              refine k_iconst Fx dX10_split_119 ?_
              refine k_icmp_ne (a := z) (b := 1) (tgt := 127) Fx dX10_split_120 (by decide) (by omega) (by omega) (fun c_120 => ?_) (fun c_120 => ?_)
              · refine lv_iload_n Fx.1 Fx.2.1 dX10_split_127 rfl (lv_at hl 1 rfl) ?_
                refine k_iconst Fx dX10_split_128 ?_
                refine k_icmp_ne (a := z) (b := 2) (tgt := 137) Fx dX10_split_129 (by decide) (by omega) (by omega) (fun c_129 => ?_) (fun c_129 => ?_)
                · refine lv_iload Fx.1 Fx.2.1 dX10_split_137 (lv_at hl 5 rfl) ?_
                  exact r_iret Fx hr hlk X (by decide) dX10_split_139 (Qi_mk (congrArg iI (by unfold aSpl; rw [if_pos ⟨c_4, by omega⟩, if_neg (by omega), if_neg (by omega), if_neg (by omega), show (q 0 - q 1 + 1).toNat = j by omega])))
                · refine lv_iload Fx.1 Fx.2.1 dX10_split_132 (lv_at hl 4 rfl) ?_
                  refine lv_goto (tgt := 139) Fx.1 Fx.2.1 dX10_split_134 (by decide) ?_
                  exact r_iret Fx hr hlk X (by decide) dX10_split_139 (Qi_mk (congrArg iI (by unfold aSpl; rw [if_pos ⟨c_4, by omega⟩, if_neg (by omega), if_neg (by omega), if_pos (by omega), show (q 0 - q 1 + 1).toNat = j by omega])))
              · refine lv_iload_n Fx.1 Fx.2.1 dX10_split_123 rfl (lv_at hl 3 rfl) ?_
                refine lv_goto (tgt := 139) Fx.1 Fx.2.1 dX10_split_124 (by decide) ?_
                exact r_iret Fx hr hlk X (by decide) dX10_split_139 (Qi_mk (congrArg iI (by unfold aSpl; rw [if_pos ⟨c_4, by omega⟩, if_neg (by omega), if_pos (by omega), show (q 0 - q 1 + 1).toNat = j by omega])))
            · refine lv_iload_n Fx.1 Fx.2.1 dX10_split_114 rfl (lv_at hl 2 rfl) ?_
              refine lv_goto (tgt := 139) Fx.1 Fx.2.1 dX10_split_115 (by decide) ?_
              exact r_iret Fx hr hlk X (by decide) dX10_split_139 (Qi_mk (congrArg iI (by unfold aSpl; rw [if_pos ⟨c_4, by omega⟩, if_pos (by omega), show (q 0 - q 1 + 1).toNat = j by omega])))
          · refine lv_aload_n Fx.1 Fx.2.1 dX10_split_43 rfl (lv_at hl 0 rfl) ?_
            refine lv_iload Fx.1 Fx.2.1 dX10_split_44 (lv_at hl 6 rfl) ?_
            refine r_callVi (As := [.int (iI ((q 1 + ((j : Nat) : Int))))]) (rest := []) hE Fx X (c_X10_gain hE l hQ hq (t := (q 1 + ((j : Nat) : Int))) (by omega)) cV_X10_269 (recM X) rfl rfl (Nat.le_of_ble_eq_true rfl) (by decide) hl.1 dX10_split_46 (fun H locs X => ?_)
            have hg := aG_b hq (f := q 1 + ((j : Nat) : Int)) (by omega)
            refine k_if_ge (a := (aG q ((q 1 + ((j : Nat) : Int))))) (tgt := 55) Fx dX10_split_49 (by decide) (by omega) (fun c_49 => ?_) (fun c_49 => ?_)
            · refine k_iinc (k := 2) (a := aFn q j) (lv' := [(2, .int (iI ((aFn q j + 1)))), (0, .ref (ad 0)), (1, .int (iI (z))), (3, .int (iI (aFf q j))), (4, .int (iI (aFl q j))), (5, .int (iI (aFb q j))), (6, .int (iI ((q 1 + ((j : Nat) : Int)))))]) Fx dX10_split_55 hl rfl (by decide) rfl (fun ls hl => ?_)
              refine lv_iload_n Fx.1 Fx.2.1 dX10_split_58 rfl (lv_at hl 3 rfl) ?_
              refine k_iconst Fx dX10_split_59 ?_
              refine k_icmp_ne (a := aFf q j) (b := (-1)) (tgt := 68) Fx dX10_split_60 (by decide) (by omega) (by omega) (fun c_60 => ?_) (fun c_60 => ?_)
              · refine lv_iload_n Fx.1 Fx.2.1 dX10_split_68 rfl (lv_at hl 3 rfl) ?_
                refine lv_istore_n (lv' := [(3, .int (iI (aFf q j))), (2, .int (iI ((aFn q j + 1)))), (0, .ref (ad 0)), (1, .int (iI (z))), (4, .int (iI (aFl q j))), (5, .int (iI (aFb q j))), (6, .int (iI ((q 1 + ((j : Nat) : Int)))))]) Fx.1 Fx.2.1 dX10_split_69 rfl hl (by decide) rfl (fun ls hl => ?_)
                refine lv_iload Fx.1 Fx.2.1 dX10_split_70 (lv_at hl 6 rfl) ?_
                refine lv_istore (lv' := [(4, .int (iI ((q 1 + ((j : Nat) : Int))))), (3, .int (iI (aFf q j))), (2, .int (iI ((aFn q j + 1)))), (0, .ref (ad 0)), (1, .int (iI (z))), (5, .int (iI (aFb q j))), (6, .int (iI ((q 1 + ((j : Nat) : Int)))))]) Fx.1 Fx.2.1 dX10_split_72 hl (by decide) rfl (fun ls hl => ?_)
                refine lv_iload Fx.1 Fx.2.1 dX10_split_74 (lv_at hl 5 rfl) ?_
                refine k_iconst Fx dX10_split_76 ?_
                refine k_icmp_eq (a := aFb q j) (b := (-1)) (tgt := 95) Fx dX10_split_77 (by decide) (by omega) (by omega) (fun c_77 => ?_) (fun c_77 => ?_)
                · refine lv_iload Fx.1 Fx.2.1 dX10_split_95 (lv_at hl 6 rfl) ?_
                  refine lv_goto (tgt := 102) Fx.1 Fx.2.1 dX10_split_97 (by decide) ?_
                  refine lv_istore (lv' := [(5, .int (iI ((q 1 + ((j : Nat) : Int))))), (4, .int (iI ((q 1 + ((j : Nat) : Int))))), (3, .int (iI (aFf q j))), (2, .int (iI ((aFn q j + 1)))), (0, .ref (ad 0)), (1, .int (iI (z))), (6, .int (iI ((q 1 + ((j : Nat) : Int)))))]) Fx.1 Fx.2.1 dX10_split_102 hl (by decide) rfl (fun ls hl => ?_)
                  refine k_iinc (k := 6) (a := (q 1 + ((j : Nat) : Int))) (lv' := [(6, .int (iI (((q 1 + ((j : Nat) : Int)) + 1)))), (5, .int (iI ((q 1 + ((j : Nat) : Int))))), (4, .int (iI ((q 1 + ((j : Nat) : Int))))), (3, .int (iI (aFf q j))), (2, .int (iI ((aFn q j + 1)))), (0, .ref (ad 0)), (1, .int (iI (z)))]) Fx dX10_split_104 hl rfl (by decide) rfl (fun ls hl => ?_)
                  refine lv_goto (tgt := 34) Fx.1 Fx.2.1 dX10_split_107 (by decide) ?_
                  have hl_1 := lv_rp hl 4 rfl (show (iI ((aFn q j + 1))) = (iI (aFn q (j + 1))) from congrArg iI (show _ = aFn q (j + 1) from ((if_pos (by omega)).symm)))
                  have hl_2 := lv_rp hl_1 3 rfl (show (iI (aFf q j)) = (iI (aFf q (j + 1))) from congrArg iI (show _ = aFf q (j + 1) from ((if_pos (by omega)).trans (if_neg (by omega))).symm))
                  have hl_3 := lv_rp hl_2 2 rfl (show (iI ((q 1 + ((j : Nat) : Int)))) = (iI (aFl q (j + 1))) from congrArg iI (show _ = aFl q (j + 1) from ((if_pos (by omega)).symm)))
                  have hl_4 := lv_rp hl_3 1 rfl (show (iI ((q 1 + ((j : Nat) : Int)))) = (iI (aFb q (j + 1))) from congrArg iI (show _ = aFb q (j + 1) from ((if_pos (by omega)).trans (if_pos (Or.inl (by omega)))).symm))
                  have hl_5 := lv_rp hl_4 0 rfl (show (iI (((q 1 + ((j : Nat) : Int)) + 1))) = (iI ((q 1 + (((j + 1) : Nat) : Int)))) from congrArg iI (by omega))
                  exact ih_34 (j + 1) (by omega) (by omega) _ _ _ X (lv_sub hl_5 [5, 6, 4, 3, 2, 1, 0] rfl)
                · refine lv_aload_n Fx.1 Fx.2.1 dX10_split_80 rfl (lv_at hl 3 rfl) ?_
                  refine lv_iload Fx.1 Fx.2.1 dX10_split_81 (lv_at hl 6 rfl) ?_
                  refine r_callVi (As := [.int (iI ((q 1 + ((j : Nat) : Int))))]) (rest := []) hE Fx X (c_X10_gain hE l hQ hq (t := (q 1 + ((j : Nat) : Int))) (by omega)) cV_X10_269 (recM X) rfl rfl (Nat.le_of_ble_eq_true rfl) (by decide) hl.1 dX10_split_83 (fun H locs X => ?_)
                  refine lv_aload_n Fx.1 Fx.2.1 dX10_split_86 rfl (lv_at hl 3 rfl) ?_
                  refine lv_iload Fx.1 Fx.2.1 dX10_split_87 (lv_at hl 5 rfl) ?_
                  refine r_callVi (As := [.int (iI (aFb q j))]) (rest := [.int (iI ((aG q ((q 1 + ((j : Nat) : Int))))))]) hE Fx X (c_X10_gain hE l hQ hq (t := aFb q j) (by omega)) cV_X10_269 (recM X) rfl rfl (Nat.le_of_ble_eq_true rfl) (by decide) hl.1 dX10_split_89 (fun H locs X => ?_)
                  have hg2 := aG_b hq (f := aFb q j) (by omega)
                  refine k_icmp_le (a := (aG q ((q 1 + ((j : Nat) : Int))))) (b := (aG q (aFb q j))) (tgt := 100) Fx dX10_split_92 (by decide) (by omega) (by omega) (fun c_92 => ?_) (fun c_92 => ?_)
                  · refine lv_iload Fx.1 Fx.2.1 dX10_split_100 (lv_at hl 5 rfl) ?_
                    refine lv_istore (lv' := [(5, .int (iI (aFb q j))), (4, .int (iI ((q 1 + ((j : Nat) : Int))))), (3, .int (iI (aFf q j))), (2, .int (iI ((aFn q j + 1)))), (0, .ref (ad 0)), (1, .int (iI (z))), (6, .int (iI ((q 1 + ((j : Nat) : Int)))))]) Fx.1 Fx.2.1 dX10_split_102 hl (by decide) rfl (fun ls hl => ?_)
                    refine k_iinc (k := 6) (a := (q 1 + ((j : Nat) : Int))) (lv' := [(6, .int (iI (((q 1 + ((j : Nat) : Int)) + 1)))), (5, .int (iI (aFb q j))), (4, .int (iI ((q 1 + ((j : Nat) : Int))))), (3, .int (iI (aFf q j))), (2, .int (iI ((aFn q j + 1)))), (0, .ref (ad 0)), (1, .int (iI (z)))]) Fx dX10_split_104 hl rfl (by decide) rfl (fun ls hl => ?_)
                    refine lv_goto (tgt := 34) Fx.1 Fx.2.1 dX10_split_107 (by decide) ?_
                    have hl_6 := lv_rp hl 4 rfl (show (iI ((aFn q j + 1))) = (iI (aFn q (j + 1))) from congrArg iI (show _ = aFn q (j + 1) from ((if_pos (by omega)).symm)))
                    have hl_7 := lv_rp hl_6 3 rfl (show (iI (aFf q j)) = (iI (aFf q (j + 1))) from congrArg iI (show _ = aFf q (j + 1) from ((if_pos (by omega)).trans (if_neg (by omega))).symm))
                    have hl_8 := lv_rp hl_7 2 rfl (show (iI ((q 1 + ((j : Nat) : Int)))) = (iI (aFl q (j + 1))) from congrArg iI (show _ = aFl q (j + 1) from ((if_pos (by omega)).symm)))
                    have hl_9 := lv_rp hl_8 1 rfl (show (iI (aFb q j)) = (iI (aFb q (j + 1))) from congrArg iI (show _ = aFb q (j + 1) from ((if_pos (by omega)).trans (if_neg (by omega))).symm))
                    have hl_10 := lv_rp hl_9 0 rfl (show (iI (((q 1 + ((j : Nat) : Int)) + 1))) = (iI ((q 1 + (((j + 1) : Nat) : Int)))) from congrArg iI (by omega))
                    exact ih_34 (j + 1) (by omega) (by omega) _ _ _ X (lv_sub hl_10 [5, 6, 4, 3, 2, 1, 0] rfl)
                  · refine lv_iload Fx.1 Fx.2.1 dX10_split_95 (lv_at hl 6 rfl) ?_
                    refine lv_goto (tgt := 102) Fx.1 Fx.2.1 dX10_split_97 (by decide) ?_
                    refine lv_istore (lv' := [(5, .int (iI ((q 1 + ((j : Nat) : Int))))), (4, .int (iI ((q 1 + ((j : Nat) : Int))))), (3, .int (iI (aFf q j))), (2, .int (iI ((aFn q j + 1)))), (0, .ref (ad 0)), (1, .int (iI (z))), (6, .int (iI ((q 1 + ((j : Nat) : Int)))))]) Fx.1 Fx.2.1 dX10_split_102 hl (by decide) rfl (fun ls hl => ?_)
                    refine k_iinc (k := 6) (a := (q 1 + ((j : Nat) : Int))) (lv' := [(6, .int (iI (((q 1 + ((j : Nat) : Int)) + 1)))), (5, .int (iI ((q 1 + ((j : Nat) : Int))))), (4, .int (iI ((q 1 + ((j : Nat) : Int))))), (3, .int (iI (aFf q j))), (2, .int (iI ((aFn q j + 1)))), (0, .ref (ad 0)), (1, .int (iI (z)))]) Fx dX10_split_104 hl rfl (by decide) rfl (fun ls hl => ?_)
                    refine lv_goto (tgt := 34) Fx.1 Fx.2.1 dX10_split_107 (by decide) ?_
                    have hl_11 := lv_rp hl 4 rfl (show (iI ((aFn q j + 1))) = (iI (aFn q (j + 1))) from congrArg iI (show _ = aFn q (j + 1) from ((if_pos (by omega)).symm)))
                    have hl_12 := lv_rp hl_11 3 rfl (show (iI (aFf q j)) = (iI (aFf q (j + 1))) from congrArg iI (show _ = aFf q (j + 1) from ((if_pos (by omega)).trans (if_neg (by omega))).symm))
                    have hl_13 := lv_rp hl_12 2 rfl (show (iI ((q 1 + ((j : Nat) : Int)))) = (iI (aFl q (j + 1))) from congrArg iI (show _ = aFl q (j + 1) from ((if_pos (by omega)).symm)))
                    have hl_14 := lv_rp hl_13 1 rfl (show (iI ((q 1 + ((j : Nat) : Int)))) = (iI (aFb q (j + 1))) from congrArg iI (show _ = aFb q (j + 1) from ((if_pos (by omega)).trans (if_pos (Or.inr (by omega)))).symm))
                    have hl_15 := lv_rp hl_14 0 rfl (show (iI (((q 1 + ((j : Nat) : Int)) + 1))) = (iI ((q 1 + (((j + 1) : Nat) : Int)))) from congrArg iI (by omega))
                    exact ih_34 (j + 1) (by omega) (by omega) _ _ _ X (lv_sub hl_15 [5, 6, 4, 3, 2, 1, 0] rfl)
              · refine lv_iload Fx.1 Fx.2.1 dX10_split_63 (lv_at hl 6 rfl) ?_
                refine lv_goto (tgt := 69) Fx.1 Fx.2.1 dX10_split_65 (by decide) ?_
                refine lv_istore_n (lv' := [(3, .int (iI ((q 1 + ((j : Nat) : Int))))), (2, .int (iI ((aFn q j + 1)))), (0, .ref (ad 0)), (1, .int (iI (z))), (4, .int (iI (aFl q j))), (5, .int (iI (aFb q j))), (6, .int (iI ((q 1 + ((j : Nat) : Int)))))]) Fx.1 Fx.2.1 dX10_split_69 rfl hl (by decide) rfl (fun ls hl => ?_)
                refine lv_iload Fx.1 Fx.2.1 dX10_split_70 (lv_at hl 6 rfl) ?_
                refine lv_istore (lv' := [(4, .int (iI ((q 1 + ((j : Nat) : Int))))), (3, .int (iI ((q 1 + ((j : Nat) : Int))))), (2, .int (iI ((aFn q j + 1)))), (0, .ref (ad 0)), (1, .int (iI (z))), (5, .int (iI (aFb q j))), (6, .int (iI ((q 1 + ((j : Nat) : Int)))))]) Fx.1 Fx.2.1 dX10_split_72 hl (by decide) rfl (fun ls hl => ?_)
                refine lv_iload Fx.1 Fx.2.1 dX10_split_74 (lv_at hl 5 rfl) ?_
                refine k_iconst Fx dX10_split_76 ?_
                refine k_icmp_eq (a := aFb q j) (b := (-1)) (tgt := 95) Fx dX10_split_77 (by decide) (by omega) (by omega) (fun c_77 => ?_) (fun c_77 => ?_)
                · refine lv_iload Fx.1 Fx.2.1 dX10_split_95 (lv_at hl 6 rfl) ?_
                  refine lv_goto (tgt := 102) Fx.1 Fx.2.1 dX10_split_97 (by decide) ?_
                  refine lv_istore (lv' := [(5, .int (iI ((q 1 + ((j : Nat) : Int))))), (4, .int (iI ((q 1 + ((j : Nat) : Int))))), (3, .int (iI ((q 1 + ((j : Nat) : Int))))), (2, .int (iI ((aFn q j + 1)))), (0, .ref (ad 0)), (1, .int (iI (z))), (6, .int (iI ((q 1 + ((j : Nat) : Int)))))]) Fx.1 Fx.2.1 dX10_split_102 hl (by decide) rfl (fun ls hl => ?_)
                  refine k_iinc (k := 6) (a := (q 1 + ((j : Nat) : Int))) (lv' := [(6, .int (iI (((q 1 + ((j : Nat) : Int)) + 1)))), (5, .int (iI ((q 1 + ((j : Nat) : Int))))), (4, .int (iI ((q 1 + ((j : Nat) : Int))))), (3, .int (iI ((q 1 + ((j : Nat) : Int))))), (2, .int (iI ((aFn q j + 1)))), (0, .ref (ad 0)), (1, .int (iI (z)))]) Fx dX10_split_104 hl rfl (by decide) rfl (fun ls hl => ?_)
                  refine lv_goto (tgt := 34) Fx.1 Fx.2.1 dX10_split_107 (by decide) ?_
                  have hl_16 := lv_rp hl 4 rfl (show (iI ((aFn q j + 1))) = (iI (aFn q (j + 1))) from congrArg iI (show _ = aFn q (j + 1) from ((if_pos (by omega)).symm)))
                  have hl_17 := lv_rp hl_16 3 rfl (show (iI ((q 1 + ((j : Nat) : Int)))) = (iI (aFf q (j + 1))) from congrArg iI (show _ = aFf q (j + 1) from ((if_pos (by omega)).trans (if_pos (by omega))).symm))
                  have hl_18 := lv_rp hl_17 2 rfl (show (iI ((q 1 + ((j : Nat) : Int)))) = (iI (aFl q (j + 1))) from congrArg iI (show _ = aFl q (j + 1) from ((if_pos (by omega)).symm)))
                  have hl_19 := lv_rp hl_18 1 rfl (show (iI ((q 1 + ((j : Nat) : Int)))) = (iI (aFb q (j + 1))) from congrArg iI (show _ = aFb q (j + 1) from ((if_pos (by omega)).trans (if_pos (Or.inl (by omega)))).symm))
                  have hl_20 := lv_rp hl_19 0 rfl (show (iI (((q 1 + ((j : Nat) : Int)) + 1))) = (iI ((q 1 + (((j + 1) : Nat) : Int)))) from congrArg iI (by omega))
                  exact ih_34 (j + 1) (by omega) (by omega) _ _ _ X (lv_sub hl_20 [5, 6, 4, 3, 2, 1, 0] rfl)
                · refine lv_aload_n Fx.1 Fx.2.1 dX10_split_80 rfl (lv_at hl 3 rfl) ?_
                  refine lv_iload Fx.1 Fx.2.1 dX10_split_81 (lv_at hl 6 rfl) ?_
                  refine r_callVi (As := [.int (iI ((q 1 + ((j : Nat) : Int))))]) (rest := []) hE Fx X (c_X10_gain hE l hQ hq (t := (q 1 + ((j : Nat) : Int))) (by omega)) cV_X10_269 (recM X) rfl rfl (Nat.le_of_ble_eq_true rfl) (by decide) hl.1 dX10_split_83 (fun H locs X => ?_)
                  refine lv_aload_n Fx.1 Fx.2.1 dX10_split_86 rfl (lv_at hl 3 rfl) ?_
                  refine lv_iload Fx.1 Fx.2.1 dX10_split_87 (lv_at hl 5 rfl) ?_
                  refine r_callVi (As := [.int (iI (aFb q j))]) (rest := [.int (iI ((aG q ((q 1 + ((j : Nat) : Int))))))]) hE Fx X (c_X10_gain hE l hQ hq (t := aFb q j) (by omega)) cV_X10_269 (recM X) rfl rfl (Nat.le_of_ble_eq_true rfl) (by decide) hl.1 dX10_split_89 (fun H locs X => ?_)
                  have hg2 := aG_b hq (f := aFb q j) (by omega)
                  refine k_icmp_le (a := (aG q ((q 1 + ((j : Nat) : Int))))) (b := (aG q (aFb q j))) (tgt := 100) Fx dX10_split_92 (by decide) (by omega) (by omega) (fun c_92 => ?_) (fun c_92 => ?_)
                  · refine lv_iload Fx.1 Fx.2.1 dX10_split_100 (lv_at hl 5 rfl) ?_
                    refine lv_istore (lv' := [(5, .int (iI (aFb q j))), (4, .int (iI ((q 1 + ((j : Nat) : Int))))), (3, .int (iI ((q 1 + ((j : Nat) : Int))))), (2, .int (iI ((aFn q j + 1)))), (0, .ref (ad 0)), (1, .int (iI (z))), (6, .int (iI ((q 1 + ((j : Nat) : Int)))))]) Fx.1 Fx.2.1 dX10_split_102 hl (by decide) rfl (fun ls hl => ?_)
                    refine k_iinc (k := 6) (a := (q 1 + ((j : Nat) : Int))) (lv' := [(6, .int (iI (((q 1 + ((j : Nat) : Int)) + 1)))), (5, .int (iI (aFb q j))), (4, .int (iI ((q 1 + ((j : Nat) : Int))))), (3, .int (iI ((q 1 + ((j : Nat) : Int))))), (2, .int (iI ((aFn q j + 1)))), (0, .ref (ad 0)), (1, .int (iI (z)))]) Fx dX10_split_104 hl rfl (by decide) rfl (fun ls hl => ?_)
                    refine lv_goto (tgt := 34) Fx.1 Fx.2.1 dX10_split_107 (by decide) ?_
                    have hl_21 := lv_rp hl 4 rfl (show (iI ((aFn q j + 1))) = (iI (aFn q (j + 1))) from congrArg iI (show _ = aFn q (j + 1) from ((if_pos (by omega)).symm)))
                    have hl_22 := lv_rp hl_21 3 rfl (show (iI ((q 1 + ((j : Nat) : Int)))) = (iI (aFf q (j + 1))) from congrArg iI (show _ = aFf q (j + 1) from ((if_pos (by omega)).trans (if_pos (by omega))).symm))
                    have hl_23 := lv_rp hl_22 2 rfl (show (iI ((q 1 + ((j : Nat) : Int)))) = (iI (aFl q (j + 1))) from congrArg iI (show _ = aFl q (j + 1) from ((if_pos (by omega)).symm)))
                    have hl_24 := lv_rp hl_23 1 rfl (show (iI (aFb q j)) = (iI (aFb q (j + 1))) from congrArg iI (show _ = aFb q (j + 1) from ((if_pos (by omega)).trans (if_neg (by omega))).symm))
                    have hl_25 := lv_rp hl_24 0 rfl (show (iI (((q 1 + ((j : Nat) : Int)) + 1))) = (iI ((q 1 + (((j + 1) : Nat) : Int)))) from congrArg iI (by omega))
                    exact ih_34 (j + 1) (by omega) (by omega) _ _ _ X (lv_sub hl_25 [5, 6, 4, 3, 2, 1, 0] rfl)
                  · refine lv_iload Fx.1 Fx.2.1 dX10_split_95 (lv_at hl 6 rfl) ?_
                    refine lv_goto (tgt := 102) Fx.1 Fx.2.1 dX10_split_97 (by decide) ?_
                    refine lv_istore (lv' := [(5, .int (iI ((q 1 + ((j : Nat) : Int))))), (4, .int (iI ((q 1 + ((j : Nat) : Int))))), (3, .int (iI ((q 1 + ((j : Nat) : Int))))), (2, .int (iI ((aFn q j + 1)))), (0, .ref (ad 0)), (1, .int (iI (z))), (6, .int (iI ((q 1 + ((j : Nat) : Int)))))]) Fx.1 Fx.2.1 dX10_split_102 hl (by decide) rfl (fun ls hl => ?_)
                    refine k_iinc (k := 6) (a := (q 1 + ((j : Nat) : Int))) (lv' := [(6, .int (iI (((q 1 + ((j : Nat) : Int)) + 1)))), (5, .int (iI ((q 1 + ((j : Nat) : Int))))), (4, .int (iI ((q 1 + ((j : Nat) : Int))))), (3, .int (iI ((q 1 + ((j : Nat) : Int))))), (2, .int (iI ((aFn q j + 1)))), (0, .ref (ad 0)), (1, .int (iI (z)))]) Fx dX10_split_104 hl rfl (by decide) rfl (fun ls hl => ?_)
                    refine lv_goto (tgt := 34) Fx.1 Fx.2.1 dX10_split_107 (by decide) ?_
                    have hl_26 := lv_rp hl 4 rfl (show (iI ((aFn q j + 1))) = (iI (aFn q (j + 1))) from congrArg iI (show _ = aFn q (j + 1) from ((if_pos (by omega)).symm)))
                    have hl_27 := lv_rp hl_26 3 rfl (show (iI ((q 1 + ((j : Nat) : Int)))) = (iI (aFf q (j + 1))) from congrArg iI (show _ = aFf q (j + 1) from ((if_pos (by omega)).trans (if_pos (by omega))).symm))
                    have hl_28 := lv_rp hl_27 2 rfl (show (iI ((q 1 + ((j : Nat) : Int)))) = (iI (aFl q (j + 1))) from congrArg iI (show _ = aFl q (j + 1) from ((if_pos (by omega)).symm)))
                    have hl_29 := lv_rp hl_28 1 rfl (show (iI ((q 1 + ((j : Nat) : Int)))) = (iI (aFb q (j + 1))) from congrArg iI (show _ = aFb q (j + 1) from ((if_pos (by omega)).trans (if_pos (Or.inr (by omega)))).symm))
                    have hl_30 := lv_rp hl_29 0 rfl (show (iI (((q 1 + ((j : Nat) : Int)) + 1))) = (iI ((q 1 + (((j + 1) : Nat) : Int)))) from congrArg iI (by omega))
                    exact ih_34 (j + 1) (by omega) (by omega) _ _ _ X (lv_sub hl_30 [5, 6, 4, 3, 2, 1, 0] rfl)
            · refine lv_goto (tgt := 104) Fx.1 Fx.2.1 dX10_split_52 (by decide) ?_
              refine k_iinc (k := 6) (a := (q 1 + ((j : Nat) : Int))) (lv' := [(6, .int (iI (((q 1 + ((j : Nat) : Int)) + 1)))), (0, .ref (ad 0)), (1, .int (iI (z))), (2, .int (iI (aFn q j))), (3, .int (iI (aFf q j))), (4, .int (iI (aFl q j))), (5, .int (iI (aFb q j)))]) Fx dX10_split_104 hl rfl (by decide) rfl (fun ls hl => ?_)
              refine lv_goto (tgt := 34) Fx.1 Fx.2.1 dX10_split_107 (by decide) ?_
              have hl_31 := lv_rp hl 3 rfl (show (iI (aFn q j)) = (iI (aFn q (j + 1))) from congrArg iI (show aFn q j = aFn q (j + 1) from (if_neg (by omega)).symm))
              have hl_32 := lv_rp hl_31 4 rfl (show (iI (aFf q j)) = (iI (aFf q (j + 1))) from congrArg iI (show aFf q j = aFf q (j + 1) from (if_neg (by omega)).symm))
              have hl_33 := lv_rp hl_32 5 rfl (show (iI (aFl q j)) = (iI (aFl q (j + 1))) from congrArg iI (show aFl q j = aFl q (j + 1) from (if_neg (by omega)).symm))
              have hl_34 := lv_rp hl_33 6 rfl (show (iI (aFb q j)) = (iI (aFb q (j + 1))) from congrArg iI (show aFb q j = aFb q (j + 1) from (if_neg (by omega)).symm))
              have hl_35 := lv_rp hl_34 0 rfl (show (iI (((q 1 + ((j : Nat) : Int)) + 1))) = (iI ((q 1 + (((j + 1) : Nat) : Int)))) from congrArg iI (by omega))
              exact ih_34 (j + 1) (by omega) (by omega) _ _ _ X (lv_sub hl_35 [1, 2, 3, 4, 5, 6, 0] rfl)
      have hl_36 := lv_rp hl 4 rfl (show (iI (0)) = (iI (aFn q 0)) from rfl)
      have hl_37 := lv_rp hl_36 3 rfl (show (iI ((-1))) = (iI (aFf q 0)) from rfl)
      have hl_38 := lv_rp hl_37 2 rfl (show (iI ((-1))) = (iI (aFl q 0)) from rfl)
      have hl_39 := lv_rp hl_38 1 rfl (show (iI ((-1))) = (iI (aFb q 0)) from rfl)
      have hl_40 := lv_rp hl_39 0 rfl (show (iI (q 1)) = (iI ((q 1 + ((0 : Nat) : Int)))) from congrArg iI (by omega))
      exact lp_34 _ (0) (Nat.lt_succ_self _) (by omega) _ _ _ X (lv_sub hl_40 [5, 6, 4, 3, 2, 1, 0] rfl)
    · refine k_iconst Fx dX10_split_16 ?_
      exact r_iret Fx hr hlk X (by decide) dX10_split_17 (Qi_mk (congrArg iI (by unfold aSpl; rw [if_neg (fun h => by omega)])))

