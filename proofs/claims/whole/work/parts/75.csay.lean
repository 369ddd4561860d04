abbrev rm_X9_say : Room := ({ frames := 7, cells := 2, slots := 22, locals := 231 } : Room)
set_option maxHeartbeats 4000000 in
set_option maxRecDepth 100000 in
theorem c_X9_say {E : XX} (hE : XS E) (l : Launch) {Γ : GG} {κ : KK} (hN : EN E κ) {ad : Nat → Nat} {ed cap n : Nat} {sa : Nat → Nat} {S : Nat → Nat → Nat} {f g : Nat → Nat → Int32} (hn9 : f 1 2 = iI n) (hc : CapO cap n) (hed : cap = 0 → ed = κ.2.2.1) (hB : SayB n S) {k a b lo hi y d : Int} (hk : -2147483648 ≤ k ∧ k < 2147483648) (ha : -2147483648 ≤ a ∧ a < 2147483648) (hb : -2147483648 ≤ b ∧ b < 2147483648) (hlo : -2147483648 ≤ lo ∧ lo < 2147483648) (hhi : -2147483648 ≤ hi ∧ hi < 2147483648) (hy : -2147483648 ≤ y ∧ y < 2147483648) (hd : -2147483648 ≤ d ∧ d < 2147483648) : Con E l yX9_say cX9_say 9 (some .int) rm_X9_say Γ (wC Γ ad ed f g (tS Γ ed cap sa S n)) [.ref (ad 0), .int (iI (k)), .int (iI (a)), .int (iI (b)), .int (iI (lo)), .int (iI (hi)), .int (iI (y)), .int (iI (d))] (fun v w2 => ((aOk k a b lo hi y d ∧ n < 12) ∧ v = some (.int (iI (n : Nat))) ∧ ∃ ed2 cap2 sa2 f1, w2 = wC Γ ad ed2 f1 g (tS Γ ed2 cap2 sa2 (sPut S n k a b lo hi y d) (n + 1)) ∧ CapO cap2 (n + 1) ∧ f1 1 2 = iI ((n + 1 : Nat) : Int) ∧ f1 0 10 = bI False ∧ (∀ o j, o ≠ 1 → ¬ (o = 0 ∧ j = 10) → f1 o j = f o j)) ∨ (¬ (aOk k a b lo hi y d ∧ n < 12) ∧ v = some (.int (iI (-1))) ∧ w2 = wC Γ ad ed f g (tS Γ ed cap sa S n))) := by
  refine Con_mk (by decide) (Nat.le_of_ble_eq_true rfl) ?_
  intro p e s₀ m args below meth c A Fx hr hlk hnm X ls hl
  have hl : lv_has ls 9 [(0, .ref (ad 0)), (1, .int (iI (k))), (2, .int (iI (a))), (3, .int (iI (b))), (4, .int (iI (lo))), (5, .int (iI (hi))), (6, .int (iI (y))), (7, .int (iI (d)))] := hl
  have hB1 := hB.1
  have hcap : n ≤ cap ∧ cap < 1000 := ⟨hc.2, by have := hc.1; omega⟩
  refine lv_iload_n Fx.1 Fx.2.1 dX9_say_0 rfl (lv_at hl 1 rfl) ?_
  refine k_bipush Fx dX9_say_1 (by decide) ?_
  refine r_callSi (As := [.int (iI (k)), .int (iI (6))]) (rest := []) hE Fx X (c_X9_below hE l (a := k) (b := 6) (by omega) (by omega)) cS_X9_83 rfl rfl (Nat.le_of_ble_eq_true rfl) (by decide) hl.1 dX9_say_3 (fun H locs X => ?_)
  refine k_bif_eq (tgt := 55) Fx dX9_say_6 (by decide) (fun c_6 => ?_) (fun c_6 => ?_)
  · refine k_iconst Fx dX9_say_55 ?_
    refine lv_istore (lv' := [(8, .int (iI (0))), (0, .ref (ad 0)), (1, .int (iI (k))), (2, .int (iI (a))), (3, .int (iI (b))), (4, .int (iI (lo))), (5, .int (iI (hi))), (6, .int (iI (y))), (7, .int (iI (d)))]) Fx.1 Fx.2.1 dX9_say_56 hl (by decide) rfl (fun ls hl => ?_)
    refine lv_iload Fx.1 Fx.2.1 dX9_say_58 (lv_at hl 0 rfl) ?_
    refine k_if_eq (a := 0) (tgt := 75) Fx dX9_say_60 (by decide) (by omega) (fun c_60 => ?_) (fun c_60 => ?_)
    rotate_left
    · exact absurd c_60 (by omega)
    refine k_iconst Fx dX9_say_75 ?_
    exact r_iret Fx hr hlk X (by decide) dX9_say_76 (Or.inr ⟨by unfold aOk; omega, rfl, rfl⟩)
  · refine lv_iload_n Fx.1 Fx.2.1 dX9_say_9 rfl (lv_at hl 2 rfl) ?_
    refine lv_iload_n Fx.1 Fx.2.1 dX9_say_10 rfl (lv_at hl 3 rfl) ?_
    refine k_bipush Fx dX9_say_11 (by decide) ?_
    refine r_callSi (As := [.int (iI (a)), .int (iI (b)), .int (iI (10))]) (rest := []) hE Fx X (c_X9_isStretch hE l (a := a) (b := b) (b2 := 10) (by omega) (by omega) (by omega)) cS_X9_87 rfl rfl (Nat.le_of_ble_eq_true rfl) (by decide) hl.1 dX9_say_13 (fun H locs X => ?_)
    refine k_bif_eq (tgt := 55) Fx dX9_say_16 (by decide) (fun c_16 => ?_) (fun c_16 => ?_)
    · refine k_iconst Fx dX9_say_55 ?_
      refine lv_istore (lv' := [(8, .int (iI (0))), (0, .ref (ad 0)), (1, .int (iI (k))), (2, .int (iI (a))), (3, .int (iI (b))), (4, .int (iI (lo))), (5, .int (iI (hi))), (6, .int (iI (y))), (7, .int (iI (d)))]) Fx.1 Fx.2.1 dX9_say_56 hl (by decide) rfl (fun ls hl => ?_)
      refine lv_iload Fx.1 Fx.2.1 dX9_say_58 (lv_at hl 0 rfl) ?_
      refine k_if_eq (a := 0) (tgt := 75) Fx dX9_say_60 (by decide) (by omega) (fun c_60 => ?_) (fun c_60 => ?_)
      rotate_left
      · exact absurd c_60 (by omega)
      refine k_iconst Fx dX9_say_75 ?_
      exact r_iret Fx hr hlk X (by decide) dX9_say_76 (Or.inr ⟨by unfold aOk; omega, rfl, rfl⟩)
    · refine lv_iload Fx.1 Fx.2.1 dX9_say_19 (lv_at hl 4 rfl) ?_
      refine lv_iload Fx.1 Fx.2.1 dX9_say_21 (lv_at hl 5 rfl) ?_
      refine k_bipush Fx dX9_say_23 (by decide) ?_
      refine r_callSi (As := [.int (iI (lo)), .int (iI (hi)), .int (iI (80))]) (rest := []) hE Fx X (c_X9_isStretch hE l (a := lo) (b := hi) (b2 := 80) (by omega) (by omega) (by omega)) cS_X9_87 rfl rfl (Nat.le_of_ble_eq_true rfl) (by decide) hl.1 dX9_say_25 (fun H locs X => ?_)
      refine k_bif_eq (tgt := 55) Fx dX9_say_28 (by decide) (fun c_28 => ?_) (fun c_28 => ?_)
      · refine k_iconst Fx dX9_say_55 ?_
        refine lv_istore (lv' := [(8, .int (iI (0))), (0, .ref (ad 0)), (1, .int (iI (k))), (2, .int (iI (a))), (3, .int (iI (b))), (4, .int (iI (lo))), (5, .int (iI (hi))), (6, .int (iI (y))), (7, .int (iI (d)))]) Fx.1 Fx.2.1 dX9_say_56 hl (by decide) rfl (fun ls hl => ?_)
        refine lv_iload Fx.1 Fx.2.1 dX9_say_58 (lv_at hl 0 rfl) ?_
        refine k_if_eq (a := 0) (tgt := 75) Fx dX9_say_60 (by decide) (by omega) (fun c_60 => ?_) (fun c_60 => ?_)
        rotate_left
        · exact absurd c_60 (by omega)
        refine k_iconst Fx dX9_say_75 ?_
        exact r_iret Fx hr hlk X (by decide) dX9_say_76 (Or.inr ⟨by unfold aOk; omega, rfl, rfl⟩)
      · refine lv_iload Fx.1 Fx.2.1 dX9_say_31 (lv_at hl 6 rfl) ?_
        refine k_sipush Fx dX9_say_33 (by decide) ?_
        refine r_callSi (As := [.int (iI (y)), .int (iI (1000))]) (rest := []) hE Fx X (c_X9_below hE l (a := y) (b := 1000) (by omega) (by omega)) cS_X9_83 rfl rfl (Nat.le_of_ble_eq_true rfl) (by decide) hl.1 dX9_say_36 (fun H locs X => ?_)
        refine k_bif_eq (tgt := 55) Fx dX9_say_39 (by decide) (fun c_39 => ?_) (fun c_39 => ?_)
        · refine k_iconst Fx dX9_say_55 ?_
          refine lv_istore (lv' := [(8, .int (iI (0))), (0, .ref (ad 0)), (1, .int (iI (k))), (2, .int (iI (a))), (3, .int (iI (b))), (4, .int (iI (lo))), (5, .int (iI (hi))), (6, .int (iI (y))), (7, .int (iI (d)))]) Fx.1 Fx.2.1 dX9_say_56 hl (by decide) rfl (fun ls hl => ?_)
          refine lv_iload Fx.1 Fx.2.1 dX9_say_58 (lv_at hl 0 rfl) ?_
          refine k_if_eq (a := 0) (tgt := 75) Fx dX9_say_60 (by decide) (by omega) (fun c_60 => ?_) (fun c_60 => ?_)
          rotate_left
          · exact absurd c_60 (by omega)
          refine k_iconst Fx dX9_say_75 ?_
          exact r_iret Fx hr hlk X (by decide) dX9_say_76 (Or.inr ⟨by unfold aOk; omega, rfl, rfl⟩)
        · refine lv_iload Fx.1 Fx.2.1 dX9_say_42 (lv_at hl 7 rfl) ?_
          refine k_iconst Fx dX9_say_44 ?_
          refine r_callSi (As := [.int (iI (d)), .int (iI (2))]) (rest := []) hE Fx X (c_X9_below hE l (a := d) (b := 2) (by omega) (by omega)) cS_X9_83 rfl rfl (Nat.le_of_ble_eq_true rfl) (by decide) hl.1 dX9_say_45 (fun H locs X => ?_)
          refine k_bif_eq (tgt := 55) Fx dX9_say_48 (by decide) (fun c_48 => ?_) (fun c_48 => ?_)
          · refine k_iconst Fx dX9_say_55 ?_
            refine lv_istore (lv' := [(8, .int (iI (0))), (0, .ref (ad 0)), (1, .int (iI (k))), (2, .int (iI (a))), (3, .int (iI (b))), (4, .int (iI (lo))), (5, .int (iI (hi))), (6, .int (iI (y))), (7, .int (iI (d)))]) Fx.1 Fx.2.1 dX9_say_56 hl (by decide) rfl (fun ls hl => ?_)
            refine lv_iload Fx.1 Fx.2.1 dX9_say_58 (lv_at hl 0 rfl) ?_
            refine k_if_eq (a := 0) (tgt := 75) Fx dX9_say_60 (by decide) (by omega) (fun c_60 => ?_) (fun c_60 => ?_)
            rotate_left
            · exact absurd c_60 (by omega)
            refine k_iconst Fx dX9_say_75 ?_
            exact r_iret Fx hr hlk X (by decide) dX9_say_76 (Or.inr ⟨by unfold aOk; omega, rfl, rfl⟩)
          · refine k_iconst Fx dX9_say_51 ?_
            refine lv_goto (tgt := 56) Fx.1 Fx.2.1 dX9_say_52 (by decide) ?_
            refine lv_istore (lv' := [(8, .int (iI (1))), (0, .ref (ad 0)), (1, .int (iI (k))), (2, .int (iI (a))), (3, .int (iI (b))), (4, .int (iI (lo))), (5, .int (iI (hi))), (6, .int (iI (y))), (7, .int (iI (d)))]) Fx.1 Fx.2.1 dX9_say_56 hl (by decide) rfl (fun ls hl => ?_)
            refine lv_iload Fx.1 Fx.2.1 dX9_say_58 (lv_at hl 0 rfl) ?_
            refine k_if_eq (a := 1) (tgt := 75) Fx dX9_say_60 (by decide) (by omega) (fun c_60 => ?_) (fun c_60 => ?_)
            · exact absurd c_60 (by omega)
            refine lv_aload_n Fx.1 Fx.2.1 dX9_say_63 rfl (lv_at hl 1 rfl) ?_
            refine gC_X9_10_0 Fx X dX9_say_64 ?_
            refine r_callVi (As := []) (rest := []) hE Fx X (c_Jx4a65c_size_8abf5 hE l (by exact hn9) hcap hB) cV_X9_91 (recC_1 X) rfl rfl (Nat.le_of_ble_eq_true rfl) (by decide) hl.1 dX9_say_67 (fun H locs X => ?_)
            refine k_bipush Fx dX9_say_70 (by decide) ?_
            refine k_icmp_lt (a := ((n : Nat) : Int)) (b := 12) (tgt := 77) Fx dX9_say_72 (by decide) (by omega) (by omega) (fun c_72 => ?_) (fun c_72 => ?_)
            · refine lv_aload_n Fx.1 Fx.2.1 dX9_say_77 rfl (lv_at hl 1 rfl) ?_
              refine gC_X9_10_0 Fx X dX9_say_78 ?_
              refine r_new_X6 Fx X (by decide) (by decide) dX9_say_81 (fun q_1 H X => ?_)
              refine lv_dup Fx.1 Fx.2.1 dX9_say_84 rfl ?_
              refine lv_iload_n Fx.1 Fx.2.1 dX9_say_85 rfl (lv_at hl 2 rfl) ?_
              refine lv_iload_n Fx.1 Fx.2.1 dX9_say_86 rfl (lv_at hl 3 rfl) ?_
              refine lv_iload_n Fx.1 Fx.2.1 dX9_say_87 rfl (lv_at hl 4 rfl) ?_
              refine lv_iload Fx.1 Fx.2.1 dX9_say_88 (lv_at hl 5 rfl) ?_
              refine lv_iload Fx.1 Fx.2.1 dX9_say_90 (lv_at hl 6 rfl) ?_
              refine lv_iload Fx.1 Fx.2.1 dX9_say_92 (lv_at hl 7 rfl) ?_
              refine lv_iload Fx.1 Fx.2.1 dX9_say_94 (lv_at hl 8 rfl) ?_
              refine r_callI (As := [.int (iI (k)), .int (iI (a)), .int (iI (b)), .int (iI (lo)), .int (iI (hi)), .int (iI (y)), .int (iI (d))]) (rest := [.ref (q_1), .ref (ad 1)]) hE Fx X (c_X6_init hE l (w := (wC Γ ad ed f g (tS Γ ed cap sa S n))) (o := q_1)) cI_X9_97 rfl rfl (Nat.le_of_ble_eq_true rfl) (by decide) hl.1 dX9_say_96 (fun v9 w9 H locs hq X => ?_)
              obtain ⟨rfl, rfl⟩ := hq
              have hok : aOk k a b lo hi y d := by unfold aOk; omega
              have X := Wd.to X (tT_push hok)
              obtain ⟨sa2, hsa2, hsaq⟩ : ∃ sa2, sa2 = saN sa n q_1 ∧ sa2 n = q_1 := ⟨_, rfl, if_pos rfl⟩
              rw [← hsa2] at X
              clear hsa2
              have X9 := X
              subst hsaq
              have X := X9
              refine r_callV (As := [.ref (sa2 n)]) (rest := []) hE Fx X (c_Jx4a65c_add_9ea2d hE l hN hc hed (by omega) (by exact hn9)) cV_X9_100 (recC_1 X) rfl rfl (Nat.le_of_ble_eq_true rfl) (by decide) hl.1 dX9_say_99 (fun v9 w9 H locs hq X => ?_)
              obtain ⟨rfl, ed_2, cap_3, f_4, rfl, hc2, hn2, hf2⟩ := hq
              have X : Wd E Γ A s₀ H locs (wC Γ ad ed_2 f_4 g (tS Γ ed_2 cap_3 sa2 (sPut S n k a b lo hi y d) (n + 1))) := X
              refine lv_pop Fx.1 Fx.2.1 dX9_say_102 rfl ?_
              refine lv_aload_n Fx.1 Fx.2.1 dX9_say_103 rfl (lv_at hl 1 rfl) ?_
              refine k_iconst Fx dX9_say_104 ?_
              refine pC_X9_79_0 Fx X rfl rfl dX9_say_105 (fun H locs X => ?_)
              refine lv_aload_n Fx.1 Fx.2.1 dX9_say_108 rfl (lv_at hl 1 rfl) ?_
              refine gC_X9_10_0 Fx X dX9_say_109 ?_
              refine r_callVi (As := []) (rest := []) hE Fx X (c_Jx4a65c_size_8abf5 hE l (n := n + 1) (by exact hn2) ⟨hc2.2, by have := hc2.1; omega⟩ (sPut_B hB (by omega) hok)) cV_X9_91 (recC_1 X) rfl rfl (Nat.le_of_ble_eq_true rfl) (by decide) hl.1 dX9_say_112 (fun H locs X => ?_)
              refine k_iconst Fx dX9_say_115 ?_
              refine k_isub Fx dX9_say_116 ?_
              exact r_iret Fx hr hlk X (by decide) dX9_say_117 (Or.inl ⟨⟨hok, by omega⟩, congrArg (fun z9 : Int => some (Value.int (iI z9))) (by omega), _, _, _, _, rfl, hc2, hn2, bI_0 (fun h => h), fun o j h1 h2 => (frF h2).trans (hf2 o j h1)⟩)
            · refine k_iconst Fx dX9_say_75 ?_
              exact r_iret Fx hr hlk X (by decide) dX9_say_76 (Or.inr ⟨by unfold aOk; omega, rfl, rfl⟩)

