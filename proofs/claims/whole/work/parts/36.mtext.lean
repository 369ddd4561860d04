theorem kl_X10_114 : Cond.constantLong RX10 114 (512802514792) ∈ BG := by decide +kernel
theorem kl_X10_116 : Cond.constantLong RX10 116 (499968536439) ∈ BG := by decide +kernel
theorem kl_X10_118 : Cond.constantLong RX10 118 (1752132708) ∈ BG := by decide +kernel
theorem kl_X10_120 : Cond.constantLong RX10 120 (1650814564) ∈ BG := by decide +kernel
theorem kl_X10_122 : Cond.constantLong RX10 122 (474148726130) ∈ BG := by decide +kernel
theorem kl_X10_124 : Cond.constantLong RX10 124 (1684366692) ∈ BG := by decide +kernel
theorem kl_X10_126 : Cond.constantLong RX10 126 (7168368) ∈ BG := by decide +kernel
theorem kl_X10_128 : Cond.constantLong RX10 128 (431265964904) ∈ BG := by decide +kernel
theorem kl_X10_130 : Cond.constantLong RX10 130 (1886352244) ∈ BG := by decide +kernel
theorem kl_X10_132 : Cond.constantLong RX10 132 (2003792484) ∈ BG := by decide +kernel
theorem kl_X10_134 : Cond.constantLong RX10 134 (126948268729721) ∈ BG := by decide +kernel
abbrev rm_X10_word : Room := ({ frames := 0, cells := 0, slots := 0, locals := 0 } : Room)
set_option maxHeartbeats 4000000 in
set_option maxRecDepth 100000 in
theorem c_X10_word {E : XX} (hE : XS E) (l : Launch) {Γ : GG} {w : va_W} {x : Int64} : Con E l yX10_word cX10_word 2 (some .int) rm_X10_word Γ w [.long (x)] (Qi (iI (wdT x)) w) := by
  refine Con_mk (by decide) (Nat.le_of_ble_eq_true rfl) ?_
  intro p e s₀ m args below meth c A Fx hr hlk hnm X ls hl
  have hl : lv_has ls 2 [(0, .long (x))] := hl
  refine lv_lload_n Fx.1 Fx.2.1 dX10_word_0 rfl (lv_at hl 0 rfl) ?_
  refine lv_ldc2 (v := 512802514792) Fx.1 Fx.2.1 Fx.2.2.2.1 (Fx.2.2.2.2 _ kl_X10_114) dX10_word_1 ?_
  refine W.lcmp Fx.1 Fx.2.1 dX10_word_4 ?_
  refine lv_if_ne (tgt := 10) Fx.1 Fx.2.1 dX10_word_5 (by decide) (fun c_5 => ?_) (fun c_5 => ?_)
  · refine lv_lload_n Fx.1 Fx.2.1 dX10_word_10 rfl (lv_at hl 0 rfl) ?_
    refine lv_ldc2 (v := 499968536439) Fx.1 Fx.2.1 Fx.2.2.2.1 (Fx.2.2.2.2 _ kl_X10_116) dX10_word_11 ?_
    refine W.lcmp Fx.1 Fx.2.1 dX10_word_14 ?_
    refine lv_if_ne (tgt := 20) Fx.1 Fx.2.1 dX10_word_15 (by decide) (fun c_15 => ?_) (fun c_15 => ?_)
    · refine lv_lload_n Fx.1 Fx.2.1 dX10_word_20 rfl (lv_at hl 0 rfl) ?_
      refine lv_ldc2 (v := 1752132708) Fx.1 Fx.2.1 Fx.2.2.2.1 (Fx.2.2.2.2 _ kl_X10_118) dX10_word_21 ?_
      refine W.lcmp Fx.1 Fx.2.1 dX10_word_24 ?_
      refine lv_if_ne (tgt := 30) Fx.1 Fx.2.1 dX10_word_25 (by decide) (fun c_25 => ?_) (fun c_25 => ?_)
      · refine lv_lload_n Fx.1 Fx.2.1 dX10_word_30 rfl (lv_at hl 0 rfl) ?_
        refine lv_ldc2 (v := 1650814564) Fx.1 Fx.2.1 Fx.2.2.2.1 (Fx.2.2.2.2 _ kl_X10_120) dX10_word_31 ?_
        refine W.lcmp Fx.1 Fx.2.1 dX10_word_34 ?_
        refine lv_if_ne (tgt := 41) Fx.1 Fx.2.1 dX10_word_35 (by decide) (fun c_35 => ?_) (fun c_35 => ?_)
        · refine lv_lload_n Fx.1 Fx.2.1 dX10_word_41 rfl (lv_at hl 0 rfl) ?_
          refine lv_ldc2 (v := 474148726130) Fx.1 Fx.2.1 Fx.2.2.2.1 (Fx.2.2.2.2 _ kl_X10_122) dX10_word_42 ?_
          refine W.lcmp Fx.1 Fx.2.1 dX10_word_45 ?_
          refine lv_if_ne (tgt := 52) Fx.1 Fx.2.1 dX10_word_46 (by decide) (fun c_46 => ?_) (fun c_46 => ?_)
          · refine lv_lload_n Fx.1 Fx.2.1 dX10_word_52 rfl (lv_at hl 0 rfl) ?_
            refine lv_ldc2 (v := 1684366692) Fx.1 Fx.2.1 Fx.2.2.2.1 (Fx.2.2.2.2 _ kl_X10_124) dX10_word_53 ?_
            refine W.lcmp Fx.1 Fx.2.1 dX10_word_56 ?_
            refine lv_if_ne (tgt := 64) Fx.1 Fx.2.1 dX10_word_57 (by decide) (fun c_57 => ?_) (fun c_57 => ?_)
            · refine lv_lload_n Fx.1 Fx.2.1 dX10_word_64 rfl (lv_at hl 0 rfl) ?_
              refine lv_ldc2 (v := 7168368) Fx.1 Fx.2.1 Fx.2.2.2.1 (Fx.2.2.2.2 _ kl_X10_126) dX10_word_65 ?_
              refine W.lcmp Fx.1 Fx.2.1 dX10_word_68 ?_
              refine lv_if_ne (tgt := 76) Fx.1 Fx.2.1 dX10_word_69 (by decide) (fun c_69 => ?_) (fun c_69 => ?_)
              · refine lv_lload_n Fx.1 Fx.2.1 dX10_word_76 rfl (lv_at hl 0 rfl) ?_
                refine lv_ldc2 (v := 431265964904) Fx.1 Fx.2.1 Fx.2.2.2.1 (Fx.2.2.2.2 _ kl_X10_128) dX10_word_77 ?_
                refine W.lcmp Fx.1 Fx.2.1 dX10_word_80 ?_
                refine lv_if_ne (tgt := 88) Fx.1 Fx.2.1 dX10_word_81 (by decide) (fun c_81 => ?_) (fun c_81 => ?_)
                · refine lv_lload_n Fx.1 Fx.2.1 dX10_word_88 rfl (lv_at hl 0 rfl) ?_
                  refine lv_ldc2 (v := 1886352244) Fx.1 Fx.2.1 Fx.2.2.2.1 (Fx.2.2.2.2 _ kl_X10_130) dX10_word_89 ?_
                  refine W.lcmp Fx.1 Fx.2.1 dX10_word_92 ?_
                  refine lv_if_ne (tgt := 100) Fx.1 Fx.2.1 dX10_word_93 (by decide) (fun c_93 => ?_) (fun c_93 => ?_)
                  · refine lv_lload_n Fx.1 Fx.2.1 dX10_word_100 rfl (lv_at hl 0 rfl) ?_
                    refine lv_ldc2 (v := 2003792484) Fx.1 Fx.2.1 Fx.2.2.2.1 (Fx.2.2.2.2 _ kl_X10_132) dX10_word_101 ?_
                    refine W.lcmp Fx.1 Fx.2.1 dX10_word_104 ?_
                    refine lv_if_ne (tgt := 112) Fx.1 Fx.2.1 dX10_word_105 (by decide) (fun c_105 => ?_) (fun c_105 => ?_)
                    · refine lv_lload_n Fx.1 Fx.2.1 dX10_word_112 rfl (lv_at hl 0 rfl) ?_
                      refine lv_ldc2 (v := 126948268729721) Fx.1 Fx.2.1 Fx.2.2.2.1 (Fx.2.2.2.2 _ kl_X10_134) dX10_word_113 ?_
                      refine W.lcmp Fx.1 Fx.2.1 dX10_word_116 ?_
                      refine lv_if_ne (tgt := 126) Fx.1 Fx.2.1 dX10_word_117 (by decide) (fun c_117 => ?_) (fun c_117 => ?_)
                      · refine k_iconst Fx dX10_word_126 ?_
                        exact r_iret Fx hr hlk X (by decide) dX10_word_127 (Qi_mk (congrArg iI (by unfold wdT; rw [if_neg (fun z => c_5 (lcmp_z.mpr z)), if_neg (fun z => c_15 (lcmp_z.mpr z)), if_neg (fun z => c_25 (lcmp_z.mpr z)), if_neg (fun z => c_35 (lcmp_z.mpr z)), if_neg (fun z => c_46 (lcmp_z.mpr z)), if_neg (fun z => c_57 (lcmp_z.mpr z)), if_neg (fun z => c_69 (lcmp_z.mpr z)), if_neg (fun z => c_81 (lcmp_z.mpr z)), if_neg (fun z => c_93 (lcmp_z.mpr z)), if_neg (fun z => c_105 (lcmp_z.mpr z)), if_neg (fun z => c_117 (lcmp_z.mpr z))])))
                      · refine k_sipush Fx dX10_word_120 (by decide) ?_
                        refine lv_goto (tgt := 127) Fx.1 Fx.2.1 dX10_word_123 (by decide) ?_
                        exact r_iret Fx hr hlk X (by decide) dX10_word_127 (Qi_mk (congrArg iI (by unfold wdT; rw [if_neg (fun z => c_5 (lcmp_z.mpr z)), if_neg (fun z => c_15 (lcmp_z.mpr z)), if_neg (fun z => c_25 (lcmp_z.mpr z)), if_neg (fun z => c_35 (lcmp_z.mpr z)), if_neg (fun z => c_46 (lcmp_z.mpr z)), if_neg (fun z => c_57 (lcmp_z.mpr z)), if_neg (fun z => c_69 (lcmp_z.mpr z)), if_neg (fun z => c_81 (lcmp_z.mpr z)), if_neg (fun z => c_93 (lcmp_z.mpr z)), if_neg (fun z => c_105 (lcmp_z.mpr z)), if_pos (lcmp_z.mp c_117)])))
                    · refine k_sipush Fx dX10_word_108 (by decide) ?_
                      exact r_iret Fx hr hlk X (by decide) dX10_word_111 (Qi_mk (congrArg iI (by unfold wdT; rw [if_neg (fun z => c_5 (lcmp_z.mpr z)), if_neg (fun z => c_15 (lcmp_z.mpr z)), if_neg (fun z => c_25 (lcmp_z.mpr z)), if_neg (fun z => c_35 (lcmp_z.mpr z)), if_neg (fun z => c_46 (lcmp_z.mpr z)), if_neg (fun z => c_57 (lcmp_z.mpr z)), if_neg (fun z => c_69 (lcmp_z.mpr z)), if_neg (fun z => c_81 (lcmp_z.mpr z)), if_neg (fun z => c_93 (lcmp_z.mpr z)), if_pos (lcmp_z.mp c_105)])))
                  · refine k_sipush Fx dX10_word_96 (by decide) ?_
                    exact r_iret Fx hr hlk X (by decide) dX10_word_99 (Qi_mk (congrArg iI (by unfold wdT; rw [if_neg (fun z => c_5 (lcmp_z.mpr z)), if_neg (fun z => c_15 (lcmp_z.mpr z)), if_neg (fun z => c_25 (lcmp_z.mpr z)), if_neg (fun z => c_35 (lcmp_z.mpr z)), if_neg (fun z => c_46 (lcmp_z.mpr z)), if_neg (fun z => c_57 (lcmp_z.mpr z)), if_neg (fun z => c_69 (lcmp_z.mpr z)), if_neg (fun z => c_81 (lcmp_z.mpr z)), if_pos (lcmp_z.mp c_93)])))
                · refine k_sipush Fx dX10_word_84 (by decide) ?_
                  exact r_iret Fx hr hlk X (by decide) dX10_word_87 (Qi_mk (congrArg iI (by unfold wdT; rw [if_neg (fun z => c_5 (lcmp_z.mpr z)), if_neg (fun z => c_15 (lcmp_z.mpr z)), if_neg (fun z => c_25 (lcmp_z.mpr z)), if_neg (fun z => c_35 (lcmp_z.mpr z)), if_neg (fun z => c_46 (lcmp_z.mpr z)), if_neg (fun z => c_57 (lcmp_z.mpr z)), if_neg (fun z => c_69 (lcmp_z.mpr z)), if_pos (lcmp_z.mp c_81)])))
              · refine k_sipush Fx dX10_word_72 (by decide) ?_
                exact r_iret Fx hr hlk X (by decide) dX10_word_75 (Qi_mk (congrArg iI (by unfold wdT; rw [if_neg (fun z => c_5 (lcmp_z.mpr z)), if_neg (fun z => c_15 (lcmp_z.mpr z)), if_neg (fun z => c_25 (lcmp_z.mpr z)), if_neg (fun z => c_35 (lcmp_z.mpr z)), if_neg (fun z => c_46 (lcmp_z.mpr z)), if_neg (fun z => c_57 (lcmp_z.mpr z)), if_pos (lcmp_z.mp c_69)])))
            · refine k_sipush Fx dX10_word_60 (by decide) ?_
              exact r_iret Fx hr hlk X (by decide) dX10_word_63 (Qi_mk (congrArg iI (by unfold wdT; rw [if_neg (fun z => c_5 (lcmp_z.mpr z)), if_neg (fun z => c_15 (lcmp_z.mpr z)), if_neg (fun z => c_25 (lcmp_z.mpr z)), if_neg (fun z => c_35 (lcmp_z.mpr z)), if_neg (fun z => c_46 (lcmp_z.mpr z)), if_pos (lcmp_z.mp c_57)])))
          · refine k_bipush Fx dX10_word_49 (by decide) ?_
            exact r_iret Fx hr hlk X (by decide) dX10_word_51 (Qi_mk (congrArg iI (by unfold wdT; rw [if_neg (fun z => c_5 (lcmp_z.mpr z)), if_neg (fun z => c_15 (lcmp_z.mpr z)), if_neg (fun z => c_25 (lcmp_z.mpr z)), if_neg (fun z => c_35 (lcmp_z.mpr z)), if_pos (lcmp_z.mp c_46)])))
        · refine k_bipush Fx dX10_word_38 (by decide) ?_
          exact r_iret Fx hr hlk X (by decide) dX10_word_40 (Qi_mk (congrArg iI (by unfold wdT; rw [if_neg (fun z => c_5 (lcmp_z.mpr z)), if_neg (fun z => c_15 (lcmp_z.mpr z)), if_neg (fun z => c_25 (lcmp_z.mpr z)), if_pos (lcmp_z.mp c_35)])))
      · refine k_iconst Fx dX10_word_28 ?_
        exact r_iret Fx hr hlk X (by decide) dX10_word_29 (Qi_mk (congrArg iI (by unfold wdT; rw [if_neg (fun z => c_5 (lcmp_z.mpr z)), if_neg (fun z => c_15 (lcmp_z.mpr z)), if_pos (lcmp_z.mp c_25)])))
    · refine k_iconst Fx dX10_word_18 ?_
      exact r_iret Fx hr hlk X (by decide) dX10_word_19 (Qi_mk (congrArg iI (by unfold wdT; rw [if_neg (fun z => c_5 (lcmp_z.mpr z)), if_pos (lcmp_z.mp c_15)])))
  · refine k_iconst Fx dX10_word_8 ?_
    exact r_iret Fx hr hlk X (by decide) dX10_word_9 (Qi_mk (congrArg iI (by unfold wdT; rw [if_pos (lcmp_z.mp c_5)])))

theorem tok_o1 {x : Nat} {z : Int} (h : x = 59) (hz : z = 59) : z = (if x = 59 then 59 else 1) := by rw [if_pos h]; exact hz
theorem tok_o2 {x : Nat} (h : ¬ x = 59) : (1 : Int) = (if x = 59 then 59 else 1) := by rw [if_neg h]
theorem tok_l {tn : Nat} {tb : Nat → Nat} {i p e k : Nat} {f : Nat → Int32} {x : Int32} (hp : tkA tn tb i = p) (h : ¬ tn ≤ p) (h2 : tLe tb p) (he : e = p + k) (hs : spn (tLe tb) tn p = e) (h18 : f 18 = iI (e : Nat)) (hx : x = iI (if k < 7 then wdT (pkW tn tb p k) else 1)) {f2 : Nat → Int32} (hf : f2 = upd f 19 x) (h20 : f2 20 = iI (p : Nat)) : TokM tn tb i f2 := by
  have h3 := tkT_l hp h h2 hs
  have h4 : e - p = k := by omega
  rw [h4] at h3
  refine ⟨?_, ?_, ?_, fun h5 => ?_⟩
  · rw [hf, h3.2]; exact h18
  · rw [hf, h3.1]; exact hx
  · rw [h20, hp]
  · rw [h3.1] at h5
    have h6 := wdT_n2 (pkW tn tb p k)
    split at h5
    · exact absurd h5 h6
    · exact absurd h5 (by decide)
theorem tok_d {tn : Nat} {tb : Nat → Nat} {i p e k : Nat} {f : Nat → Int32} {x : Int32} (hp : tkA tn tb i = p) (h : ¬ tn ≤ p) (h2 : ¬ tLe tb p) (h3 : tDg tb p) (he : e = p + k) (hs : spn (tDg tb) tn p = e) (h18 : f 18 = iI (e : Nat)) (hx : x = iI (if k < 3 then 2 else 1)) {f2 : Nat → Int32} (hf : f2 = upd f 19 x) (h20 : f2 20 = iI (p : Nat)) (h21 : f2 21 = iI (dvW tn tb p k)) : TokM tn tb i f2 := by
  have h4 := tkT_d hp h h2 h3 hs
  have h5 : e - p = k := by omega
  rw [h5] at h4
  refine ⟨?_, ?_, ?_, fun _ => ?_⟩
  · rw [hf, h4.2.1]; exact h18
  · rw [hf, h4.1]; exact hx
  · rw [h20, hp]
  · rw [h4.2.2]; exact h21
theorem tok_o {tn : Nat} {tb : Nat → Nat} {i p : Nat} {f : Nat → Int32} {x : Int32} (hp : tkA tn tb i = p) (h : ¬ tn ≤ p) (h2 : ¬ tLe tb p) (h3 : ¬ tDg tb p) (h18 : f 18 = iI (((p : Nat) : Int) + 1)) (hx : x = iI (if tb p = 59 then 59 else 1)) {f2 : Nat → Int32} (hf : f2 = upd f 19 x) (h20 : f2 20 = iI (p : Nat)) : TokM tn tb i f2 := by
  have h4 := tkT_o hp h h2 h3
  refine ⟨?_, ?_, ?_, fun h5 => ?_⟩
  · rw [hf, h4.2]; exact h18
  · rw [hf, h4.1]; exact hx
  · rw [h20, hp]
  · rw [h4.1] at h5
    split at h5 <;> exact absurd h5 (by decide)

abbrev rm_X10_next0 : Room := ({ frames := 2, cells := 0, slots := 0, locals := 42 } : Room)
set_option maxHeartbeats 4000000 in
set_option maxRecDepth 100000 in
theorem c_X10_next0 {E : XX} (hE : XS E) (l : Launch) {Γ : GG} {ad : Nat → Nat} {f : Nat → Int32} {g : Nat → Nat → Int32} {tn : Nat} {tb : Nat → Nat} (hT : TapM tn tb f g) (hTB : TapB tn tb) {i : Nat} (hi : i ≤ tn) (hA : f 18 = iI (i : Nat)) : Con E l yX10_next0 cX10_next0 5 none rm_X10_next0 Γ (wM Γ ad f g) [.ref (ad 0)] (fun v w2 => v = none ∧ ∃ f1, w2 = wM Γ ad f1 g ∧ TokM tn tb i f1 ∧ (∀ k, k ≠ 18 → k ≠ 19 → k ≠ 20 → k ≠ 21 → f1 k = f k)) := by
  refine Con_mk (by decide) (Nat.le_of_ble_eq_true rfl) ?_
  intro p e s₀ m args below meth c A Fx hr hlk hnm X ls hl
  have hl : lv_has ls 5 [(0, .ref (ad 0))] := hl
  have lp_0 : ∀ (nn : Nat) (a : Nat) (f1 : Nat → Int32), tn - a < nn → (i ≤ a ∧ a ≤ tn) → (TapM tn tb f1 g) → (f1 18 = iI (a : Nat)) → (spn (tBl tb) tn (a) = spn (tBl tb) tn (i)) → (∀ k, k ≠ 18 → k ≠ 19 → k ≠ 20 → k ≠ 21 → f1 k = f k) → ∀ (H : Heap) (locs : List Loc) (ls : Array Slot), Wd E Γ A s₀ H locs (wM Γ ad f1 g) → lv_has ls 5 [(0, .ref (ad 0))] → W p l e rm_X10_next0 s₀ m args below meth c H locs (0) (0) (RQ below args s₀ Γ A (fun v w2 => v = none ∧ ∃ f1, w2 = wM Γ ad f1 g ∧ TokM tn tb i f1 ∧ (∀ k, k ≠ 18 → k ≠ 19 → k ≠ 20 → k ≠ 21 → f1 k = f k)) rm_X10_next0) (F0 m 0 ls []) := by
    intro nn
    induction nn with
    | zero => intro a f1 hmu; exact absurd hmu (Nat.not_lt_zero _)
    | succ nn ih =>
      intro a f1 hmu ha hT hA hs hFr H locs ls X hl
      have ih_0 := ih
      have hT2 := hTB.1
      refine lv_aload_n Fx.1 Fx.2.1 dX10_next0_0 rfl (lv_at hl 0 rfl) ?_
      refine lv_aload_n Fx.1 Fx.2.1 dX10_next0_1 rfl (lv_at hl 0 rfl) ?_
      refine gM_18 (x := (iI (((a : Nat) : Int)))) Fx X (hA) dX10_next0_2 ?_
      refine r_callVi (As := [.int (iI (((a : Nat) : Int)))]) (rest := []) hE Fx X (c_X10_see hE l (tn := tn) (tb := tb) (by exact hT) hTB (i := a) (by omega)) cV_X10_139 (recM X) rfl rfl (Nat.le_of_ble_eq_true rfl) (by decide) hl.1 dX10_next0_5 (fun H locs X => ?_)
      have bs_x := sT_c (tn := tn) hTB.2 a
      refine k_bipush Fx dX10_next0_8 (by decide) ?_
      refine k_icmp_eq (a := sT tn tb a) (b := 32) (tgt := 26) Fx dX10_next0_10 (by decide) (by omega) (by omega) (fun c_10 => ?_) (fun c_10 => ?_)
      · refine lv_aload_n Fx.1 Fx.2.1 dX10_next0_26 rfl (lv_at hl 0 rfl) ?_
        refine lv_dup Fx.1 Fx.2.1 dX10_next0_27 rfl ?_
        refine gM_18 (x := (iI (((a : Nat) : Int)))) Fx X (hA) dX10_next0_28 ?_
        refine k_iconst Fx dX10_next0_31 ?_
        refine k_iadd Fx dX10_next0_32 ?_
        refine pM_18 Fx X dX10_next0_33 (fun H locs X => ?_)
        refine lv_goto (tgt := 0) Fx.1 Fx.2.1 dX10_next0_36 (by decide) ?_
        exact ih_0 (a + 1) ((upd f1 18 (iI ((((a : Nat) : Int) + 1))))) (by omega) (by omega) (hT) (rfl) ((spn_t (i := a) (by unfold tBl; omega)).symm.trans hs) (fun k h1 h2 h3 h4 => (upd_n h1).trans (hFr k h1 h2 h3 h4)) _ _ _ X (lv_sub hl [0] rfl)
      · refine lv_aload_n Fx.1 Fx.2.1 dX10_next0_13 rfl (lv_at hl 0 rfl) ?_
        refine lv_aload_n Fx.1 Fx.2.1 dX10_next0_14 rfl (lv_at hl 0 rfl) ?_
        refine gM_18 (x := (iI (((a : Nat) : Int)))) Fx X (hA) dX10_next0_15 ?_
        refine r_callVi (As := [.int (iI (((a : Nat) : Int)))]) (rest := []) hE Fx X (c_X10_see hE l (tn := tn) (tb := tb) (by exact hT) hTB (i := a) (by omega)) cV_X10_139 (recM X) rfl rfl (Nat.le_of_ble_eq_true rfl) (by decide) hl.1 dX10_next0_18 (fun H locs X => ?_)
        have bs_x := sT_c (tn := tn) hTB.2 a
        refine k_bipush Fx dX10_next0_21 (by decide) ?_
        refine k_icmp_ne (a := sT tn tb a) (b := 10) (tgt := 39) Fx dX10_next0_23 (by decide) (by omega) (by omega) (fun c_23 => ?_) (fun c_23 => ?_)
        · have hp : tkA tn tb i = a := hs.symm.trans (spn_f (by unfold tBl; omega))
          refine lv_aload_n Fx.1 Fx.2.1 dX10_next0_39 rfl (lv_at hl 0 rfl) ?_
          refine lv_aload_n Fx.1 Fx.2.1 dX10_next0_40 rfl (lv_at hl 0 rfl) ?_
          refine gM_18 (x := (iI (((a : Nat) : Int)))) Fx X (hA) dX10_next0_41 ?_
          refine pM_20 Fx X dX10_next0_44 (fun H locs X => ?_)
          refine lv_aload_n Fx.1 Fx.2.1 dX10_next0_47 rfl (lv_at hl 0 rfl) ?_
          refine lv_aload_n Fx.1 Fx.2.1 dX10_next0_48 rfl (lv_at hl 0 rfl) ?_
          refine gM_18 (x := (iI (((a : Nat) : Int)))) Fx X (hA) dX10_next0_49 ?_
          refine r_callVi (As := [.int (iI (((a : Nat) : Int)))]) (rest := []) hE Fx X (c_X10_see hE l (tn := tn) (tb := tb) (by exact hT) hTB (i := a) (by omega)) cV_X10_139 (recM X) rfl rfl (Nat.le_of_ble_eq_true rfl) (by decide) hl.1 dX10_next0_52 (fun H locs X => ?_)
          have bs_x := sT_c (tn := tn) hTB.2 a
          refine lv_istore_n (lv' := [(1, .int (iI (sT tn tb a))), (0, .ref (ad 0))]) Fx.1 Fx.2.1 dX10_next0_55 rfl hl (by decide) rfl (fun ls hl => ?_)
          refine k_iconst Fx dX10_next0_56 ?_
          refine lv_istore_n (lv' := [(2, .int (iI (0))), (1, .int (iI (sT tn tb a))), (0, .ref (ad 0))]) Fx.1 Fx.2.1 dX10_next0_57 rfl hl (by decide) rfl (fun ls hl => ?_)
          refine lv_iload_n Fx.1 Fx.2.1 dX10_next0_58 rfl (lv_at hl 1 rfl) ?_
          refine k_iconst Fx dX10_next0_59 ?_
          refine k_icmp_ne (a := sT tn tb a) (b := (-1)) (tgt := 71) Fx dX10_next0_60 (by decide) (by omega) (by omega) (fun c_60 => ?_) (fun c_60 => ?_)
          · refine lv_iload_n Fx.1 Fx.2.1 dX10_next0_71 rfl (lv_at hl 1 rfl) ?_
            refine r_callSi (As := [.int (iI (sT tn tb a))]) (rest := []) hE Fx X (c_X10_isLetter hE l (v := sT tn tb a) (by omega)) cS_X10_149 rfl rfl (Nat.le_of_ble_eq_true rfl) (by decide) hl.1 dX10_next0_72 (fun H locs X => ?_)
            refine k_bif_eq (tgt := 152) Fx dX10_next0_75 (by decide) (fun c_75 => ?_) (fun c_75 => ?_)
            · have hle : ¬ tLe tb a := by unfold tLe; omega
              refine lv_iload_n Fx.1 Fx.2.1 dX10_next0_152 rfl (lv_at hl 1 rfl) ?_
              refine r_callSi (As := [.int (iI (sT tn tb a))]) (rest := []) hE Fx X (c_X10_isDigit hE l (v := sT tn tb a) (by omega)) cS_X10_156 rfl rfl (Nat.le_of_ble_eq_true rfl) (by decide) hl.1 dX10_next0_153 (fun H locs X => ?_)
              refine k_bif_eq (tgt := 239) Fx dX10_next0_156 (by decide) (fun c_156 => ?_) (fun c_156 => ?_)
              · have hdg : ¬ tDg tb a := by unfold tDg; omega
                refine lv_aload_n Fx.1 Fx.2.1 dX10_next0_239 rfl (lv_at hl 2 rfl) ?_
                refine lv_dup Fx.1 Fx.2.1 dX10_next0_240 rfl ?_
                refine gM_18 (x := (iI (((a : Nat) : Int)))) Fx X (hA) dX10_next0_241 ?_
                refine k_iconst Fx dX10_next0_244 ?_
                refine k_iadd Fx dX10_next0_245 ?_
                refine pM_18 Fx X dX10_next0_246 (fun H locs X => ?_)
                refine lv_aload_n Fx.1 Fx.2.1 dX10_next0_249 rfl (lv_at hl 2 rfl) ?_
                refine lv_iload_n Fx.1 Fx.2.1 dX10_next0_250 rfl (lv_at hl 1 rfl) ?_
                refine k_bipush Fx dX10_next0_251 (by decide) ?_
                refine k_icmp_ne (a := sT tn tb a) (b := 59) (tgt := 260) Fx dX10_next0_253 (by decide) (by omega) (by omega) (fun c_253 => ?_) (fun c_253 => ?_)
                · refine k_iconst Fx dX10_next0_260 ?_
                  refine pM_19 Fx X dX10_next0_261 (fun H locs X => ?_)
                  exact r_vret Fx hr hlk X (by decide) dX10_next0_264 (⟨rfl, _, rfl, tok_o hp (by omega) hle hdg rfl (congrArg iI (tok_o2 (by omega))) rfl rfl, fun k h1 h2 h3 h4 => by (simp only [upd_n h1, upd_n h2, upd_n h3, upd_n h4]; exact hFr k h1 h2 h3 h4)⟩)
                · refine lv_iload_n Fx.1 Fx.2.1 dX10_next0_256 rfl (lv_at hl 1 rfl) ?_
                  refine lv_goto (tgt := 261) Fx.1 Fx.2.1 dX10_next0_257 (by decide) ?_
                  refine pM_19 Fx X dX10_next0_261 (fun H locs X => ?_)
                  exact r_vret Fx hr hlk X (by decide) dX10_next0_264 (⟨rfl, _, rfl, tok_o hp (by omega) hle hdg rfl (congrArg iI (tok_o1 (by omega) (by omega))) rfl rfl, fun k h1 h2 h3 h4 => by (simp only [upd_n h1, upd_n h2, upd_n h3, upd_n h4]; exact hFr k h1 h2 h3 h4)⟩)
              · have hdg : tDg tb a := by unfold tDg; omega
                refine lv_aload_n Fx.1 Fx.2.1 dX10_next0_159 rfl (lv_at hl 2 rfl) ?_
                refine k_iconst Fx dX10_next0_160 ?_
                refine pM_21 Fx X dX10_next0_161 (fun H locs X => ?_)
                have lp_164 : ∀ (nn : Nat) (k : Nat) (f3 : Nat → Int32), tn - (a + k) < nn → (a + k ≤ tn) → (TapM tn tb f3 g) → (f3 18 = iI ((a + k : Nat) : Int)) → (f3 20 = iI (a : Nat)) → (f3 21 = iI (dvW tn tb a k)) → (spn (tDg tb) tn (a + k) = spn (tDg tb) tn (a)) → (∀ k, k ≠ 18 → k ≠ 19 → k ≠ 20 → k ≠ 21 → f3 k = f k) → ∀ (H : Heap) (locs : List Loc) (ls : Array Slot), Wd E Γ A s₀ H locs (wM Γ ad f3 g) → lv_has ls 5 [(0, .ref (ad 0)), (1, .int (iI (sT tn tb a))), (2, .int (iI (((k : Nat) : Int))))] → W p l e rm_X10_next0 s₀ m args below meth c H locs (0) (0) (RQ below args s₀ Γ A (fun v w2 => v = none ∧ ∃ f1, w2 = wM Γ ad f1 g ∧ TokM tn tb i f1 ∧ (∀ k, k ≠ 18 → k ≠ 19 → k ≠ 20 → k ≠ 21 → f1 k = f k)) rm_X10_next0) (F0 m 164 ls []) := by
                  intro nn
                  induction nn with
                  | zero => intro k f3 hmu; exact absurd hmu (Nat.not_lt_zero _)
                  | succ nn ih =>
                    intro k f3 hmu hk hT hq18 hq20 hq21 hs2 hFr H locs ls X hl
                    have ih_164 := ih
                    refine lv_aload_n Fx.1 Fx.2.1 dX10_next0_164 rfl (lv_at hl 0 rfl) ?_
                    refine lv_aload_n Fx.1 Fx.2.1 dX10_next0_165 rfl (lv_at hl 0 rfl) ?_
                    refine gM_18 (x := (iI (((a + k : Nat) : Int)))) Fx X (hq18) dX10_next0_166 ?_
                    refine r_callVi (As := [.int (iI (((a + k : Nat) : Int)))]) (rest := []) hE Fx X (c_X10_see hE l (tn := tn) (tb := tb) (by exact hT) hTB (i := a + k) (by omega)) cV_X10_139 (recM X) rfl rfl (Nat.le_of_ble_eq_true rfl) (by decide) hl.1 dX10_next0_169 (fun H locs X => ?_)
                    have bs_x := sT_c (tn := tn) hTB.2 (a + k)
                    refine r_callSi (As := [.int (iI (sT tn tb (a + k)))]) (rest := []) hE Fx X (c_X10_isDigit hE l (v := sT tn tb (a + k)) (by omega)) cS_X10_156 rfl rfl (Nat.le_of_ble_eq_true rfl) (by decide) hl.1 dX10_next0_172 (fun H locs X => ?_)
                    refine k_bif_eq (tgt := 222) Fx dX10_next0_175 (by decide) (fun c_175 => ?_) (fun c_175 => ?_)
                    · have hsp : spn (tDg tb) tn a = a + k := hs2.symm.trans (spn_f (by unfold tDg; omega))
                      refine lv_aload_n Fx.1 Fx.2.1 dX10_next0_222 rfl (lv_at hl 0 rfl) ?_
                      refine lv_iload_n Fx.1 Fx.2.1 dX10_next0_223 rfl (lv_at hl 2 rfl) ?_
                      refine k_iconst Fx dX10_next0_224 ?_
                      refine k_icmp_ge (a := ((k : Nat) : Int)) (b := 3) (tgt := 232) Fx dX10_next0_225 (by decide) (by omega) (by omega) (fun c_225 => ?_) (fun c_225 => ?_)
                      · refine k_iconst Fx dX10_next0_232 ?_
                        refine pM_19 Fx X dX10_next0_233 (fun H locs X => ?_)
                        refine lv_goto (tgt := 264) Fx.1 Fx.2.1 dX10_next0_236 (by decide) ?_
                        exact r_vret Fx hr hlk X (by decide) dX10_next0_264 (⟨rfl, _, rfl, tok_d (k := k) hp (by omega) hle hdg rfl hsp hq18 (congrArg iI (by rw [if_neg (by omega)])) rfl (by show upd f3 19 _ 20 = _; exact hq20) (by show upd f3 19 _ 21 = _; exact hq21), fun k h1 h2 h3 h4 => by (simp only [upd_n h1, upd_n h2, upd_n h3, upd_n h4]; exact hFr k h1 h2 h3 h4)⟩)
                      · refine k_iconst Fx dX10_next0_228 ?_
                        refine lv_goto (tgt := 233) Fx.1 Fx.2.1 dX10_next0_229 (by decide) ?_
                        refine pM_19 Fx X dX10_next0_233 (fun H locs X => ?_)
                        refine lv_goto (tgt := 264) Fx.1 Fx.2.1 dX10_next0_236 (by decide) ?_
                        exact r_vret Fx hr hlk X (by decide) dX10_next0_264 (⟨rfl, _, rfl, tok_d (k := k) hp (by omega) hle hdg rfl hsp hq18 (congrArg iI (by rw [if_pos (by omega)])) rfl (by show upd f3 19 _ 20 = _; exact hq20) (by show upd f3 19 _ 21 = _; exact hq21), fun k h1 h2 h3 h4 => by (simp only [upd_n h1, upd_n h2, upd_n h3, upd_n h4]; exact hFr k h1 h2 h3 h4)⟩)
                    · refine lv_iload_n Fx.1 Fx.2.1 dX10_next0_178 rfl (lv_at hl 2 rfl) ?_
                      refine k_iconst Fx dX10_next0_179 ?_
                      refine k_icmp_ge (a := ((k : Nat) : Int)) (b := 2) (tgt := 206) Fx dX10_next0_180 (by decide) (by omega) (by omega) (fun c_180 => ?_) (fun c_180 => ?_)
                      · refine k_iinc (k := 2) (a := ((k : Nat) : Int)) (lv' := [(2, .int (iI ((((k : Nat) : Int) + 1)))), (0, .ref (ad 0)), (1, .int (iI (sT tn tb a)))]) Fx dX10_next0_206 hl rfl (by decide) rfl (fun ls hl => ?_)
                        refine lv_aload_n Fx.1 Fx.2.1 dX10_next0_209 rfl (lv_at hl 1 rfl) ?_
                        refine lv_dup Fx.1 Fx.2.1 dX10_next0_210 rfl ?_
                        refine gM_18 (x := (iI (((a + k : Nat) : Int)))) Fx X (hq18) dX10_next0_211 ?_
                        refine k_iconst Fx dX10_next0_214 ?_
                        refine k_iadd Fx dX10_next0_215 ?_
                        refine pM_18 Fx X dX10_next0_216 (fun H locs X => ?_)
                        refine lv_goto (tgt := 164) Fx.1 Fx.2.1 dX10_next0_219 (by decide) ?_
                        have hl_1 := lv_rp hl 0 rfl (show (iI ((((k : Nat) : Int) + 1))) = (iI ((((k + 1) : Nat) : Int))) from congrArg iI (by omega))
                        exact ih_164 (k + 1) ((upd f3 18 (iI ((((a + k : Nat) : Int) + 1))))) (by omega) (by omega) (hT) (rfl) (hq20) (hq21.trans (congrArg iI (show dvW tn tb a k = dvW tn tb a (k + 1) from (if_neg (by omega)).symm))) ((spn_t (i := a + k) (by unfold tDg; omega)).symm.trans hs2) (fun k h1 h2 h3 h4 => (upd_n h1).trans (hFr k h1 h2 h3 h4)) _ _ _ X (lv_sub hl_1 [1, 2, 0] rfl)
                      · refine lv_aload_n Fx.1 Fx.2.1 dX10_next0_183 rfl (lv_at hl 0 rfl) ?_
                        refine k_bipush Fx dX10_next0_184 (by decide) ?_
                        refine lv_aload_n Fx.1 Fx.2.1 dX10_next0_186 rfl (lv_at hl 0 rfl) ?_
                        refine gM_21 (x := (iI (dvW tn tb a k))) Fx X (hq21) dX10_next0_187 ?_
                        refine k_imul Fx dX10_next0_190 ?_
                        refine lv_aload_n Fx.1 Fx.2.1 dX10_next0_191 rfl (lv_at hl 0 rfl) ?_
                        refine lv_aload_n Fx.1 Fx.2.1 dX10_next0_192 rfl (lv_at hl 0 rfl) ?_
                        refine gM_18 (x := (iI (((a + k : Nat) : Int)))) Fx X (hq18) dX10_next0_193 ?_
                        refine r_callVi (As := [.int (iI (((a + k : Nat) : Int)))]) (rest := [.int (iI ((10 * dvW tn tb a k))), .ref (ad 0)]) hE Fx X (c_X10_see hE l (tn := tn) (tb := tb) (by exact hT) hTB (i := a + k) (by omega)) cV_X10_139 (recM X) rfl rfl (Nat.le_of_ble_eq_true rfl) (by decide) hl.1 dX10_next0_196 (fun H locs X => ?_)
                        have bs_x := sT_c (tn := tn) hTB.2 (a + k)
                        refine k_iadd Fx dX10_next0_199 ?_
                        refine k_bipush Fx dX10_next0_200 (by decide) ?_
                        refine k_isub Fx dX10_next0_202 ?_
                        refine pM_21 Fx X dX10_next0_203 (fun H locs X => ?_)
                        refine k_iinc (k := 2) (a := ((k : Nat) : Int)) (lv' := [(2, .int (iI ((((k : Nat) : Int) + 1)))), (0, .ref (ad 0)), (1, .int (iI (sT tn tb a)))]) Fx dX10_next0_206 hl rfl (by decide) rfl (fun ls hl => ?_)
                        refine lv_aload_n Fx.1 Fx.2.1 dX10_next0_209 rfl (lv_at hl 1 rfl) ?_
                        refine lv_dup Fx.1 Fx.2.1 dX10_next0_210 rfl ?_
                        refine gM_18 (x := (iI (((a + k : Nat) : Int)))) Fx X (hq18) dX10_next0_211 ?_
                        refine k_iconst Fx dX10_next0_214 ?_
                        refine k_iadd Fx dX10_next0_215 ?_
                        refine pM_18 Fx X dX10_next0_216 (fun H locs X => ?_)
                        refine lv_goto (tgt := 164) Fx.1 Fx.2.1 dX10_next0_219 (by decide) ?_
                        have hl_2 := lv_rp hl 0 rfl (show (iI ((((k : Nat) : Int) + 1))) = (iI ((((k + 1) : Nat) : Int))) from congrArg iI (by omega))
                        exact ih_164 (k + 1) ((upd (upd f3 21 (iI ((((10 * dvW tn tb a k) + sT tn tb (a + k)) - 48)))) 18 (iI ((((a + k : Nat) : Int) + 1))))) (by omega) (by omega) (hT) (rfl) (hq20) (congrArg iI (show _ = dvW tn tb a (k + 1) from (if_pos (by omega)).symm)) ((spn_t (i := a + k) (by unfold tDg; omega)).symm.trans hs2) (fun k h1 h2 h3 h4 => ((upd_n h1).trans (upd_n h4)).trans (hFr k h1 h2 h3 h4)) _ _ _ X (lv_sub hl_2 [1, 2, 0] rfl)
                have hl_3 := lv_rp hl 0 rfl (show (iI (0)) = (iI (((0 : Nat) : Int))) from congrArg iI (by omega))
                exact lp_164 _ (0) ((upd (upd f1 20 (iI (((a : Nat) : Int)))) 21 (iI (0)))) (Nat.lt_succ_self _) (by omega) (hT) (hA) (rfl) (rfl) (rfl) (fun k h1 h2 h3 h4 => ((upd_n h4).trans (upd_n h3)).trans (hFr k h1 h2 h3 h4)) _ _ _ X (lv_sub hl_3 [2, 1, 0] rfl)
            · have hle : tLe tb a := by unfold tLe; omega
              refine lv_lconst (v := 0) Fx.1 Fx.2.1 dX10_next0_78 (by decide) ?_
              refine lv_lstore_n (lv' := [(3, .long (0)), (2, .int (iI (0))), (1, .int (iI (sT tn tb a))), (0, .ref (ad 0))]) Fx.1 Fx.2.1 dX10_next0_79 rfl hl (by decide) rfl (fun ls hl => ?_)
              have lp_80 : ∀ (nn : Nat) (k : Nat) (f3 : Nat → Int32), tn - (a + k) < nn → (a + k ≤ tn) → (TapM tn tb f3 g) → (f3 18 = iI ((a + k : Nat) : Int)) → (f3 20 = iI (a : Nat)) → (spn (tLe tb) tn (a + k) = spn (tLe tb) tn (a)) → (∀ k, k ≠ 18 → k ≠ 19 → k ≠ 20 → k ≠ 21 → f3 k = f k) → ∀ (H : Heap) (locs : List Loc) (ls : Array Slot), Wd E Γ A s₀ H locs (wM Γ ad f3 g) → lv_has ls 5 [(0, .ref (ad 0)), (1, .int (iI (sT tn tb a))), (2, .int (iI (((k : Nat) : Int)))), (3, .long (pkW tn tb a k))] → W p l e rm_X10_next0 s₀ m args below meth c H locs (0) (0) (RQ below args s₀ Γ A (fun v w2 => v = none ∧ ∃ f1, w2 = wM Γ ad f1 g ∧ TokM tn tb i f1 ∧ (∀ k, k ≠ 18 → k ≠ 19 → k ≠ 20 → k ≠ 21 → f1 k = f k)) rm_X10_next0) (F0 m 80 ls []) := by
                intro nn
                induction nn with
                | zero => intro k f3 hmu; exact absurd hmu (Nat.not_lt_zero _)
                | succ nn ih =>
                  intro k f3 hmu hk hT hq18 hq20 hs2 hFr H locs ls X hl
                  have ih_80 := ih
                  refine lv_aload_n Fx.1 Fx.2.1 dX10_next0_80 rfl (lv_at hl 0 rfl) ?_
                  refine lv_aload_n Fx.1 Fx.2.1 dX10_next0_81 rfl (lv_at hl 0 rfl) ?_
                  refine gM_18 (x := (iI (((a + k : Nat) : Int)))) Fx X (hq18) dX10_next0_82 ?_
                  refine r_callVi (As := [.int (iI (((a + k : Nat) : Int)))]) (rest := []) hE Fx X (c_X10_see hE l (tn := tn) (tb := tb) (by exact hT) hTB (i := a + k) (by omega)) cV_X10_139 (recM X) rfl rfl (Nat.le_of_ble_eq_true rfl) (by decide) hl.1 dX10_next0_85 (fun H locs X => ?_)
                  have bs_x := sT_c (tn := tn) hTB.2 (a + k)
                  refine r_callSi (As := [.int (iI (sT tn tb (a + k)))]) (rest := []) hE Fx X (c_X10_isLetter hE l (v := sT tn tb (a + k)) (by omega)) cS_X10_149 rfl rfl (Nat.le_of_ble_eq_true rfl) (by decide) hl.1 dX10_next0_88 (fun H locs X => ?_)
                  refine k_bif_eq (tgt := 131) Fx dX10_next0_91 (by decide) (fun c_91 => ?_) (fun c_91 => ?_)
                  · have hsp : spn (tLe tb) tn a = a + k := hs2.symm.trans (spn_f (by unfold tLe; omega))
                    refine lv_aload_n Fx.1 Fx.2.1 dX10_next0_131 rfl (lv_at hl 0 rfl) ?_
                    refine lv_iload_n Fx.1 Fx.2.1 dX10_next0_132 rfl (lv_at hl 2 rfl) ?_
                    refine k_bipush Fx dX10_next0_133 (by decide) ?_
                    refine k_icmp_ge (a := ((k : Nat) : Int)) (b := 7) (tgt := 145) Fx dX10_next0_135 (by decide) (by omega) (by omega) (fun c_135 => ?_) (fun c_135 => ?_)
                    · refine k_iconst Fx dX10_next0_145 ?_
                      refine pM_19 Fx X dX10_next0_146 (fun H locs X => ?_)
                      refine lv_goto (tgt := 264) Fx.1 Fx.2.1 dX10_next0_149 (by decide) ?_
                      exact r_vret Fx hr hlk X (by decide) dX10_next0_264 (⟨rfl, _, rfl, tok_l (k := k) hp (by omega) hle rfl hsp hq18 (congrArg iI (by rw [if_neg (by omega)])) rfl (by show upd f3 19 _ 20 = _; exact hq20), fun k h1 h2 h3 h4 => by (simp only [upd_n h1, upd_n h2, upd_n h3, upd_n h4]; exact hFr k h1 h2 h3 h4)⟩)
                    · refine lv_lload_n Fx.1 Fx.2.1 dX10_next0_138 rfl (lv_at hl 3 rfl) ?_
                      refine r_callSi (As := [.long (pkW tn tb a k)]) (rest := [.ref (ad 0)]) hE Fx X (c_X10_word hE l (x := pkW tn tb a k)) cS_X10_152 rfl rfl (Nat.le_of_ble_eq_true rfl) (by decide) hl.1 dX10_next0_139 (fun H locs X => ?_)
                      refine lv_goto (tgt := 146) Fx.1 Fx.2.1 dX10_next0_142 (by decide) ?_
                      refine pM_19 Fx X dX10_next0_146 (fun H locs X => ?_)
                      refine lv_goto (tgt := 264) Fx.1 Fx.2.1 dX10_next0_149 (by decide) ?_
                      exact r_vret Fx hr hlk X (by decide) dX10_next0_264 (⟨rfl, _, rfl, tok_l (k := k) hp (by omega) hle rfl hsp hq18 (congrArg iI (by rw [if_pos (by omega)])) rfl (by show upd f3 19 _ 20 = _; exact hq20), fun k h1 h2 h3 h4 => by (simp only [upd_n h1, upd_n h2, upd_n h3, upd_n h4]; exact hFr k h1 h2 h3 h4)⟩)
                  · refine lv_iload_n Fx.1 Fx.2.1 dX10_next0_94 rfl (lv_at hl 2 rfl) ?_
                    refine k_bipush Fx dX10_next0_95 (by decide) ?_
                    refine k_icmp_ge (a := ((k : Nat) : Int)) (b := 7) (tgt := 115) Fx dX10_next0_97 (by decide) (by omega) (by omega) (fun c_97 => ?_) (fun c_97 => ?_)
                    · refine k_iinc (k := 2) (a := ((k : Nat) : Int)) (lv' := [(2, .int (iI ((((k : Nat) : Int) + 1)))), (0, .ref (ad 0)), (1, .int (iI (sT tn tb a))), (3, .long (pkW tn tb a k))]) Fx dX10_next0_115 hl rfl (by decide) rfl (fun ls hl => ?_)
                      refine lv_aload_n Fx.1 Fx.2.1 dX10_next0_118 rfl (lv_at hl 1 rfl) ?_
                      refine lv_dup Fx.1 Fx.2.1 dX10_next0_119 rfl ?_
                      refine gM_18 (x := (iI (((a + k : Nat) : Int)))) Fx X (hq18) dX10_next0_120 ?_
                      refine k_iconst Fx dX10_next0_123 ?_
                      refine k_iadd Fx dX10_next0_124 ?_
                      refine pM_18 Fx X dX10_next0_125 (fun H locs X => ?_)
                      refine lv_goto (tgt := 80) Fx.1 Fx.2.1 dX10_next0_128 (by decide) ?_
                      have hl_4 := lv_rp hl 0 rfl (show (iI ((((k : Nat) : Int) + 1))) = (iI ((((k + 1) : Nat) : Int))) from congrArg iI (by omega))
                      have hl_5 := lv_rpl hl_4 3 rfl (show pkW tn tb a k = pkW tn tb a (k + 1) from (show pkW tn tb a k = pkW tn tb a (k + 1) from (if_neg (by omega)).symm))
                      exact ih_80 (k + 1) ((upd f3 18 (iI ((((a + k : Nat) : Int) + 1))))) (by omega) (by omega) (hT) (rfl) (hq20) ((spn_t (i := a + k) (by unfold tLe; omega)).symm.trans hs2) (fun k h1 h2 h3 h4 => (upd_n h1).trans (hFr k h1 h2 h3 h4)) _ _ _ X (lv_sub hl_5 [1, 2, 0, 3] rfl)
                    · refine lv_lload_n Fx.1 Fx.2.1 dX10_next0_100 rfl (lv_at hl 3 rfl) ?_
                      refine k_bipush Fx dX10_next0_101 (by decide) ?_
                      refine lv_lshl Fx.1 Fx.2.1 dX10_next0_103 rfl ?_
                      refine lv_aload_n Fx.1 Fx.2.1 dX10_next0_104 rfl (lv_at hl 0 rfl) ?_
                      refine lv_aload_n Fx.1 Fx.2.1 dX10_next0_105 rfl (lv_at hl 0 rfl) ?_
                      refine gM_18 (x := (iI (((a + k : Nat) : Int)))) Fx X (hq18) dX10_next0_106 ?_
                      refine r_callVi (As := [.int (iI (((a + k : Nat) : Int)))]) (rest := [.long ((pkW tn tb a k <<< ((iI (8)).toInt64 &&& 63)))]) hE Fx X (c_X10_see hE l (tn := tn) (tb := tb) (by exact hT) hTB (i := a + k) (by omega)) cV_X10_139 (recM X) rfl rfl (Nat.le_of_ble_eq_true rfl) (by decide) hl.1 dX10_next0_109 (fun H locs X => ?_)
                      have bs_x := sT_c (tn := tn) hTB.2 (a + k)
                      refine lv_i2l Fx.1 Fx.2.1 dX10_next0_112 rfl ?_
                      refine lv_lor Fx.1 Fx.2.1 dX10_next0_113 ?_
                      refine lv_lstore_n (lv' := [(3, .long (((pkW tn tb a k <<< ((iI (8)).toInt64 &&& 63)) ||| (iI (sT tn tb (a + k))).toInt64))), (0, .ref (ad 0)), (1, .int (iI (sT tn tb a))), (2, .int (iI (((k : Nat) : Int))))]) Fx.1 Fx.2.1 dX10_next0_114 rfl hl (by decide) rfl (fun ls hl => ?_)
                      refine k_iinc (k := 3) (a := ((k : Nat) : Int)) (lv' := [(2, .int (iI ((((k : Nat) : Int) + 1)))), (3, .long (((pkW tn tb a k <<< ((iI (8)).toInt64 &&& 63)) ||| (iI (sT tn tb (a + k))).toInt64))), (0, .ref (ad 0)), (1, .int (iI (sT tn tb a)))]) Fx dX10_next0_115 hl rfl (by decide) rfl (fun ls hl => ?_)
                      refine lv_aload_n Fx.1 Fx.2.1 dX10_next0_118 rfl (lv_at hl 2 rfl) ?_
                      refine lv_dup Fx.1 Fx.2.1 dX10_next0_119 rfl ?_
                      refine gM_18 (x := (iI (((a + k : Nat) : Int)))) Fx X (hq18) dX10_next0_120 ?_
                      refine k_iconst Fx dX10_next0_123 ?_
                      refine k_iadd Fx dX10_next0_124 ?_
                      refine pM_18 Fx X dX10_next0_125 (fun H locs X => ?_)
                      refine lv_goto (tgt := 80) Fx.1 Fx.2.1 dX10_next0_128 (by decide) ?_
                      have hl_6 := lv_rp hl 0 rfl (show (iI ((((k : Nat) : Int) + 1))) = (iI ((((k + 1) : Nat) : Int))) from congrArg iI (by omega))
                      have hl_7 := lv_rpl hl_6 1 rfl (show ((pkW tn tb a k <<< ((iI (8)).toInt64 &&& 63)) ||| (iI (sT tn tb (a + k))).toInt64) = pkW tn tb a (k + 1) from (show _ = pkW tn tb a (k + 1) from (if_pos (by omega)).symm))
                      exact ih_80 (k + 1) ((upd f3 18 (iI ((((a + k : Nat) : Int) + 1))))) (by omega) (by omega) (hT) (rfl) (hq20) ((spn_t (i := a + k) (by unfold tLe; omega)).symm.trans hs2) (fun k h1 h2 h3 h4 => (upd_n h1).trans (hFr k h1 h2 h3 h4)) _ _ _ X (lv_sub hl_7 [2, 3, 0, 1] rfl)
              have hl_8 := lv_rp hl 1 rfl (show (iI (0)) = (iI (((0 : Nat) : Int))) from congrArg iI (by omega))
              have hl_9 := lv_rpl hl_8 0 rfl (show 0 = pkW tn tb a 0 from rfl)
              exact lp_80 _ (0) ((upd f1 20 (iI (((a : Nat) : Int))))) (Nat.lt_succ_self _) (by omega) (hT) (hA) (rfl) (rfl) (fun k h1 h2 h3 h4 => (upd_n h3).trans (hFr k h1 h2 h3 h4)) _ _ _ X (lv_sub hl_9 [3, 2, 1, 0] rfl)
          · refine lv_aload_n Fx.1 Fx.2.1 dX10_next0_63 rfl (lv_at hl 2 rfl) ?_
            refine k_iconst Fx dX10_next0_64 ?_
            refine pM_19 Fx X dX10_next0_65 (fun H locs X => ?_)
            refine lv_goto (tgt := 264) Fx.1 Fx.2.1 dX10_next0_68 (by decide) ?_
            exact r_vret Fx hr hlk X (by decide) dX10_next0_264 (⟨rfl, _, rfl, ⟨hA.trans (congrArg (fun z : Nat => iI z) (tkT_0 hp (by omega)).2.symm), congrArg iI (tkT_0 hp (by omega)).1.symm, congrArg (fun z : Nat => iI z) hp.symm, fun h => absurd ((tkT_0 hp (by omega)).1.symm.trans h) (by decide)⟩, fun k h1 h2 h3 h4 => by (simp only [upd_n h1, upd_n h2, upd_n h3, upd_n h4]; exact hFr k h1 h2 h3 h4)⟩)
        · refine lv_aload_n Fx.1 Fx.2.1 dX10_next0_26 rfl (lv_at hl 0 rfl) ?_
          refine lv_dup Fx.1 Fx.2.1 dX10_next0_27 rfl ?_
          refine gM_18 (x := (iI (((a : Nat) : Int)))) Fx X (hA) dX10_next0_28 ?_
          refine k_iconst Fx dX10_next0_31 ?_
          refine k_iadd Fx dX10_next0_32 ?_
          refine pM_18 Fx X dX10_next0_33 (fun H locs X => ?_)
          refine lv_goto (tgt := 0) Fx.1 Fx.2.1 dX10_next0_36 (by decide) ?_
          exact ih_0 (a + 1) ((upd f1 18 (iI ((((a : Nat) : Int) + 1))))) (by omega) (by omega) (hT) (rfl) ((spn_t (i := a) (by unfold tBl; omega)).symm.trans hs) (fun k h1 h2 h3 h4 => (upd_n h1).trans (hFr k h1 h2 h3 h4)) _ _ _ X (lv_sub hl [0] rfl)
  exact lp_0 _ (i) (f) (Nat.lt_succ_self _) (by omega) (hT) (hA) (rfl) (fun _ _ _ _ _ => rfl) _ _ _ X (lv_sub hl [0] rfl)

