def FrK (f1 f : Nat → Nat → Int32) : Prop := ∀ o j, ¬ (o = 3 ∧ 4 ≤ j) → f1 o j = f o j
theorem FrK_u {f1 f : Nat → Nat → Int32} {j : Nat} {x : Int32} (hj : 4 ≤ j) (h : FrK f1 f) : FrK (updA f1 3 (upd (f1 3) j x)) f := fun o k hk => (frF (by omega)).trans (h o k hk)
theorem FrK_tr {f2 f1 f : Nat → Nat → Int32} (h2 : FrK f2 f1) (h1 : FrK f1 f) : FrK f2 f := fun o j h => (h2 o j h).trans (h1 o j h)
theorem TapC_k {tn : Nat} {tb : Nat → Nat} {f1 f g : Nat → Nat → Int32} (h : FrK f1 f) (hT : TapC tn tb f g) : TapC tn tb f1 g := ⟨(h 2 1 (by omega)).trans hT.1, hT.2⟩
/-- a number of any length, as the class reads it -/
def cvW (tb : Nat → Nat) (p : Nat) : Nat → Int
  | 0 => 0
  | k + 1 => ((10 * cvW tb p k) + sB (tb (p + k))) - 48
theorem cv_dv {tn : Nat} {tb : Nat → Nat} {p : Nat} : ∀ k, k ≤ 2 → (∀ j, j < k → p + j < tn ∧ tDg tb (p + j)) → cvW tb p k = dvW tn tb p k
  | 0, _, _ => rfl
  | k + 1, h, hd => by
    have q := hd k (by omega)
    have q2 := q.2
    unfold tDg at q2
    show ((10 * cvW tb p k) + sB (tb (p + k))) - 48 = (if k < 2 then _ else _)
    rw [if_pos (by omega), cv_dv k (by omega) (fun j hj => hd j (by omega)), show sT tn tb (p + k) = ((tb (p + k) : Nat) : Int) from if_pos q.1, show sB (tb (p + k)) = ((tb (p + k) : Nat) : Int) from if_pos (by omega)]
theorem ct_num {tn : Nat} {tb : Nat → Nat} {i p e : Nat} (hp : tkA tn tb i = p) (h : ¬ tn ≤ p) (h2 : ¬ tLe tb p) (h3 : tDg tb p) (he : spn (tDg tb) tn p = e) : ctT tn tb i = (if e - p ≤ 2 then 2 else 4) ∧ ctV tn tb i = (if e - p ≤ 2 then cvW tb p (e - p) else -1) ∧ tkN tn tb i = e := by
  have t := tkT_d hp h h2 h3 he
  have hb : ∀ j, j < e - p → p + j < tn ∧ tDg tb (p + j) := fun j hj => spn_all (tDg tb) tn p (p + j) (by omega) (by omega)
  refine ⟨?_, ?_, t.2.1⟩
  · unfold ctT; rw [t.1]
    by_cases c : e - p ≤ 2
    · rw [if_pos c, if_pos (show e - p < 3 by omega)]; simp
    · rw [if_neg c, if_neg (show ¬ e - p < 3 by omega)]; simp
  · unfold ctV; rw [t.1]
    by_cases c : e - p ≤ 2
    · rw [if_pos c, if_pos (show e - p < 3 by omega), if_pos rfl, t.2.2, cv_dv (e - p) c hb]
    · rw [if_neg c, if_neg (show ¬ e - p < 3 by omega)]; simp
theorem ct_end {tn : Nat} {tb : Nat → Nat} {i p : Nat} (hp : tkA tn tb i = p) (h : tn ≤ p) : ctT tn tb i = 0 ∧ ctV tn tb i = -1 ∧ tkN tn tb i = p := by
  have t := tkT_0 hp h
  unfold ctT ctV; rw [t.1]; exact ⟨by simp, by simp, t.2⟩
theorem ct_oth {tn : Nat} {tb : Nat → Nat} {i p : Nat} (hp : tkA tn tb i = p) (h : ¬ tn ≤ p) (h2 : ¬ tLe tb p) (h3 : ¬ tDg tb p) : ctT tn tb i = (if tb p = 59 then 3 else 4) ∧ ctV tn tb i = -1 ∧ tkN tn tb i = p + 1 := by
  have t := tkT_o hp h h2 h3
  unfold ctT ctV; rw [t.1]
  by_cases c : tb p = 59
  · rw [if_pos c, if_pos c]; exact ⟨by simp, by simp, t.2⟩
  · rw [if_neg c, if_neg c]; exact ⟨by simp, by simp, t.2⟩

abbrev rm_X1_isBlank : Room := ({ frames := 0, cells := 0, slots := 0, locals := 0 } : Room)
set_option maxHeartbeats 4000000 in
set_option maxRecDepth 100000 in
theorem c_X1_isBlank {E : XX} (hE : XS E) (l : Launch) {Γ : GG} {w : va_W} {u : Nat} (hu : u < 256) : Con E l yX1_isBlank cX1_isBlank 1 (some .boolean) rm_X1_isBlank Γ w [.int (iI (sB u))] (Qi (bI (u = 32 ∨ u = 10)) w) := by
  refine Con_mk (by decide) (Nat.le_of_ble_eq_true rfl) ?_
  intro p e s₀ m args below meth c A Fx hr hlk hnm X ls hl
  have hl : lv_has ls 1 [(0, .int (iI (sB u)))] := hl
  have hsb := sB_c u hu
  refine lv_iload_n Fx.1 Fx.2.1 dX1_isBlank_0 rfl (lv_at hl 0 rfl) ?_
  refine k_bipush Fx dX1_isBlank_1 (by decide) ?_
  refine k_icmp_eq (a := sB u) (b := 32) (tgt := 12) Fx dX1_isBlank_3 (by decide) (by omega) (by omega) (fun c_3 => ?_) (fun c_3 => ?_)
  · refine k_iconst Fx dX1_isBlank_12 ?_
    refine lv_goto (tgt := 17) Fx.1 Fx.2.1 dX1_isBlank_13 (by decide) ?_
    exact r_zret Fx hr hlk X (by decide) dX1_isBlank_17 rfl (Qi_mk (bI_1 (by omega)))
  · refine lv_iload_n Fx.1 Fx.2.1 dX1_isBlank_6 rfl (lv_at hl 0 rfl) ?_
    refine k_bipush Fx dX1_isBlank_7 (by decide) ?_
    refine k_icmp_ne (a := sB u) (b := 10) (tgt := 16) Fx dX1_isBlank_9 (by decide) (by omega) (by omega) (fun c_9 => ?_) (fun c_9 => ?_)
    · refine k_iconst Fx dX1_isBlank_16 ?_
      exact r_zret Fx hr hlk X (by decide) dX1_isBlank_17 rfl (Qi_mk (bI_0 (by omega)))
    · refine k_iconst Fx dX1_isBlank_12 ?_
      refine lv_goto (tgt := 17) Fx.1 Fx.2.1 dX1_isBlank_13 (by decide) ?_
      exact r_zret Fx hr hlk X (by decide) dX1_isBlank_17 rfl (Qi_mk (bI_1 (by omega)))

abbrev rm_X1_isLetter : Room := ({ frames := 0, cells := 0, slots := 0, locals := 0 } : Room)
set_option maxHeartbeats 4000000 in
set_option maxRecDepth 100000 in
theorem c_X1_isLetter {E : XX} (hE : XS E) (l : Launch) {Γ : GG} {w : va_W} {u : Nat} (hu : u < 256) : Con E l yX1_isLetter cX1_isLetter 1 (some .boolean) rm_X1_isLetter Γ w [.int (iI (sB u))] (Qi (bI ((97 ≤ u ∧ u ≤ 122) ∨ (65 ≤ u ∧ u ≤ 90))) w) := by
  refine Con_mk (by decide) (Nat.le_of_ble_eq_true rfl) ?_
  intro p e s₀ m args below meth c A Fx hr hlk hnm X ls hl
  have hl : lv_has ls 1 [(0, .int (iI (sB u)))] := hl
  have hsb := sB_c u hu
  refine lv_iload_n Fx.1 Fx.2.1 dX1_isLetter_0 rfl (lv_at hl 0 rfl) ?_
  refine k_bipush Fx dX1_isLetter_1 (by decide) ?_
  refine k_icmp_lt (a := sB u) (b := 97) (tgt := 12) Fx dX1_isLetter_3 (by decide) (by omega) (by omega) (fun c_3 => ?_) (fun c_3 => ?_)
  · refine lv_iload_n Fx.1 Fx.2.1 dX1_isLetter_12 rfl (lv_at hl 0 rfl) ?_
    refine k_bipush Fx dX1_isLetter_13 (by decide) ?_
    refine k_icmp_lt (a := sB u) (b := 65) (tgt := 28) Fx dX1_isLetter_15 (by decide) (by omega) (by omega) (fun c_15 => ?_) (fun c_15 => ?_)
    · refine k_iconst Fx dX1_isLetter_28 ?_
      exact r_zret Fx hr hlk X (by decide) dX1_isLetter_29 rfl (Qi_mk (bI_0 (by omega)))
    · refine lv_iload_n Fx.1 Fx.2.1 dX1_isLetter_18 rfl (lv_at hl 0 rfl) ?_
      refine k_bipush Fx dX1_isLetter_19 (by decide) ?_
      refine k_icmp_gt (a := sB u) (b := 90) (tgt := 28) Fx dX1_isLetter_21 (by decide) (by omega) (by omega) (fun c_21 => ?_) (fun c_21 => ?_)
      · refine k_iconst Fx dX1_isLetter_28 ?_
        exact r_zret Fx hr hlk X (by decide) dX1_isLetter_29 rfl (Qi_mk (bI_0 (by omega)))
      · refine k_iconst Fx dX1_isLetter_24 ?_
        refine lv_goto (tgt := 29) Fx.1 Fx.2.1 dX1_isLetter_25 (by decide) ?_
        exact r_zret Fx hr hlk X (by decide) dX1_isLetter_29 rfl (Qi_mk (bI_1 (by omega)))
  · refine lv_iload_n Fx.1 Fx.2.1 dX1_isLetter_6 rfl (lv_at hl 0 rfl) ?_
    refine k_bipush Fx dX1_isLetter_7 (by decide) ?_
    refine k_icmp_le (a := sB u) (b := 122) (tgt := 24) Fx dX1_isLetter_9 (by decide) (by omega) (by omega) (fun c_9 => ?_) (fun c_9 => ?_)
    · refine k_iconst Fx dX1_isLetter_24 ?_
      refine lv_goto (tgt := 29) Fx.1 Fx.2.1 dX1_isLetter_25 (by decide) ?_
      exact r_zret Fx hr hlk X (by decide) dX1_isLetter_29 rfl (Qi_mk (bI_1 (by omega)))
    · refine lv_iload_n Fx.1 Fx.2.1 dX1_isLetter_12 rfl (lv_at hl 0 rfl) ?_
      refine k_bipush Fx dX1_isLetter_13 (by decide) ?_
      refine k_icmp_lt (a := sB u) (b := 65) (tgt := 28) Fx dX1_isLetter_15 (by decide) (by omega) (by omega) (fun c_15 => ?_) (fun c_15 => ?_)
      · refine k_iconst Fx dX1_isLetter_28 ?_
        exact r_zret Fx hr hlk X (by decide) dX1_isLetter_29 rfl (Qi_mk (bI_0 (by omega)))
      · refine lv_iload_n Fx.1 Fx.2.1 dX1_isLetter_18 rfl (lv_at hl 0 rfl) ?_
        refine k_bipush Fx dX1_isLetter_19 (by decide) ?_
        refine k_icmp_gt (a := sB u) (b := 90) (tgt := 28) Fx dX1_isLetter_21 (by decide) (by omega) (by omega) (fun c_21 => ?_) (fun c_21 => ?_)
        · refine k_iconst Fx dX1_isLetter_28 ?_
          exact r_zret Fx hr hlk X (by decide) dX1_isLetter_29 rfl (Qi_mk (bI_0 (by omega)))
        · refine k_iconst Fx dX1_isLetter_24 ?_
          refine lv_goto (tgt := 29) Fx.1 Fx.2.1 dX1_isLetter_25 (by decide) ?_
          exact r_zret Fx hr hlk X (by decide) dX1_isLetter_29 rfl (Qi_mk (bI_1 (by omega)))

abbrev rm_X1_isDigit : Room := ({ frames := 0, cells := 0, slots := 0, locals := 0 } : Room)
set_option maxHeartbeats 4000000 in
set_option maxRecDepth 100000 in
theorem c_X1_isDigit {E : XX} (hE : XS E) (l : Launch) {Γ : GG} {w : va_W} {u : Nat} (hu : u < 256) : Con E l yX1_isDigit cX1_isDigit 1 (some .boolean) rm_X1_isDigit Γ w [.int (iI (sB u))] (Qi (bI (48 ≤ u ∧ u ≤ 57)) w) := by
  refine Con_mk (by decide) (Nat.le_of_ble_eq_true rfl) ?_
  intro p e s₀ m args below meth c A Fx hr hlk hnm X ls hl
  have hl : lv_has ls 1 [(0, .int (iI (sB u)))] := hl
  have hsb := sB_c u hu
  refine lv_iload_n Fx.1 Fx.2.1 dX1_isDigit_0 rfl (lv_at hl 0 rfl) ?_
  refine k_bipush Fx dX1_isDigit_1 (by decide) ?_
  refine k_icmp_lt (a := sB u) (b := 48) (tgt := 16) Fx dX1_isDigit_3 (by decide) (by omega) (by omega) (fun c_3 => ?_) (fun c_3 => ?_)
  · refine k_iconst Fx dX1_isDigit_16 ?_
    exact r_zret Fx hr hlk X (by decide) dX1_isDigit_17 rfl (Qi_mk (bI_0 (by omega)))
  · refine lv_iload_n Fx.1 Fx.2.1 dX1_isDigit_6 rfl (lv_at hl 0 rfl) ?_
    refine k_bipush Fx dX1_isDigit_7 (by decide) ?_
    refine k_icmp_gt (a := sB u) (b := 57) (tgt := 16) Fx dX1_isDigit_9 (by decide) (by omega) (by omega) (fun c_9 => ?_) (fun c_9 => ?_)
    · refine k_iconst Fx dX1_isDigit_16 ?_
      exact r_zret Fx hr hlk X (by decide) dX1_isDigit_17 rfl (Qi_mk (bI_0 (by omega)))
    · refine k_iconst Fx dX1_isDigit_12 ?_
      refine lv_goto (tgt := 17) Fx.1 Fx.2.1 dX1_isDigit_13 (by decide) ?_
      exact r_zret Fx hr hlk X (by decide) dX1_isDigit_17 rfl (Qi_mk (bI_1 (by omega)))

abbrev rm_X1_keyword : Room := ({ frames := 0, cells := 0, slots := 0, locals := 0 } : Room)
set_option maxHeartbeats 4000000 in
set_option maxRecDepth 100000 in
theorem c_X1_keyword {E : XX} (hE : XS E) (l : Launch) {Γ : GG} {κ : KK} (hN : EN E κ) {w : va_W} {k : Nat} (hk : k < 12) : Con E l yX1_keyword cX1_keyword 1 (some (.object "java/lang/String")) rm_X1_keyword Γ w [.int (iI (((k : Nat) : Int)))] (Qr (κ.1 k) w) := by
  refine Con_mk (by decide) (Nat.le_of_ble_eq_true rfl) ?_
  intro p e s₀ m args below meth c A Fx hr hlk hnm X ls hl
  have hl : lv_has ls 1 [(0, .int (iI (((k : Nat) : Int))))] := hl
  refine lv_iload_n Fx.1 Fx.2.1 dX1_keyword_0 rfl (lv_at hl 0 rfl) ?_
  by_cases c_1_0 : ((k : Nat) : Int) = 0
  · refine k_tableIn (a := ((k : Nat) : Int)) (tgt := 60) Fx dX1_keyword_1 (by omega) (by omega) (by omega) (by rw [c_1_0]; rfl) (by decide) ?_
    refine va_ldcS Fx.1 Fx.2.1 Fx.2.2.2.1 ((X.ef hN).2.2.1.2 0 (by decide)) dX1_keyword_60 ?_
    exact r_aret Fx hr (by first | exact Or.inl ⟨_, rfl⟩ | exact Or.inr ⟨_, rfl⟩) hlk X (by decide) dX1_keyword_62 (⟨by rw [show k = 0 by omega], rfl⟩)
  by_cases c_1_1 : ((k : Nat) : Int) = 1
  · refine k_tableIn (a := ((k : Nat) : Int)) (tgt := 63) Fx dX1_keyword_1 (by omega) (by omega) (by omega) (by rw [c_1_1]; rfl) (by decide) ?_
    refine va_ldcS Fx.1 Fx.2.1 Fx.2.2.2.1 ((X.ef hN).2.2.1.2 1 (by decide)) dX1_keyword_63 ?_
    exact r_aret Fx hr (by first | exact Or.inl ⟨_, rfl⟩ | exact Or.inr ⟨_, rfl⟩) hlk X (by decide) dX1_keyword_65 (⟨by rw [show k = 1 by omega], rfl⟩)
  by_cases c_1_2 : ((k : Nat) : Int) = 2
  · refine k_tableIn (a := ((k : Nat) : Int)) (tgt := 66) Fx dX1_keyword_1 (by omega) (by omega) (by omega) (by rw [c_1_2]; rfl) (by decide) ?_
    refine va_ldcS Fx.1 Fx.2.1 Fx.2.2.2.1 ((X.ef hN).2.2.1.2 2 (by decide)) dX1_keyword_66 ?_
    exact r_aret Fx hr (by first | exact Or.inl ⟨_, rfl⟩ | exact Or.inr ⟨_, rfl⟩) hlk X (by decide) dX1_keyword_68 (⟨by rw [show k = 2 by omega], rfl⟩)
  by_cases c_1_3 : ((k : Nat) : Int) = 3
  · refine k_tableIn (a := ((k : Nat) : Int)) (tgt := 69) Fx dX1_keyword_1 (by omega) (by omega) (by omega) (by rw [c_1_3]; rfl) (by decide) ?_
    refine va_ldcS Fx.1 Fx.2.1 Fx.2.2.2.1 ((X.ef hN).2.2.1.2 3 (by decide)) dX1_keyword_69 ?_
    exact r_aret Fx hr (by first | exact Or.inl ⟨_, rfl⟩ | exact Or.inr ⟨_, rfl⟩) hlk X (by decide) dX1_keyword_71 (⟨by rw [show k = 3 by omega], rfl⟩)
  by_cases c_1_4 : ((k : Nat) : Int) = 4
  · refine k_tableIn (a := ((k : Nat) : Int)) (tgt := 72) Fx dX1_keyword_1 (by omega) (by omega) (by omega) (by rw [c_1_4]; rfl) (by decide) ?_
    refine va_ldcS Fx.1 Fx.2.1 Fx.2.2.2.1 ((X.ef hN).2.2.1.2 4 (by decide)) dX1_keyword_72 ?_
    exact r_aret Fx hr (by first | exact Or.inl ⟨_, rfl⟩ | exact Or.inr ⟨_, rfl⟩) hlk X (by decide) dX1_keyword_74 (⟨by rw [show k = 4 by omega], rfl⟩)
  by_cases c_1_5 : ((k : Nat) : Int) = 5
  · refine k_tableIn (a := ((k : Nat) : Int)) (tgt := 75) Fx dX1_keyword_1 (by omega) (by omega) (by omega) (by rw [c_1_5]; rfl) (by decide) ?_
    refine va_ldcS Fx.1 Fx.2.1 Fx.2.2.2.1 ((X.ef hN).2.2.1.2 5 (by decide)) dX1_keyword_75 ?_
    exact r_aret Fx hr (by first | exact Or.inl ⟨_, rfl⟩ | exact Or.inr ⟨_, rfl⟩) hlk X (by decide) dX1_keyword_77 (⟨by rw [show k = 5 by omega], rfl⟩)
  by_cases c_1_6 : ((k : Nat) : Int) = 6
  · refine k_tableIn (a := ((k : Nat) : Int)) (tgt := 78) Fx dX1_keyword_1 (by omega) (by omega) (by omega) (by rw [c_1_6]; rfl) (by decide) ?_
    refine va_ldcS Fx.1 Fx.2.1 Fx.2.2.2.1 ((X.ef hN).2.2.1.2 6 (by decide)) dX1_keyword_78 ?_
    exact r_aret Fx hr (by first | exact Or.inl ⟨_, rfl⟩ | exact Or.inr ⟨_, rfl⟩) hlk X (by decide) dX1_keyword_80 (⟨by rw [show k = 6 by omega], rfl⟩)
  by_cases c_1_7 : ((k : Nat) : Int) = 7
  · refine k_tableIn (a := ((k : Nat) : Int)) (tgt := 81) Fx dX1_keyword_1 (by omega) (by omega) (by omega) (by rw [c_1_7]; rfl) (by decide) ?_
    refine va_ldcS Fx.1 Fx.2.1 Fx.2.2.2.1 ((X.ef hN).2.2.1.2 7 (by decide)) dX1_keyword_81 ?_
    exact r_aret Fx hr (by first | exact Or.inl ⟨_, rfl⟩ | exact Or.inr ⟨_, rfl⟩) hlk X (by decide) dX1_keyword_83 (⟨by rw [show k = 7 by omega], rfl⟩)
  by_cases c_1_8 : ((k : Nat) : Int) = 8
  · refine k_tableIn (a := ((k : Nat) : Int)) (tgt := 84) Fx dX1_keyword_1 (by omega) (by omega) (by omega) (by rw [c_1_8]; rfl) (by decide) ?_
    refine va_ldcS Fx.1 Fx.2.1 Fx.2.2.2.1 ((X.ef hN).2.2.1.2 8 (by decide)) dX1_keyword_84 ?_
    exact r_aret Fx hr (by first | exact Or.inl ⟨_, rfl⟩ | exact Or.inr ⟨_, rfl⟩) hlk X (by decide) dX1_keyword_86 (⟨by rw [show k = 8 by omega], rfl⟩)
  by_cases c_1_9 : ((k : Nat) : Int) = 9
  · refine k_tableIn (a := ((k : Nat) : Int)) (tgt := 87) Fx dX1_keyword_1 (by omega) (by omega) (by omega) (by rw [c_1_9]; rfl) (by decide) ?_
    refine va_ldcS Fx.1 Fx.2.1 Fx.2.2.2.1 ((X.ef hN).2.2.1.2 9 (by decide)) dX1_keyword_87 ?_
    exact r_aret Fx hr (by first | exact Or.inl ⟨_, rfl⟩ | exact Or.inr ⟨_, rfl⟩) hlk X (by decide) dX1_keyword_89 (⟨by rw [show k = 9 by omega], rfl⟩)
  by_cases c_1_10 : ((k : Nat) : Int) = 10
  · refine k_tableIn (a := ((k : Nat) : Int)) (tgt := 90) Fx dX1_keyword_1 (by omega) (by omega) (by omega) (by rw [c_1_10]; rfl) (by decide) ?_
    refine va_ldcS Fx.1 Fx.2.1 Fx.2.2.2.1 ((X.ef hN).2.2.1.2 10 (by decide)) dX1_keyword_90 ?_
    exact r_aret Fx hr (by first | exact Or.inl ⟨_, rfl⟩ | exact Or.inr ⟨_, rfl⟩) hlk X (by decide) dX1_keyword_92 (⟨by rw [show k = 10 by omega], rfl⟩)
  refine k_tableOut (a := ((k : Nat) : Int)) (tgt := 93) Fx dX1_keyword_1 (by omega) (by omega) (by decide) ?_
  refine va_ldcS Fx.1 Fx.2.1 Fx.2.2.2.1 ((X.ef hN).2.2.1.2 11 (by decide)) dX1_keyword_93 ?_
  exact r_aret Fx hr (by first | exact Or.inl ⟨_, rfl⟩ | exact Or.inr ⟨_, rfl⟩) hlk X (by decide) dX1_keyword_95 (⟨by rw [show k = 11 by omega], rfl⟩)

abbrev rm_X1_isSpelled : Room := ({ frames := 4, cells := 0, slots := 0, locals := 85 } : Room)
set_option maxHeartbeats 4000000 in
set_option maxRecDepth 100000 in
theorem c_X1_isSpelled {E : XX} (hE : XS E) (l : Launch) {Γ : GG} {κ : KK} (hN : EN E κ)  {ad : Nat → Nat} {ed : Nat} {f g : Nat → Nat → Int32} {tl : va_W} {tn : Nat} {tb : Nat → Nat} (hT : TapC tn tb f g) (hTB : TapB tn tb) {k a e9 : Nat} (hk : k < 12) (ha : a ≤ e9 ∧ e9 ≤ tn) (h4 : f 3 4 = iI (e9 : Nat)) (h6 : f 3 6 = iI (a : Nat)) : Con E l yX1_isSpelled cX1_isSpelled 3 (some .boolean) rm_X1_isSpelled Γ (wC Γ ad ed f g tl) [.ref (ad 3), .ref (κ.1 k)] (Qi (bI (SpK tb a (e9 - a) k)) (wC Γ ad ed f g tl)) := by
  refine Con_mk (by decide) (Nat.le_of_ble_eq_true rfl) ?_
  intro p e s₀ m args below meth c A Fx hr hlk hnm X ls hl
  have hl : lv_has ls 3 [(0, .ref (ad 3)), (1, .ref (κ.1 k))] := hl
  have hT2 := hTB.1
  refine lv_aload_n Fx.1 Fx.2.1 dX1_isSpelled_0 rfl (lv_at hl 1 rfl) ?_
  refine r_callVi (As := []) (rest := []) hE Fx X (c_J0_length_8abf5 hE l hN hk) cV_X1_119 (vk_recv (X.ef hN).2.2.1.1 hk X.2.2.2.1) rfl rfl (Nat.le_of_ble_eq_true rfl) (by decide) hl.1 dX1_isSpelled_1 (fun H locs X => ?_)
  have hkl := kw_len hk
  refine lv_aload_n Fx.1 Fx.2.1 dX1_isSpelled_4 rfl (lv_at hl 0 rfl) ?_
  refine gC_X1_21_3 (x := (iI (((e9 : Nat) : Int)))) Fx X (h4) dX1_isSpelled_5 ?_
  refine lv_aload_n Fx.1 Fx.2.1 dX1_isSpelled_8 rfl (lv_at hl 0 rfl) ?_
  refine gC_X1_27_3 (x := (iI (((a : Nat) : Int)))) Fx X (h6) dX1_isSpelled_9 ?_
  refine k_isub Fx dX1_isSpelled_12 ?_
  refine k_icmp_eq (a := ((kwL.getD k 0 : Nat) : Int)) (b := (((e9 : Nat) : Int) - ((a : Nat) : Int))) (tgt := 18) Fx dX1_isSpelled_13 (by decide) (by omega) (by omega) (fun c_13 => ?_) (fun c_13 => ?_)
  · refine k_iconst Fx dX1_isSpelled_18 ?_
    refine lv_istore_n (lv' := [(2, .int (iI (0))), (0, .ref (ad 3)), (1, .ref (κ.1 k))]) Fx.1 Fx.2.1 dX1_isSpelled_19 rfl hl (by decide) rfl (fun ls hl => ?_)
    have lp_20 : ∀ (nn : Nat) (j : Nat), kwL.getD k 0 - j < nn → (j ≤ kwL.getD k 0) → (∀ q, q < j → sB (tb (a + q)) = kwC k q) → ∀ (H : Heap) (locs : List Loc) (ls : Array Slot), Wd E Γ A s₀ H locs (wC Γ ad ed f g tl) → lv_has ls 3 [(0, .ref (ad 3)), (1, .ref (κ.1 k)), (2, .int (iI (((j : Nat) : Int))))] → W p l e rm_X1_isSpelled s₀ m args below meth c H locs (0) (0) (RQ below args s₀ Γ A (Qi (bI (SpK tb a (e9 - a) k)) (wC Γ ad ed f g tl)) rm_X1_isSpelled) (F0 m 20 ls []) := by
      intro nn
      induction nn with
      | zero => intro j hmu; exact absurd hmu (Nat.not_lt_zero _)
      | succ nn ih =>
        intro j hmu hj hsp H locs ls X hl
        have ih_20 := ih
        refine lv_iload_n Fx.1 Fx.2.1 dX1_isSpelled_20 rfl (lv_at hl 2 rfl) ?_
        refine lv_aload_n Fx.1 Fx.2.1 dX1_isSpelled_21 rfl (lv_at hl 1 rfl) ?_
        refine r_callVi (As := []) (rest := [.int (iI (((j : Nat) : Int)))]) hE Fx X (c_J0_length_8abf5 hE l hN hk) cV_X1_119 (vk_recv (X.ef hN).2.2.1.1 hk X.2.2.2.1) rfl rfl (Nat.le_of_ble_eq_true rfl) (by decide) hl.1 dX1_isSpelled_22 (fun H locs X => ?_)
        have hkl := kw_len hk
        refine k_icmp_ge (a := ((j : Nat) : Int)) (b := ((kwL.getD k 0 : Nat) : Int)) (tgt := 58) Fx dX1_isSpelled_25 (by decide) (by omega) (by omega) (fun c_25 => ?_) (fun c_25 => ?_)
        · refine k_iconst Fx dX1_isSpelled_58 ?_
          exact r_zret Fx hr hlk X (by decide) dX1_isSpelled_59 rfl (Qi_mk (bI_1 ⟨by omega, fun q9 h9 => hsp q9 (by omega)⟩))
        · refine lv_aload_n Fx.1 Fx.2.1 dX1_isSpelled_28 rfl (lv_at hl 0 rfl) ?_
          refine gC_X1_33_3 Fx X dX1_isSpelled_29 ?_
          refine gC_X1_91_2 Fx X dX1_isSpelled_32 ?_
          refine lv_aload_n Fx.1 Fx.2.1 dX1_isSpelled_35 rfl (lv_at hl 0 rfl) ?_
          refine gC_X1_27_3 (x := (iI (((a : Nat) : Int)))) Fx X (h6) dX1_isSpelled_36 ?_
          refine lv_iload_n Fx.1 Fx.2.1 dX1_isSpelled_39 rfl (lv_at hl 2 rfl) ?_
          refine k_iadd Fx dX1_isSpelled_40 ?_
          refine ldC_11 (z := (((a : Nat) : Int) + ((j : Nat) : Int))) (i := (a + j)) (x := (iI (sB (tb (a + j))))) Fx X (by omega) (by omega) (hT.2 (a + j)) dX1_isSpelled_41 ?_
          have hsb_x := sB_c (tb (a + j)) (hTB.2 _)
          have htb_x := hTB.2 (a + j)
          refine lv_aload_n Fx.1 Fx.2.1 dX1_isSpelled_42 rfl (lv_at hl 1 rfl) ?_
          refine lv_iload_n Fx.1 Fx.2.1 dX1_isSpelled_43 rfl (lv_at hl 2 rfl) ?_
          refine r_callVi (As := [.int (iI (((j : Nat) : Int)))]) (rest := [.int (iI (sB (tb (a + j))))]) hE Fx X (c_J0_charAt_5068e hE l hN hk (j := j) (by omega)) cV_X1_123 (vk_recv (X.ef hN).2.2.1.1 hk X.2.2.2.1) rfl rfl (Nat.le_of_ble_eq_true rfl) (by decide) hl.1 dX1_isSpelled_44 (fun H locs X => ?_)
          have hkc := kw_b hk (j := j) (by omega)
          refine k_icmp_eq (a := sB (tb (a + j))) (b := kwC k j) (tgt := 52) Fx dX1_isSpelled_47 (by decide) (by omega) (by omega) (fun c_47 => ?_) (fun c_47 => ?_)
          · refine k_iinc (k := 2) (a := ((j : Nat) : Int)) (lv' := [(2, .int (iI ((((j : Nat) : Int) + 1)))), (0, .ref (ad 3)), (1, .ref (κ.1 k))]) Fx dX1_isSpelled_52 hl rfl (by decide) rfl (fun ls hl => ?_)
            refine lv_goto (tgt := 20) Fx.1 Fx.2.1 dX1_isSpelled_55 (by decide) ?_
            have hl_1 := lv_rp hl 0 rfl (show (iI ((((j : Nat) : Int) + 1))) = (iI ((((j + 1) : Nat) : Int))) from congrArg iI (by omega))
            exact ih_20 (j + 1) (by omega) (by omega) (lt_s hsp c_47) _ _ _ X (lv_sub hl_1 [1, 2, 0] rfl)
          · refine k_iconst Fx dX1_isSpelled_50 ?_
            exact r_zret Fx hr hlk X (by decide) dX1_isSpelled_51 rfl (Qi_mk (bI_0 (fun z => c_47 (z.2 j (by omega)))))
    have hl_2 := lv_rp hl 0 rfl (show (iI (0)) = (iI (((0 : Nat) : Int))) from congrArg iI (by omega))
    exact lp_20 _ (0) (Nat.lt_succ_self _) (by omega) (fun q h => absurd h (Nat.not_lt_zero q)) _ _ _ X (lv_sub hl_2 [1, 2, 0] rfl)
  · refine k_iconst Fx dX1_isSpelled_16 ?_
    exact r_zret Fx hr hlk X (by decide) dX1_isSpelled_17 rfl (Qi_mk (bI_0 (fun z => by have := z.1; omega)))

theorem wk_t {tb : Nat → Nat} {p len k : Nat} (h : SpK tb p len k) : ((k : Nat) : Int) = wkV tb p len (k + 1) ∧ (1 : Int) = (if wkV tb p len (k + 1) = -1 then 4 else 1) := by
  have e : wkV tb p len (k + 1) = k := if_pos h
  rw [e]; exact ⟨rfl, by rw [if_neg (by omega)]⟩
theorem wk_f {tb : Nat → Nat} {p len k : Nat} (h : ¬ SpK tb p len k) : wkV tb p len k = wkV tb p len (k + 1) := (if_neg h).symm

abbrev rm_X1_scanWord : Room := ({ frames := 5, cells := 0, slots := 0, locals := 107 } : Room)
set_option maxHeartbeats 4000000 in
set_option maxRecDepth 100000 in
theorem c_X1_scanWord {E : XX} (hE : XS E) (l : Launch) {Γ : GG} {κ : KK} (hN : EN E κ)  {ad : Nat → Nat} {ed : Nat} {f g : Nat → Nat → Int32} {tl : va_W} {tn : Nat} {tb : Nat → Nat} (hT : TapC tn tb f g) (hTB : TapB tn tb) {a : Nat} (ha : a ≤ tn) (h4 : f 3 4 = iI (a : Nat)) (h6 : f 3 6 = iI (a : Nat)) (h7 : f 3 7 = iI (-1)) : Con E l yX1_scanWord cX1_scanWord 2 none rm_X1_scanWord Γ (wC Γ ad ed f g tl) [.ref (ad 3)] (fun v w2 => v = none ∧ ∃ f1, w2 = wC Γ ad ed f1 g tl ∧ f1 3 4 = iI ((spn (tLe tb) tn a : Nat) : Int) ∧ f1 3 5 = iI (if wkV tb a (spn (tLe tb) tn a - a) 11 = -1 then 4 else 1) ∧ f1 3 6 = iI ((a : Nat) : Int) ∧ f1 3 7 = iI (wkV tb a (spn (tLe tb) tn a - a) 11) ∧ FrK f1 f) := by
  refine Con_mk (by decide) (Nat.le_of_ble_eq_true rfl) ?_
  intro p e s₀ m args below meth c A Fx hr hlk hnm X ls hl
  have hl : lv_has ls 2 [(0, .ref (ad 3))] := hl
  have lp_0 : ∀ (nn : Nat) (e9 : Nat) (f1 : Nat → Nat → Int32), tn - e9 < nn → (a ≤ e9 ∧ e9 ≤ tn) → (TapC tn tb f1 g) → (f1 3 4 = iI (e9 : Nat)) → (f1 3 6 = iI (a : Nat)) → (f1 3 7 = iI (-1)) → (spn (tLe tb) tn e9 = spn (tLe tb) tn a) → (FrK f1 f) → ∀ (H : Heap) (locs : List Loc) (ls : Array Slot), Wd E Γ A s₀ H locs (wC Γ ad ed f1 g tl) → lv_has ls 2 [(0, .ref (ad 3))] → W p l e rm_X1_scanWord s₀ m args below meth c H locs (0) (0) (RQ below args s₀ Γ A (fun v w2 => v = none ∧ ∃ f1, w2 = wC Γ ad ed f1 g tl ∧ f1 3 4 = iI ((spn (tLe tb) tn a : Nat) : Int) ∧ f1 3 5 = iI (if wkV tb a (spn (tLe tb) tn a - a) 11 = -1 then 4 else 1) ∧ f1 3 6 = iI ((a : Nat) : Int) ∧ f1 3 7 = iI (wkV tb a (spn (tLe tb) tn a - a) 11) ∧ FrK f1 f) rm_X1_scanWord) (F0 m 0 ls []) := by
    intro nn
    induction nn with
    | zero => intro e9 f1 hmu; exact absurd hmu (Nat.not_lt_zero _)
    | succ nn ih =>
      intro e9 f1 hmu he hT h4 h6 h7 hs hFr H locs ls X hl
      have ih_0 := ih
      have hT2 := hTB.1
      refine lv_aload_n Fx.1 Fx.2.1 dX1_scanWord_0 rfl (lv_at hl 0 rfl) ?_
      refine gC_X1_21_3 (x := (iI (((e9 : Nat) : Int)))) Fx X (h4) dX1_scanWord_1 ?_
      refine lv_aload_n Fx.1 Fx.2.1 dX1_scanWord_4 rfl (lv_at hl 0 rfl) ?_
      refine gC_X1_33_3 Fx X dX1_scanWord_5 ?_
      refine gC_X1_86_2 (x := (iI (((tn : Nat) : Int)))) Fx X (hT.1) dX1_scanWord_8 ?_
      refine k_icmp_ge (a := ((e9 : Nat) : Int)) (b := ((tn : Nat) : Int)) (tgt := 45) Fx dX1_scanWord_11 (by decide) (by omega) (by omega) (fun c_11 => ?_) (fun c_11 => ?_)
      · have hsp : spn (tLe tb) tn a = e9 := hs.symm.trans (spn_f (by unfold tLe; omega))
        refine lv_aload_n Fx.1 Fx.2.1 dX1_scanWord_45 rfl (lv_at hl 0 rfl) ?_
        refine k_iconst Fx dX1_scanWord_46 ?_
        refine pC_X1_24_3 Fx X dX1_scanWord_47 (fun H locs X => ?_)
        refine k_iconst Fx dX1_scanWord_50 ?_
        refine lv_istore_n (lv' := [(1, .int (iI (0))), (0, .ref (ad 3))]) Fx.1 Fx.2.1 dX1_scanWord_51 rfl hl (by decide) rfl (fun ls hl => ?_)
        have lp_52 : ∀ (nn : Nat) (k9 : Nat) (f2 : Nat → Nat → Int32), 11 - k9 < nn → (k9 ≤ 11) → (TapC tn tb f2 g) → (f2 3 4 = iI (e9 : Nat)) → (f2 3 5 = iI (if wkV tb a (e9 - a) k9 = -1 then 4 else 1)) → (f2 3 6 = iI (a : Nat)) → (f2 3 7 = iI (wkV tb a (e9 - a) k9)) → (FrK f2 f) → ∀ (H : Heap) (locs : List Loc) (ls : Array Slot), Wd E Γ A s₀ H locs (wC Γ ad ed f2 g tl) → lv_has ls 2 [(0, .ref (ad 3)), (1, .int (iI (((k9 : Nat) : Int))))] → W p l e rm_X1_scanWord s₀ m args below meth c H locs (0) (0) (RQ below args s₀ Γ A (fun v w2 => v = none ∧ ∃ f1, w2 = wC Γ ad ed f1 g tl ∧ f1 3 4 = iI ((spn (tLe tb) tn a : Nat) : Int) ∧ f1 3 5 = iI (if wkV tb a (spn (tLe tb) tn a - a) 11 = -1 then 4 else 1) ∧ f1 3 6 = iI ((a : Nat) : Int) ∧ f1 3 7 = iI (wkV tb a (spn (tLe tb) tn a - a) 11) ∧ FrK f1 f) rm_X1_scanWord) (F0 m 52 ls []) := by
          intro nn
          induction nn with
          | zero => intro k9 f2 hmu; exact absurd hmu (Nat.not_lt_zero _)
          | succ nn ih =>
            intro k9 f2 hmu hk hT h4 h5 h6 h7 hFr H locs ls X hl
            have ih_52 := ih
            refine lv_iload_n Fx.1 Fx.2.1 dX1_scanWord_52 rfl (lv_at hl 1 rfl) ?_
            refine k_bipush Fx dX1_scanWord_53 (by decide) ?_
            refine k_icmp_ge (a := ((k9 : Nat) : Int)) (b := 11) (tgt := 85) Fx dX1_scanWord_55 (by decide) (by omega) (by omega) (fun c_55 => ?_) (fun c_55 => ?_)
            · exact r_vret Fx hr hlk X (by decide) dX1_scanWord_85 (⟨rfl, _, rfl, by rw [hsp]; exact h4, by rw [hsp]; exact (show k9 = 11 by omega) ▸ h5, h6, by rw [hsp]; exact (show k9 = 11 by omega) ▸ h7, hFr⟩)
            · have hk9 : k9 < 11 := by omega
              refine lv_aload_n Fx.1 Fx.2.1 dX1_scanWord_58 rfl (lv_at hl 0 rfl) ?_
              refine lv_iload_n Fx.1 Fx.2.1 dX1_scanWord_59 rfl (lv_at hl 1 rfl) ?_
              refine r_callSr (As := [.int (iI (((k9 : Nat) : Int)))]) (rest := [.ref (ad 3)]) hE Fx X (c_X1_keyword hE l hN (k := k9) (by omega)) cS_X1_111 rfl rfl (Nat.le_of_ble_eq_true rfl) (by decide) hl.1 dX1_scanWord_60 (fun H locs X => ?_)
              refine r_callVi (As := [.ref (κ.1 k9)]) (rest := []) hE Fx X (c_X1_isSpelled hE l hN (by exact hT) hTB (k := k9) (a := a) (e9 := e9) (by omega) (by omega) (by exact h4) (by exact h6)) cV_X1_115 (recC_3 X) rfl rfl (Nat.le_of_ble_eq_true rfl) (by decide) hl.1 dX1_scanWord_63 (fun H locs X => ?_)
              refine k_bif_eq (tgt := 79) Fx dX1_scanWord_66 (by decide) (fun c_66 => ?_) (fun c_66 => ?_)
              · refine k_iinc (k := 1) (a := ((k9 : Nat) : Int)) (lv' := [(1, .int (iI ((((k9 : Nat) : Int) + 1)))), (0, .ref (ad 3))]) Fx dX1_scanWord_79 hl rfl (by decide) rfl (fun ls hl => ?_)
                refine lv_goto (tgt := 52) Fx.1 Fx.2.1 dX1_scanWord_82 (by decide) ?_
                have hl_1 := lv_rp hl 0 rfl (show (iI ((((k9 : Nat) : Int) + 1))) = (iI ((((k9 + 1) : Nat) : Int))) from congrArg iI (by omega))
                exact ih_52 (k9 + 1) (f2) (by omega) (by omega) (hT) (h4) (h5.trans (by rw [wk_f c_66])) (h6) (h7.trans (by rw [wk_f c_66])) (hFr) _ _ _ X (lv_sub hl_1 [1, 0] rfl)
              · refine lv_aload_n Fx.1 Fx.2.1 dX1_scanWord_69 rfl (lv_at hl 0 rfl) ?_
                refine k_iconst Fx dX1_scanWord_70 ?_
                refine pC_X1_24_3 Fx X dX1_scanWord_71 (fun H locs X => ?_)
                refine lv_aload_n Fx.1 Fx.2.1 dX1_scanWord_74 rfl (lv_at hl 0 rfl) ?_
                refine lv_iload_n Fx.1 Fx.2.1 dX1_scanWord_75 rfl (lv_at hl 1 rfl) ?_
                refine pC_X1_30_3 Fx X dX1_scanWord_76 (fun H locs X => ?_)
                refine k_iinc (k := 1) (a := ((k9 : Nat) : Int)) (lv' := [(1, .int (iI ((((k9 : Nat) : Int) + 1)))), (0, .ref (ad 3))]) Fx dX1_scanWord_79 hl rfl (by decide) rfl (fun ls hl => ?_)
                refine lv_goto (tgt := 52) Fx.1 Fx.2.1 dX1_scanWord_82 (by decide) ?_
                have hl_2 := lv_rp hl 0 rfl (show (iI ((((k9 : Nat) : Int) + 1))) = (iI ((((k9 + 1) : Nat) : Int))) from congrArg iI (by omega))
                exact ih_52 (k9 + 1) ((updA (updA f2 3 (upd (f2 3) 5 (iI (1)))) 3 (upd ((updA f2 3 (upd (f2 3) 5 (iI (1)))) 3) 7 (iI (((k9 : Nat) : Int)))))) (by omega) (by omega) (hT) (h4) (congrArg iI (wk_t c_66).2) (h6) (congrArg iI (wk_t c_66).1) (FrK_u (by omega) (FrK_u (by omega) hFr)) _ _ _ X (lv_sub hl_2 [1, 0] rfl)
        have hl_3 := lv_rp hl 0 rfl (show (iI (0)) = (iI (((0 : Nat) : Int))) from congrArg iI (by omega))
        exact lp_52 _ (0) ((updA f1 3 (upd (f1 3) 5 (iI (4))))) (Nat.lt_succ_self _) (by omega) (hT) (h4) (rfl) (h6) (h7) (FrK_u (by omega) hFr) _ _ _ X (lv_sub hl_3 [1, 0] rfl)
      · refine lv_aload_n Fx.1 Fx.2.1 dX1_scanWord_14 rfl (lv_at hl 0 rfl) ?_
        refine gC_X1_33_3 Fx X dX1_scanWord_15 ?_
        refine gC_X1_91_2 Fx X dX1_scanWord_18 ?_
        refine lv_aload_n Fx.1 Fx.2.1 dX1_scanWord_21 rfl (lv_at hl 0 rfl) ?_
        refine gC_X1_21_3 (x := (iI (((e9 : Nat) : Int)))) Fx X (h4) dX1_scanWord_22 ?_
        refine ldC_11 (z := ((e9 : Nat) : Int)) (i := e9) (x := (iI (sB (tb e9)))) Fx X (rfl) (by omega) (hT.2 e9) dX1_scanWord_25 ?_
        have hsb_x := sB_c (tb e9) (hTB.2 _)
        have htb_x := hTB.2 e9
        refine r_callSi (As := [.int (iI (sB (tb e9)))]) (rest := []) hE Fx X (c_X1_isLetter hE l (u := (tb e9)) (hTB.2 _)) cS_X1_99 rfl rfl (Nat.le_of_ble_eq_true rfl) (by decide) hl.1 dX1_scanWord_26 (fun H locs X => ?_)
        refine k_bif_eq (tgt := 45) Fx dX1_scanWord_29 (by decide) (fun c_29 => ?_) (fun c_29 => ?_)
        · have hsp : spn (tLe tb) tn a = e9 := hs.symm.trans (spn_f (by unfold tLe; omega))
          refine lv_aload_n Fx.1 Fx.2.1 dX1_scanWord_45 rfl (lv_at hl 0 rfl) ?_
          refine k_iconst Fx dX1_scanWord_46 ?_
          refine pC_X1_24_3 Fx X dX1_scanWord_47 (fun H locs X => ?_)
          refine k_iconst Fx dX1_scanWord_50 ?_
          refine lv_istore_n (lv' := [(1, .int (iI (0))), (0, .ref (ad 3))]) Fx.1 Fx.2.1 dX1_scanWord_51 rfl hl (by decide) rfl (fun ls hl => ?_)
          have lp_52 : ∀ (nn : Nat) (k9 : Nat) (f2 : Nat → Nat → Int32), 11 - k9 < nn → (k9 ≤ 11) → (TapC tn tb f2 g) → (f2 3 4 = iI (e9 : Nat)) → (f2 3 5 = iI (if wkV tb a (e9 - a) k9 = -1 then 4 else 1)) → (f2 3 6 = iI (a : Nat)) → (f2 3 7 = iI (wkV tb a (e9 - a) k9)) → (FrK f2 f) → ∀ (H : Heap) (locs : List Loc) (ls : Array Slot), Wd E Γ A s₀ H locs (wC Γ ad ed f2 g tl) → lv_has ls 2 [(0, .ref (ad 3)), (1, .int (iI (((k9 : Nat) : Int))))] → W p l e rm_X1_scanWord s₀ m args below meth c H locs (0) (0) (RQ below args s₀ Γ A (fun v w2 => v = none ∧ ∃ f1, w2 = wC Γ ad ed f1 g tl ∧ f1 3 4 = iI ((spn (tLe tb) tn a : Nat) : Int) ∧ f1 3 5 = iI (if wkV tb a (spn (tLe tb) tn a - a) 11 = -1 then 4 else 1) ∧ f1 3 6 = iI ((a : Nat) : Int) ∧ f1 3 7 = iI (wkV tb a (spn (tLe tb) tn a - a) 11) ∧ FrK f1 f) rm_X1_scanWord) (F0 m 52 ls []) := by
            intro nn
            induction nn with
            | zero => intro k9 f2 hmu; exact absurd hmu (Nat.not_lt_zero _)
            | succ nn ih =>
              intro k9 f2 hmu hk hT h4 h5 h6 h7 hFr H locs ls X hl
              have ih_52 := ih
              refine lv_iload_n Fx.1 Fx.2.1 dX1_scanWord_52 rfl (lv_at hl 1 rfl) ?_
              refine k_bipush Fx dX1_scanWord_53 (by decide) ?_
              refine k_icmp_ge (a := ((k9 : Nat) : Int)) (b := 11) (tgt := 85) Fx dX1_scanWord_55 (by decide) (by omega) (by omega) (fun c_55 => ?_) (fun c_55 => ?_)
              · exact r_vret Fx hr hlk X (by decide) dX1_scanWord_85 (⟨rfl, _, rfl, by rw [hsp]; exact h4, by rw [hsp]; exact (show k9 = 11 by omega) ▸ h5, h6, by rw [hsp]; exact (show k9 = 11 by omega) ▸ h7, hFr⟩)
              · have hk9 : k9 < 11 := by omega
                refine lv_aload_n Fx.1 Fx.2.1 dX1_scanWord_58 rfl (lv_at hl 0 rfl) ?_
                refine lv_iload_n Fx.1 Fx.2.1 dX1_scanWord_59 rfl (lv_at hl 1 rfl) ?_
                refine r_callSr (As := [.int (iI (((k9 : Nat) : Int)))]) (rest := [.ref (ad 3)]) hE Fx X (c_X1_keyword hE l hN (k := k9) (by omega)) cS_X1_111 rfl rfl (Nat.le_of_ble_eq_true rfl) (by decide) hl.1 dX1_scanWord_60 (fun H locs X => ?_)
                refine r_callVi (As := [.ref (κ.1 k9)]) (rest := []) hE Fx X (c_X1_isSpelled hE l hN (by exact hT) hTB (k := k9) (a := a) (e9 := e9) (by omega) (by omega) (by exact h4) (by exact h6)) cV_X1_115 (recC_3 X) rfl rfl (Nat.le_of_ble_eq_true rfl) (by decide) hl.1 dX1_scanWord_63 (fun H locs X => ?_)
                refine k_bif_eq (tgt := 79) Fx dX1_scanWord_66 (by decide) (fun c_66 => ?_) (fun c_66 => ?_)
                · refine k_iinc (k := 1) (a := ((k9 : Nat) : Int)) (lv' := [(1, .int (iI ((((k9 : Nat) : Int) + 1)))), (0, .ref (ad 3))]) Fx dX1_scanWord_79 hl rfl (by decide) rfl (fun ls hl => ?_)
                  refine lv_goto (tgt := 52) Fx.1 Fx.2.1 dX1_scanWord_82 (by decide) ?_
                  have hl_4 := lv_rp hl 0 rfl (show (iI ((((k9 : Nat) : Int) + 1))) = (iI ((((k9 + 1) : Nat) : Int))) from congrArg iI (by omega))
                  exact ih_52 (k9 + 1) (f2) (by omega) (by omega) (hT) (h4) (h5.trans (by rw [wk_f c_66])) (h6) (h7.trans (by rw [wk_f c_66])) (hFr) _ _ _ X (lv_sub hl_4 [1, 0] rfl)
                · refine lv_aload_n Fx.1 Fx.2.1 dX1_scanWord_69 rfl (lv_at hl 0 rfl) ?_
                  refine k_iconst Fx dX1_scanWord_70 ?_
                  refine pC_X1_24_3 Fx X dX1_scanWord_71 (fun H locs X => ?_)
                  refine lv_aload_n Fx.1 Fx.2.1 dX1_scanWord_74 rfl (lv_at hl 0 rfl) ?_
                  refine lv_iload_n Fx.1 Fx.2.1 dX1_scanWord_75 rfl (lv_at hl 1 rfl) ?_
                  refine pC_X1_30_3 Fx X dX1_scanWord_76 (fun H locs X => ?_)
                  refine k_iinc (k := 1) (a := ((k9 : Nat) : Int)) (lv' := [(1, .int (iI ((((k9 : Nat) : Int) + 1)))), (0, .ref (ad 3))]) Fx dX1_scanWord_79 hl rfl (by decide) rfl (fun ls hl => ?_)
                  refine lv_goto (tgt := 52) Fx.1 Fx.2.1 dX1_scanWord_82 (by decide) ?_
                  have hl_5 := lv_rp hl 0 rfl (show (iI ((((k9 : Nat) : Int) + 1))) = (iI ((((k9 + 1) : Nat) : Int))) from congrArg iI (by omega))
                  exact ih_52 (k9 + 1) ((updA (updA f2 3 (upd (f2 3) 5 (iI (1)))) 3 (upd ((updA f2 3 (upd (f2 3) 5 (iI (1)))) 3) 7 (iI (((k9 : Nat) : Int)))))) (by omega) (by omega) (hT) (h4) (congrArg iI (wk_t c_66).2) (h6) (congrArg iI (wk_t c_66).1) (FrK_u (by omega) (FrK_u (by omega) hFr)) _ _ _ X (lv_sub hl_5 [1, 0] rfl)
          have hl_6 := lv_rp hl 0 rfl (show (iI (0)) = (iI (((0 : Nat) : Int))) from congrArg iI (by omega))
          exact lp_52 _ (0) ((updA f1 3 (upd (f1 3) 5 (iI (4))))) (Nat.lt_succ_self _) (by omega) (hT) (h4) (rfl) (h6) (h7) (FrK_u (by omega) hFr) _ _ _ X (lv_sub hl_6 [1, 0] rfl)
        · refine lv_aload_n Fx.1 Fx.2.1 dX1_scanWord_32 rfl (lv_at hl 0 rfl) ?_
          refine lv_dup Fx.1 Fx.2.1 dX1_scanWord_33 rfl ?_
          refine gC_X1_21_3 (x := (iI (((e9 : Nat) : Int)))) Fx X (h4) dX1_scanWord_34 ?_
          refine k_iconst Fx dX1_scanWord_37 ?_
          refine k_iadd Fx dX1_scanWord_38 ?_
          refine pC_X1_21_3 Fx X dX1_scanWord_39 (fun H locs X => ?_)
          refine lv_goto (tgt := 0) Fx.1 Fx.2.1 dX1_scanWord_42 (by decide) ?_
          exact ih_0 (e9 + 1) ((updA f1 3 (upd (f1 3) 4 (iI ((((e9 : Nat) : Int) + 1)))))) (by omega) (by omega) (hT) (rfl) (h6) (h7) ((spn_t (i := e9) (by unfold tLe; omega)).symm.trans hs) (FrK_u (by omega) hFr) _ _ _ X (lv_sub hl [0] rfl)
  exact lp_0 _ (a) (f) (Nat.lt_succ_self _) (by omega) (hT) (h4) (h6) (h7) (rfl) (fun _ _ _ => rfl) _ _ _ X (lv_sub hl [0] rfl)

abbrev rm_X1_scanNumber : Room := ({ frames := 1, cells := 0, slots := 0, locals := 20 } : Room)
set_option maxHeartbeats 4000000 in
set_option maxRecDepth 100000 in
theorem c_X1_scanNumber {E : XX} (hE : XS E) (l : Launch) {Γ : GG} {ad : Nat → Nat} {ed : Nat} {f g : Nat → Nat → Int32} {tl : va_W} {tn : Nat} {tb : Nat → Nat} (hT : TapC tn tb f g) (hTB : TapB tn tb) {a : Nat} (ha : a ≤ tn) (h4 : f 3 4 = iI (a : Nat)) (h6 : f 3 6 = iI (a : Nat)) (h7 : f 3 7 = iI (-1)) : Con E l yX1_scanNumber cX1_scanNumber 2 none rm_X1_scanNumber Γ (wC Γ ad ed f g tl) [.ref (ad 3)] (fun v w2 => v = none ∧ ∃ f1, w2 = wC Γ ad ed f1 g tl ∧ f1 3 4 = iI ((spn (tDg tb) tn a : Nat) : Int) ∧ f1 3 5 = iI (if spn (tDg tb) tn a - a ≤ 2 then 2 else 4) ∧ f1 3 6 = iI ((a : Nat) : Int) ∧ f1 3 7 = iI (if spn (tDg tb) tn a - a ≤ 2 then cvW tb a (spn (tDg tb) tn a - a) else -1) ∧ FrK f1 f) := by
  refine Con_mk (by decide) (Nat.le_of_ble_eq_true rfl) ?_
  intro p e s₀ m args below meth c A Fx hr hlk hnm X ls hl
  have hl : lv_has ls 2 [(0, .ref (ad 3))] := hl
  have hT2 := hTB.1
  refine k_iconst Fx dX1_scanNumber_0 ?_
  refine lv_istore_n (lv' := [(1, .int (iI (0))), (0, .ref (ad 3))]) Fx.1 Fx.2.1 dX1_scanNumber_1 rfl hl (by decide) rfl (fun ls hl => ?_)
  have lp_2 : ∀ (nn : Nat) (e9 : Nat) (f1 : Nat → Nat → Int32), tn - e9 < nn → (a ≤ e9 ∧ e9 ≤ tn) → (TapC tn tb f1 g) → (f1 3 4 = iI (e9 : Nat)) → (f1 3 6 = iI (a : Nat)) → (f1 3 7 = iI (-1)) → (spn (tDg tb) tn e9 = spn (tDg tb) tn a) → (FrK f1 f) → ∀ (H : Heap) (locs : List Loc) (ls : Array Slot), Wd E Γ A s₀ H locs (wC Γ ad ed f1 g tl) → lv_has ls 2 [(0, .ref (ad 3)), (1, .int (iI (cvW tb a (e9 - a))))] → W p l e rm_X1_scanNumber s₀ m args below meth c H locs (0) (0) (RQ below args s₀ Γ A (fun v w2 => v = none ∧ ∃ f1, w2 = wC Γ ad ed f1 g tl ∧ f1 3 4 = iI ((spn (tDg tb) tn a : Nat) : Int) ∧ f1 3 5 = iI (if spn (tDg tb) tn a - a ≤ 2 then 2 else 4) ∧ f1 3 6 = iI ((a : Nat) : Int) ∧ f1 3 7 = iI (if spn (tDg tb) tn a - a ≤ 2 then cvW tb a (spn (tDg tb) tn a - a) else -1) ∧ FrK f1 f) rm_X1_scanNumber) (F0 m 2 ls []) := by
    intro nn
    induction nn with
    | zero => intro e9 f1 hmu; exact absurd hmu (Nat.not_lt_zero _)
    | succ nn ih =>
      intro e9 f1 hmu he hT h4 h6 h7 hs hFr H locs ls X hl
      have ih_2 := ih
      refine lv_aload_n Fx.1 Fx.2.1 dX1_scanNumber_2 rfl (lv_at hl 0 rfl) ?_
      refine gC_X1_21_3 (x := (iI (((e9 : Nat) : Int)))) Fx X (h4) dX1_scanNumber_3 ?_
      refine lv_aload_n Fx.1 Fx.2.1 dX1_scanNumber_6 rfl (lv_at hl 0 rfl) ?_
      refine gC_X1_33_3 Fx X dX1_scanNumber_7 ?_
      refine gC_X1_86_2 (x := (iI (((tn : Nat) : Int)))) Fx X (hT.1) dX1_scanNumber_10 ?_
      refine k_icmp_ge (a := ((e9 : Nat) : Int)) (b := ((tn : Nat) : Int)) (tgt := 68) Fx dX1_scanNumber_13 (by decide) (by omega) (by omega) (fun c_13 => ?_) (fun c_13 => ?_)
      · have hsp : spn (tDg tb) tn a = e9 := hs.symm.trans (spn_f (by unfold tDg; omega))
        refine lv_aload_n Fx.1 Fx.2.1 dX1_scanNumber_68 rfl (lv_at hl 0 rfl) ?_
        refine k_iconst Fx dX1_scanNumber_69 ?_
        refine pC_X1_24_3 Fx X dX1_scanNumber_70 (fun H locs X => ?_)
        refine lv_aload_n Fx.1 Fx.2.1 dX1_scanNumber_73 rfl (lv_at hl 0 rfl) ?_
        refine gC_X1_21_3 (x := (iI (((e9 : Nat) : Int)))) Fx X (h4) dX1_scanNumber_74 ?_
        refine lv_aload_n Fx.1 Fx.2.1 dX1_scanNumber_77 rfl (lv_at hl 0 rfl) ?_
        refine gC_X1_27_3 (x := (iI (((a : Nat) : Int)))) Fx X (h6) dX1_scanNumber_78 ?_
        refine k_isub Fx dX1_scanNumber_81 ?_
        refine k_iconst Fx dX1_scanNumber_82 ?_
        refine k_icmp_gt (a := (((e9 : Nat) : Int) - ((a : Nat) : Int))) (b := 2) (tgt := 96) Fx dX1_scanNumber_83 (by decide) (by omega) (by omega) (fun c_83 => ?_) (fun c_83 => ?_)
        · exact r_vret Fx hr hlk X (by decide) dX1_scanNumber_96 (⟨rfl, _, rfl, by rw [hsp]; exact h4, by rw [hsp, if_neg (by omega)]; rfl, h6, by rw [hsp, if_neg (by omega)]; exact h7, FrK_u (by omega) hFr⟩)
        · refine lv_aload_n Fx.1 Fx.2.1 dX1_scanNumber_86 rfl (lv_at hl 0 rfl) ?_
          refine k_iconst Fx dX1_scanNumber_87 ?_
          refine pC_X1_24_3 Fx X dX1_scanNumber_88 (fun H locs X => ?_)
          refine lv_aload_n Fx.1 Fx.2.1 dX1_scanNumber_91 rfl (lv_at hl 0 rfl) ?_
          refine lv_iload_n Fx.1 Fx.2.1 dX1_scanNumber_92 rfl (lv_at hl 1 rfl) ?_
          refine pC_X1_30_3 Fx X dX1_scanNumber_93 (fun H locs X => ?_)
          exact r_vret Fx hr hlk X (by decide) dX1_scanNumber_96 (⟨rfl, _, rfl, by rw [hsp]; exact h4, by rw [hsp, if_pos (by omega)]; rfl, h6, by rw [hsp, if_pos (by omega)]; rfl, FrK_u (by omega) (FrK_u (by omega) (FrK_u (by omega) hFr))⟩)
      · refine lv_aload_n Fx.1 Fx.2.1 dX1_scanNumber_16 rfl (lv_at hl 0 rfl) ?_
        refine gC_X1_33_3 Fx X dX1_scanNumber_17 ?_
        refine gC_X1_91_2 Fx X dX1_scanNumber_20 ?_
        refine lv_aload_n Fx.1 Fx.2.1 dX1_scanNumber_23 rfl (lv_at hl 0 rfl) ?_
        refine gC_X1_21_3 (x := (iI (((e9 : Nat) : Int)))) Fx X (h4) dX1_scanNumber_24 ?_
        refine ldC_11 (z := ((e9 : Nat) : Int)) (i := e9) (x := (iI (sB (tb e9)))) Fx X (rfl) (by omega) (hT.2 e9) dX1_scanNumber_27 ?_
        have hsb_x := sB_c (tb e9) (hTB.2 _)
        have htb_x := hTB.2 e9
        refine r_callSi (As := [.int (iI (sB (tb e9)))]) (rest := []) hE Fx X (c_X1_isDigit hE l (u := (tb e9)) (hTB.2 _)) cS_X1_105 rfl rfl (Nat.le_of_ble_eq_true rfl) (by decide) hl.1 dX1_scanNumber_28 (fun H locs X => ?_)
        refine k_bif_eq (tgt := 68) Fx dX1_scanNumber_31 (by decide) (fun c_31 => ?_) (fun c_31 => ?_)
        · have hsp : spn (tDg tb) tn a = e9 := hs.symm.trans (spn_f (by unfold tDg; omega))
          refine lv_aload_n Fx.1 Fx.2.1 dX1_scanNumber_68 rfl (lv_at hl 0 rfl) ?_
          refine k_iconst Fx dX1_scanNumber_69 ?_
          refine pC_X1_24_3 Fx X dX1_scanNumber_70 (fun H locs X => ?_)
          refine lv_aload_n Fx.1 Fx.2.1 dX1_scanNumber_73 rfl (lv_at hl 0 rfl) ?_
          refine gC_X1_21_3 (x := (iI (((e9 : Nat) : Int)))) Fx X (h4) dX1_scanNumber_74 ?_
          refine lv_aload_n Fx.1 Fx.2.1 dX1_scanNumber_77 rfl (lv_at hl 0 rfl) ?_
          refine gC_X1_27_3 (x := (iI (((a : Nat) : Int)))) Fx X (h6) dX1_scanNumber_78 ?_
          refine k_isub Fx dX1_scanNumber_81 ?_
          refine k_iconst Fx dX1_scanNumber_82 ?_
          refine k_icmp_gt (a := (((e9 : Nat) : Int) - ((a : Nat) : Int))) (b := 2) (tgt := 96) Fx dX1_scanNumber_83 (by decide) (by omega) (by omega) (fun c_83 => ?_) (fun c_83 => ?_)
          · exact r_vret Fx hr hlk X (by decide) dX1_scanNumber_96 (⟨rfl, _, rfl, by rw [hsp]; exact h4, by rw [hsp, if_neg (by omega)]; rfl, h6, by rw [hsp, if_neg (by omega)]; exact h7, FrK_u (by omega) hFr⟩)
          · refine lv_aload_n Fx.1 Fx.2.1 dX1_scanNumber_86 rfl (lv_at hl 0 rfl) ?_
            refine k_iconst Fx dX1_scanNumber_87 ?_
            refine pC_X1_24_3 Fx X dX1_scanNumber_88 (fun H locs X => ?_)
            refine lv_aload_n Fx.1 Fx.2.1 dX1_scanNumber_91 rfl (lv_at hl 0 rfl) ?_
            refine lv_iload_n Fx.1 Fx.2.1 dX1_scanNumber_92 rfl (lv_at hl 1 rfl) ?_
            refine pC_X1_30_3 Fx X dX1_scanNumber_93 (fun H locs X => ?_)
            exact r_vret Fx hr hlk X (by decide) dX1_scanNumber_96 (⟨rfl, _, rfl, by rw [hsp]; exact h4, by rw [hsp, if_pos (by omega)]; rfl, h6, by rw [hsp, if_pos (by omega)]; rfl, FrK_u (by omega) (FrK_u (by omega) (FrK_u (by omega) hFr))⟩)
        · refine k_bipush Fx dX1_scanNumber_34 (by decide) ?_
          refine lv_iload_n Fx.1 Fx.2.1 dX1_scanNumber_36 rfl (lv_at hl 1 rfl) ?_
          refine k_imul Fx dX1_scanNumber_37 ?_
          refine lv_aload_n Fx.1 Fx.2.1 dX1_scanNumber_38 rfl (lv_at hl 0 rfl) ?_
          refine gC_X1_33_3 Fx X dX1_scanNumber_39 ?_
          refine gC_X1_91_2 Fx X dX1_scanNumber_42 ?_
          refine lv_aload_n Fx.1 Fx.2.1 dX1_scanNumber_45 rfl (lv_at hl 0 rfl) ?_
          refine gC_X1_21_3 (x := (iI (((e9 : Nat) : Int)))) Fx X (h4) dX1_scanNumber_46 ?_
          refine ldC_11 (z := ((e9 : Nat) : Int)) (i := e9) (x := (iI (sB (tb e9)))) Fx X (rfl) (by omega) (hT.2 e9) dX1_scanNumber_49 ?_
          have hsb_x := sB_c (tb e9) (hTB.2 _)
          have htb_x := hTB.2 e9
          refine k_iadd Fx dX1_scanNumber_50 ?_
          refine k_bipush Fx dX1_scanNumber_51 (by decide) ?_
          refine k_isub Fx dX1_scanNumber_53 ?_
          refine k_cg (show (iI ((((10 * cvW tb a (e9 - a)) + sB (tb e9)) - 48))) = (iI (cvW tb a (e9 + 1 - a))) from congrArg iI (show _ = _ by rw [show e9 + 1 - a = (e9 - a) + 1 by omega]; show _ = ((10 * cvW tb a (e9 - a)) + sB (tb (a + (e9 - a)))) - 48; rw [show a + (e9 - a) = e9 by omega])) ?_
          refine lv_istore_n (lv' := [(1, .int (iI (cvW tb a (e9 + 1 - a)))), (0, .ref (ad 3))]) Fx.1 Fx.2.1 dX1_scanNumber_54 rfl hl (by decide) rfl (fun ls hl => ?_)
          refine lv_aload_n Fx.1 Fx.2.1 dX1_scanNumber_55 rfl (lv_at hl 1 rfl) ?_
          refine lv_dup Fx.1 Fx.2.1 dX1_scanNumber_56 rfl ?_
          refine gC_X1_21_3 (x := (iI (((e9 : Nat) : Int)))) Fx X (h4) dX1_scanNumber_57 ?_
          refine k_iconst Fx dX1_scanNumber_60 ?_
          refine k_iadd Fx dX1_scanNumber_61 ?_
          refine pC_X1_21_3 Fx X dX1_scanNumber_62 (fun H locs X => ?_)
          refine lv_goto (tgt := 2) Fx.1 Fx.2.1 dX1_scanNumber_65 (by decide) ?_
          have hl_1 := lv_rp hl 0 rfl (show (iI (cvW tb a (e9 + 1 - a))) = (iI (cvW tb a ((e9 + 1) - a))) from rfl)
          exact ih_2 (e9 + 1) ((updA f1 3 (upd (f1 3) 4 (iI ((((e9 : Nat) : Int) + 1)))))) (by omega) (by omega) (hT) (rfl) (h6) (h7) ((spn_t (i := e9) (by unfold tDg; omega)).symm.trans hs) (FrK_u (by omega) hFr) _ _ _ X (lv_sub hl_1 [1, 0] rfl)
  have hl_2 := lv_rp hl 0 rfl (show (iI (0)) = (iI (cvW tb a (a - a))) from by rw [Nat.sub_self]; rfl)
  exact lp_2 _ (a) (f) (Nat.lt_succ_self _) (by omega) (hT) (h4) (h6) (h7) (rfl) (fun _ _ _ => rfl) _ _ _ X (lv_sub hl_2 [1, 0] rfl)

abbrev rm_X1_advance : Room := ({ frames := 6, cells := 0, slots := 0, locals := 128 } : Room)
set_option maxHeartbeats 4000000 in
set_option maxRecDepth 100000 in
theorem c_X1_advance {E : XX} (hE : XS E) (l : Launch) {Γ : GG} {κ : KK} (hN : EN E κ)  {ad : Nat → Nat} {ed : Nat} {f g : Nat → Nat → Int32} {tl : va_W} {tn : Nat} {tb : Nat → Nat} (hT : TapC tn tb f g) (hTB : TapB tn tb) {i : Nat} (hi : i ≤ tn) (hA : f 3 4 = iI (i : Nat)) : Con E l yX1_advance cX1_advance 1 none rm_X1_advance Γ (wC Γ ad ed f g tl) [.ref (ad 3)] (fun v w2 => v = none ∧ ∃ f1, w2 = wC Γ ad ed f1 g tl ∧ TokC tn tb i f1 ∧ FrK f1 f) := by
  refine Con_mk (by decide) (Nat.le_of_ble_eq_true rfl) ?_
  intro p e s₀ m args below meth c A Fx hr hlk hnm X ls hl
  have hl : lv_has ls 1 [(0, .ref (ad 3))] := hl
  have lp_0 : ∀ (nn : Nat) (a : Nat) (f1 : Nat → Nat → Int32), tn - a < nn → (i ≤ a ∧ a ≤ tn) → (TapC tn tb f1 g) → (f1 3 4 = iI (a : Nat)) → (spn (tBl tb) tn a = spn (tBl tb) tn i) → (FrK f1 f) → ∀ (H : Heap) (locs : List Loc) (ls : Array Slot), Wd E Γ A s₀ H locs (wC Γ ad ed f1 g tl) → lv_has ls 1 [(0, .ref (ad 3))] → W p l e rm_X1_advance s₀ m args below meth c H locs (0) (0) (RQ below args s₀ Γ A (fun v w2 => v = none ∧ ∃ f1, w2 = wC Γ ad ed f1 g tl ∧ TokC tn tb i f1 ∧ FrK f1 f) rm_X1_advance) (F0 m 0 ls []) := by
    intro nn
    induction nn with
    | zero => intro a f1 hmu; exact absurd hmu (Nat.not_lt_zero _)
    | succ nn ih =>
      intro a f1 hmu ha hT hA hs hFr H locs ls X hl
      have ih_0 := ih
      have hT2 := hTB.1
      refine lv_aload_n Fx.1 Fx.2.1 dX1_advance_0 rfl (lv_at hl 0 rfl) ?_
      refine gC_X1_21_3 (x := (iI (((a : Nat) : Int)))) Fx X (hA) dX1_advance_1 ?_
      refine lv_aload_n Fx.1 Fx.2.1 dX1_advance_4 rfl (lv_at hl 0 rfl) ?_
      refine gC_X1_33_3 Fx X dX1_advance_5 ?_
      refine gC_X1_86_2 (x := (iI (((tn : Nat) : Int)))) Fx X (hT.1) dX1_advance_8 ?_
      refine k_icmp_ge (a := ((a : Nat) : Int)) (b := ((tn : Nat) : Int)) (tgt := 45) Fx dX1_advance_11 (by decide) (by omega) (by omega) (fun c_11 => ?_) (fun c_11 => ?_)
      · have hp : tkA tn tb i = a := hs.symm.trans (spn_f (by unfold tBl; omega))
        refine lv_aload_n Fx.1 Fx.2.1 dX1_advance_45 rfl (lv_at hl 0 rfl) ?_
        refine lv_aload_n Fx.1 Fx.2.1 dX1_advance_46 rfl (lv_at hl 0 rfl) ?_
        refine gC_X1_21_3 (x := (iI (((a : Nat) : Int)))) Fx X (hA) dX1_advance_47 ?_
        refine pC_X1_27_3 Fx X dX1_advance_50 (fun H locs X => ?_)
        refine lv_aload_n Fx.1 Fx.2.1 dX1_advance_53 rfl (lv_at hl 0 rfl) ?_
        refine k_iconst Fx dX1_advance_54 ?_
        refine pC_X1_30_3 Fx X dX1_advance_55 (fun H locs X => ?_)
        refine lv_aload_n Fx.1 Fx.2.1 dX1_advance_58 rfl (lv_at hl 0 rfl) ?_
        refine gC_X1_21_3 (x := (iI (((a : Nat) : Int)))) Fx X (hA) dX1_advance_59 ?_
        refine lv_aload_n Fx.1 Fx.2.1 dX1_advance_62 rfl (lv_at hl 0 rfl) ?_
        refine gC_X1_33_3 Fx X dX1_advance_63 ?_
        refine gC_X1_86_2 (x := (iI (((tn : Nat) : Int)))) Fx X (hT.1) dX1_advance_66 ?_
        refine k_icmp_lt (a := ((a : Nat) : Int)) (b := ((tn : Nat) : Int)) (tgt := 80) Fx dX1_advance_69 (by decide) (by omega) (by omega) (fun c_69 => ?_) (fun c_69 => ?_)
        · refine lv_aload_n Fx.1 Fx.2.1 dX1_advance_80 rfl (lv_at hl 0 rfl) ?_
          refine gC_X1_33_3 Fx X dX1_advance_81 ?_
          refine gC_X1_91_2 Fx X dX1_advance_84 ?_
          refine lv_aload_n Fx.1 Fx.2.1 dX1_advance_87 rfl (lv_at hl 0 rfl) ?_
          refine gC_X1_21_3 (x := (iI (((a : Nat) : Int)))) Fx X (hA) dX1_advance_88 ?_
          refine ldC_11 (z := ((a : Nat) : Int)) (i := a) (x := (iI (sB (tb a)))) Fx X (rfl) (by omega) (hT.2 a) dX1_advance_91 ?_
          have hsb_x := sB_c (tb a) (hTB.2 _)
          have htb_x := hTB.2 a
          refine r_callSi (As := [.int (iI (sB (tb a)))]) (rest := []) hE Fx X (c_X1_isLetter hE l (u := (tb a)) (hTB.2 _)) cS_X1_99 rfl rfl (Nat.le_of_ble_eq_true rfl) (by decide) hl.1 dX1_advance_92 (fun H locs X => ?_)
          refine k_bif_eq (tgt := 105) Fx dX1_advance_95 (by decide) (fun c_95 => ?_) (fun c_95 => ?_)
          · refine lv_aload_n Fx.1 Fx.2.1 dX1_advance_105 rfl (lv_at hl 0 rfl) ?_
            refine gC_X1_33_3 Fx X dX1_advance_106 ?_
            refine gC_X1_91_2 Fx X dX1_advance_109 ?_
            refine lv_aload_n Fx.1 Fx.2.1 dX1_advance_112 rfl (lv_at hl 0 rfl) ?_
            refine gC_X1_21_3 (x := (iI (((a : Nat) : Int)))) Fx X (hA) dX1_advance_113 ?_
            refine ldC_11 (z := ((a : Nat) : Int)) (i := a) (x := (iI (sB (tb a)))) Fx X (rfl) (by omega) (hT.2 a) dX1_advance_116 ?_
            have hsb_x := sB_c (tb a) (hTB.2 _)
            have htb_x := hTB.2 a
            refine r_callSi (As := [.int (iI (sB (tb a)))]) (rest := []) hE Fx X (c_X1_isDigit hE l (u := (tb a)) (hTB.2 _)) cS_X1_105 rfl rfl (Nat.le_of_ble_eq_true rfl) (by decide) hl.1 dX1_advance_117 (fun H locs X => ?_)
            refine k_bif_eq (tgt := 130) Fx dX1_advance_120 (by decide) (fun c_120 => ?_) (fun c_120 => ?_)
            · refine lv_aload_n Fx.1 Fx.2.1 dX1_advance_130 rfl (lv_at hl 0 rfl) ?_
              refine lv_aload_n Fx.1 Fx.2.1 dX1_advance_131 rfl (lv_at hl 0 rfl) ?_
              refine gC_X1_33_3 Fx X dX1_advance_132 ?_
              refine gC_X1_91_2 Fx X dX1_advance_135 ?_
              refine lv_aload_n Fx.1 Fx.2.1 dX1_advance_138 rfl (lv_at hl 0 rfl) ?_
              refine gC_X1_21_3 (x := (iI (((a : Nat) : Int)))) Fx X (hA) dX1_advance_139 ?_
              refine ldC_11 (z := ((a : Nat) : Int)) (i := a) (x := (iI (sB (tb a)))) Fx X (rfl) (by omega) (hT.2 a) dX1_advance_142 ?_
              have hsb_x := sB_c (tb a) (hTB.2 _)
              have htb_x := hTB.2 a
              refine k_bipush Fx dX1_advance_143 (by decide) ?_
              refine k_icmp_ne (a := sB (tb a)) (b := 59) (tgt := 152) Fx dX1_advance_145 (by decide) (by omega) (by omega) (fun c_145 => ?_) (fun c_145 => ?_)
              · refine k_iconst Fx dX1_advance_152 ?_
                refine pC_X1_24_3 Fx X dX1_advance_153 (fun H locs X => ?_)
                refine lv_aload_n Fx.1 Fx.2.1 dX1_advance_156 rfl (lv_at hl 0 rfl) ?_
                refine lv_dup Fx.1 Fx.2.1 dX1_advance_157 rfl ?_
                refine gC_X1_21_3 (x := (iI (((a : Nat) : Int)))) Fx X (hA) dX1_advance_158 ?_
                refine k_iconst Fx dX1_advance_161 ?_
                refine k_iadd Fx dX1_advance_162 ?_
                refine pC_X1_21_3 Fx X dX1_advance_163 (fun H locs X => ?_)
                exact r_vret Fx hr hlk X (by decide) dX1_advance_166 (⟨rfl, _, rfl, ⟨by rw [(ct_oth hp (by omega) c_95 c_120).2.2]; rfl, by rw [(ct_oth hp (by omega) c_95 c_120).1, if_neg (by omega)]; rfl, by rw [hp]; rfl, by rw [(ct_oth hp (by omega) c_95 c_120).2.1]; rfl⟩, FrK_u (by omega) (FrK_u (by omega) (FrK_u (by omega) (FrK_u (by omega) hFr)))⟩)
              · refine k_iconst Fx dX1_advance_148 ?_
                refine lv_goto (tgt := 153) Fx.1 Fx.2.1 dX1_advance_149 (by decide) ?_
                refine pC_X1_24_3 Fx X dX1_advance_153 (fun H locs X => ?_)
                refine lv_aload_n Fx.1 Fx.2.1 dX1_advance_156 rfl (lv_at hl 0 rfl) ?_
                refine lv_dup Fx.1 Fx.2.1 dX1_advance_157 rfl ?_
                refine gC_X1_21_3 (x := (iI (((a : Nat) : Int)))) Fx X (hA) dX1_advance_158 ?_
                refine k_iconst Fx dX1_advance_161 ?_
                refine k_iadd Fx dX1_advance_162 ?_
                refine pC_X1_21_3 Fx X dX1_advance_163 (fun H locs X => ?_)
                exact r_vret Fx hr hlk X (by decide) dX1_advance_166 (⟨rfl, _, rfl, ⟨by rw [(ct_oth hp (by omega) c_95 c_120).2.2]; rfl, by rw [(ct_oth hp (by omega) c_95 c_120).1, if_pos (by omega)]; rfl, by rw [hp]; rfl, by rw [(ct_oth hp (by omega) c_95 c_120).2.1]; rfl⟩, FrK_u (by omega) (FrK_u (by omega) (FrK_u (by omega) (FrK_u (by omega) hFr)))⟩)
            · refine lv_aload_n Fx.1 Fx.2.1 dX1_advance_123 rfl (lv_at hl 0 rfl) ?_
              refine r_callV (As := []) (rest := []) hE Fx X (c_X1_scanNumber hE l (by exact hT) hTB (a := a) (by omega) (by exact hA) rfl rfl) cV_X1_108 (recC_3 X) rfl rfl (Nat.le_of_ble_eq_true rfl) (by decide) hl.1 dX1_advance_124 (fun v9 w9 H locs hq X => ?_)
              obtain ⟨rfl, f_1, rfl, hq4, hq5, hq6, hq7, hFr1⟩ := hq
              refine lv_goto (tgt := 166) Fx.1 Fx.2.1 dX1_advance_127 (by decide) ?_
              exact r_vret Fx hr hlk X (by decide) dX1_advance_166 (⟨rfl, _, rfl, ⟨by rw [(ct_num hp (by omega) c_95 c_120 rfl).2.2]; exact hq4, by rw [(ct_num hp (by omega) c_95 c_120 rfl).1]; exact hq5, by rw [hp]; exact hq6, by rw [(ct_num hp (by omega) c_95 c_120 rfl).2.1]; exact hq7⟩, FrK_tr hFr1 (FrK_u (by omega) (FrK_u (by omega) hFr))⟩)
          · refine lv_aload_n Fx.1 Fx.2.1 dX1_advance_98 rfl (lv_at hl 0 rfl) ?_
            refine r_callV (As := []) (rest := []) hE Fx X (c_X1_scanWord hE l hN (by exact hT) hTB (a := a) (by omega) (by exact hA) rfl rfl) cV_X1_102 (recC_3 X) rfl rfl (Nat.le_of_ble_eq_true rfl) (by decide) hl.1 dX1_advance_99 (fun v9 w9 H locs hq X => ?_)
            obtain ⟨rfl, f_2, rfl, hq4, hq5, hq6, hq7, hFr1⟩ := hq
            refine lv_goto (tgt := 166) Fx.1 Fx.2.1 dX1_advance_102 (by decide) ?_
            exact r_vret Fx hr hlk X (by decide) dX1_advance_166 (⟨rfl, _, rfl, ⟨by rw [(ct_word hp (by omega) c_95 rfl hTB.2).2.2]; exact hq4, by rw [(ct_word hp (by omega) c_95 rfl hTB.2).1]; exact hq5, by rw [hp]; exact hq6, by rw [(ct_word hp (by omega) c_95 rfl hTB.2).2.1]; exact hq7⟩, FrK_tr hFr1 (FrK_u (by omega) (FrK_u (by omega) hFr))⟩)
        · refine lv_aload_n Fx.1 Fx.2.1 dX1_advance_72 rfl (lv_at hl 0 rfl) ?_
          refine k_iconst Fx dX1_advance_73 ?_
          refine pC_X1_24_3 Fx X dX1_advance_74 (fun H locs X => ?_)
          refine lv_goto (tgt := 166) Fx.1 Fx.2.1 dX1_advance_77 (by decide) ?_
          exact r_vret Fx hr hlk X (by decide) dX1_advance_166 (⟨rfl, _, rfl, ⟨hA.trans (congrArg (fun z9 : Nat => iI z9) (ct_end hp (by omega)).2.2.symm), congrArg iI (ct_end hp (by omega)).1.symm, congrArg (fun z9 : Nat => iI z9) hp.symm, congrArg iI (ct_end hp (by omega)).2.1.symm⟩, FrK_u (by omega) (FrK_u (by omega) (FrK_u (by omega) hFr))⟩)
      · refine lv_aload_n Fx.1 Fx.2.1 dX1_advance_14 rfl (lv_at hl 0 rfl) ?_
        refine gC_X1_33_3 Fx X dX1_advance_15 ?_
        refine gC_X1_91_2 Fx X dX1_advance_18 ?_
        refine lv_aload_n Fx.1 Fx.2.1 dX1_advance_21 rfl (lv_at hl 0 rfl) ?_
        refine gC_X1_21_3 (x := (iI (((a : Nat) : Int)))) Fx X (hA) dX1_advance_22 ?_
        refine ldC_11 (z := ((a : Nat) : Int)) (i := a) (x := (iI (sB (tb a)))) Fx X (rfl) (by omega) (hT.2 a) dX1_advance_25 ?_
        have hsb_x := sB_c (tb a) (hTB.2 _)
        have htb_x := hTB.2 a
        refine r_callSi (As := [.int (iI (sB (tb a)))]) (rest := []) hE Fx X (c_X1_isBlank hE l (u := (tb a)) (hTB.2 _)) cS_X1_95 rfl rfl (Nat.le_of_ble_eq_true rfl) (by decide) hl.1 dX1_advance_26 (fun H locs X => ?_)
        refine k_bif_eq (tgt := 45) Fx dX1_advance_29 (by decide) (fun c_29 => ?_) (fun c_29 => ?_)
        · have hp : tkA tn tb i = a := hs.symm.trans (spn_f (by unfold tBl; omega))
          refine lv_aload_n Fx.1 Fx.2.1 dX1_advance_45 rfl (lv_at hl 0 rfl) ?_
          refine lv_aload_n Fx.1 Fx.2.1 dX1_advance_46 rfl (lv_at hl 0 rfl) ?_
          refine gC_X1_21_3 (x := (iI (((a : Nat) : Int)))) Fx X (hA) dX1_advance_47 ?_
          refine pC_X1_27_3 Fx X dX1_advance_50 (fun H locs X => ?_)
          refine lv_aload_n Fx.1 Fx.2.1 dX1_advance_53 rfl (lv_at hl 0 rfl) ?_
          refine k_iconst Fx dX1_advance_54 ?_
          refine pC_X1_30_3 Fx X dX1_advance_55 (fun H locs X => ?_)
          refine lv_aload_n Fx.1 Fx.2.1 dX1_advance_58 rfl (lv_at hl 0 rfl) ?_
          refine gC_X1_21_3 (x := (iI (((a : Nat) : Int)))) Fx X (hA) dX1_advance_59 ?_
          refine lv_aload_n Fx.1 Fx.2.1 dX1_advance_62 rfl (lv_at hl 0 rfl) ?_
          refine gC_X1_33_3 Fx X dX1_advance_63 ?_
          refine gC_X1_86_2 (x := (iI (((tn : Nat) : Int)))) Fx X (hT.1) dX1_advance_66 ?_
          refine k_icmp_lt (a := ((a : Nat) : Int)) (b := ((tn : Nat) : Int)) (tgt := 80) Fx dX1_advance_69 (by decide) (by omega) (by omega) (fun c_69 => ?_) (fun c_69 => ?_)
          · refine lv_aload_n Fx.1 Fx.2.1 dX1_advance_80 rfl (lv_at hl 0 rfl) ?_
            refine gC_X1_33_3 Fx X dX1_advance_81 ?_
            refine gC_X1_91_2 Fx X dX1_advance_84 ?_
            refine lv_aload_n Fx.1 Fx.2.1 dX1_advance_87 rfl (lv_at hl 0 rfl) ?_
            refine gC_X1_21_3 (x := (iI (((a : Nat) : Int)))) Fx X (hA) dX1_advance_88 ?_
            refine ldC_11 (z := ((a : Nat) : Int)) (i := a) (x := (iI (sB (tb a)))) Fx X (rfl) (by omega) (hT.2 a) dX1_advance_91 ?_
            have hsb_x := sB_c (tb a) (hTB.2 _)
            have htb_x := hTB.2 a
            refine r_callSi (As := [.int (iI (sB (tb a)))]) (rest := []) hE Fx X (c_X1_isLetter hE l (u := (tb a)) (hTB.2 _)) cS_X1_99 rfl rfl (Nat.le_of_ble_eq_true rfl) (by decide) hl.1 dX1_advance_92 (fun H locs X => ?_)
            refine k_bif_eq (tgt := 105) Fx dX1_advance_95 (by decide) (fun c_95 => ?_) (fun c_95 => ?_)
            · refine lv_aload_n Fx.1 Fx.2.1 dX1_advance_105 rfl (lv_at hl 0 rfl) ?_
              refine gC_X1_33_3 Fx X dX1_advance_106 ?_
              refine gC_X1_91_2 Fx X dX1_advance_109 ?_
              refine lv_aload_n Fx.1 Fx.2.1 dX1_advance_112 rfl (lv_at hl 0 rfl) ?_
              refine gC_X1_21_3 (x := (iI (((a : Nat) : Int)))) Fx X (hA) dX1_advance_113 ?_
              refine ldC_11 (z := ((a : Nat) : Int)) (i := a) (x := (iI (sB (tb a)))) Fx X (rfl) (by omega) (hT.2 a) dX1_advance_116 ?_
              have hsb_x := sB_c (tb a) (hTB.2 _)
              have htb_x := hTB.2 a
              refine r_callSi (As := [.int (iI (sB (tb a)))]) (rest := []) hE Fx X (c_X1_isDigit hE l (u := (tb a)) (hTB.2 _)) cS_X1_105 rfl rfl (Nat.le_of_ble_eq_true rfl) (by decide) hl.1 dX1_advance_117 (fun H locs X => ?_)
              refine k_bif_eq (tgt := 130) Fx dX1_advance_120 (by decide) (fun c_120 => ?_) (fun c_120 => ?_)
              · refine lv_aload_n Fx.1 Fx.2.1 dX1_advance_130 rfl (lv_at hl 0 rfl) ?_
                refine lv_aload_n Fx.1 Fx.2.1 dX1_advance_131 rfl (lv_at hl 0 rfl) ?_
                refine gC_X1_33_3 Fx X dX1_advance_132 ?_
                refine gC_X1_91_2 Fx X dX1_advance_135 ?_
                refine lv_aload_n Fx.1 Fx.2.1 dX1_advance_138 rfl (lv_at hl 0 rfl) ?_
                refine gC_X1_21_3 (x := (iI (((a : Nat) : Int)))) Fx X (hA) dX1_advance_139 ?_
                refine ldC_11 (z := ((a : Nat) : Int)) (i := a) (x := (iI (sB (tb a)))) Fx X (rfl) (by omega) (hT.2 a) dX1_advance_142 ?_
                have hsb_x := sB_c (tb a) (hTB.2 _)
                have htb_x := hTB.2 a
                refine k_bipush Fx dX1_advance_143 (by decide) ?_
                refine k_icmp_ne (a := sB (tb a)) (b := 59) (tgt := 152) Fx dX1_advance_145 (by decide) (by omega) (by omega) (fun c_145 => ?_) (fun c_145 => ?_)
                · refine k_iconst Fx dX1_advance_152 ?_
                  refine pC_X1_24_3 Fx X dX1_advance_153 (fun H locs X => ?_)
                  refine lv_aload_n Fx.1 Fx.2.1 dX1_advance_156 rfl (lv_at hl 0 rfl) ?_
                  refine lv_dup Fx.1 Fx.2.1 dX1_advance_157 rfl ?_
                  refine gC_X1_21_3 (x := (iI (((a : Nat) : Int)))) Fx X (hA) dX1_advance_158 ?_
                  refine k_iconst Fx dX1_advance_161 ?_
                  refine k_iadd Fx dX1_advance_162 ?_
                  refine pC_X1_21_3 Fx X dX1_advance_163 (fun H locs X => ?_)
                  exact r_vret Fx hr hlk X (by decide) dX1_advance_166 (⟨rfl, _, rfl, ⟨by rw [(ct_oth hp (by omega) c_95 c_120).2.2]; rfl, by rw [(ct_oth hp (by omega) c_95 c_120).1, if_neg (by omega)]; rfl, by rw [hp]; rfl, by rw [(ct_oth hp (by omega) c_95 c_120).2.1]; rfl⟩, FrK_u (by omega) (FrK_u (by omega) (FrK_u (by omega) (FrK_u (by omega) hFr)))⟩)
                · refine k_iconst Fx dX1_advance_148 ?_
                  refine lv_goto (tgt := 153) Fx.1 Fx.2.1 dX1_advance_149 (by decide) ?_
                  refine pC_X1_24_3 Fx X dX1_advance_153 (fun H locs X => ?_)
                  refine lv_aload_n Fx.1 Fx.2.1 dX1_advance_156 rfl (lv_at hl 0 rfl) ?_
                  refine lv_dup Fx.1 Fx.2.1 dX1_advance_157 rfl ?_
                  refine gC_X1_21_3 (x := (iI (((a : Nat) : Int)))) Fx X (hA) dX1_advance_158 ?_
                  refine k_iconst Fx dX1_advance_161 ?_
                  refine k_iadd Fx dX1_advance_162 ?_
                  refine pC_X1_21_3 Fx X dX1_advance_163 (fun H locs X => ?_)
                  exact r_vret Fx hr hlk X (by decide) dX1_advance_166 (⟨rfl, _, rfl, ⟨by rw [(ct_oth hp (by omega) c_95 c_120).2.2]; rfl, by rw [(ct_oth hp (by omega) c_95 c_120).1, if_pos (by omega)]; rfl, by rw [hp]; rfl, by rw [(ct_oth hp (by omega) c_95 c_120).2.1]; rfl⟩, FrK_u (by omega) (FrK_u (by omega) (FrK_u (by omega) (FrK_u (by omega) hFr)))⟩)
              · refine lv_aload_n Fx.1 Fx.2.1 dX1_advance_123 rfl (lv_at hl 0 rfl) ?_
                refine r_callV (As := []) (rest := []) hE Fx X (c_X1_scanNumber hE l (by exact hT) hTB (a := a) (by omega) (by exact hA) rfl rfl) cV_X1_108 (recC_3 X) rfl rfl (Nat.le_of_ble_eq_true rfl) (by decide) hl.1 dX1_advance_124 (fun v9 w9 H locs hq X => ?_)
                obtain ⟨rfl, f_3, rfl, hq4, hq5, hq6, hq7, hFr1⟩ := hq
                refine lv_goto (tgt := 166) Fx.1 Fx.2.1 dX1_advance_127 (by decide) ?_
                exact r_vret Fx hr hlk X (by decide) dX1_advance_166 (⟨rfl, _, rfl, ⟨by rw [(ct_num hp (by omega) c_95 c_120 rfl).2.2]; exact hq4, by rw [(ct_num hp (by omega) c_95 c_120 rfl).1]; exact hq5, by rw [hp]; exact hq6, by rw [(ct_num hp (by omega) c_95 c_120 rfl).2.1]; exact hq7⟩, FrK_tr hFr1 (FrK_u (by omega) (FrK_u (by omega) hFr))⟩)
            · refine lv_aload_n Fx.1 Fx.2.1 dX1_advance_98 rfl (lv_at hl 0 rfl) ?_
              refine r_callV (As := []) (rest := []) hE Fx X (c_X1_scanWord hE l hN (by exact hT) hTB (a := a) (by omega) (by exact hA) rfl rfl) cV_X1_102 (recC_3 X) rfl rfl (Nat.le_of_ble_eq_true rfl) (by decide) hl.1 dX1_advance_99 (fun v9 w9 H locs hq X => ?_)
              obtain ⟨rfl, f_4, rfl, hq4, hq5, hq6, hq7, hFr1⟩ := hq
              refine lv_goto (tgt := 166) Fx.1 Fx.2.1 dX1_advance_102 (by decide) ?_
              exact r_vret Fx hr hlk X (by decide) dX1_advance_166 (⟨rfl, _, rfl, ⟨by rw [(ct_word hp (by omega) c_95 rfl hTB.2).2.2]; exact hq4, by rw [(ct_word hp (by omega) c_95 rfl hTB.2).1]; exact hq5, by rw [hp]; exact hq6, by rw [(ct_word hp (by omega) c_95 rfl hTB.2).2.1]; exact hq7⟩, FrK_tr hFr1 (FrK_u (by omega) (FrK_u (by omega) hFr))⟩)
          · refine lv_aload_n Fx.1 Fx.2.1 dX1_advance_72 rfl (lv_at hl 0 rfl) ?_
            refine k_iconst Fx dX1_advance_73 ?_
            refine pC_X1_24_3 Fx X dX1_advance_74 (fun H locs X => ?_)
            refine lv_goto (tgt := 166) Fx.1 Fx.2.1 dX1_advance_77 (by decide) ?_
            exact r_vret Fx hr hlk X (by decide) dX1_advance_166 (⟨rfl, _, rfl, ⟨hA.trans (congrArg (fun z9 : Nat => iI z9) (ct_end hp (by omega)).2.2.symm), congrArg iI (ct_end hp (by omega)).1.symm, congrArg (fun z9 : Nat => iI z9) hp.symm, congrArg iI (ct_end hp (by omega)).2.1.symm⟩, FrK_u (by omega) (FrK_u (by omega) (FrK_u (by omega) hFr))⟩)
        · refine lv_aload_n Fx.1 Fx.2.1 dX1_advance_32 rfl (lv_at hl 0 rfl) ?_
          refine lv_dup Fx.1 Fx.2.1 dX1_advance_33 rfl ?_
          refine gC_X1_21_3 (x := (iI (((a : Nat) : Int)))) Fx X (hA) dX1_advance_34 ?_
          refine k_iconst Fx dX1_advance_37 ?_
          refine k_iadd Fx dX1_advance_38 ?_
          refine pC_X1_21_3 Fx X dX1_advance_39 (fun H locs X => ?_)
          refine lv_goto (tgt := 0) Fx.1 Fx.2.1 dX1_advance_42 (by decide) ?_
          exact ih_0 (a + 1) ((updA f1 3 (upd (f1 3) 4 (iI ((((a : Nat) : Int) + 1)))))) (by omega) (by omega) (hT) (rfl) ((spn_t (i := a) (by unfold tBl; omega)).symm.trans hs) (FrK_u (by omega) hFr) _ _ _ X (lv_sub hl [0] rfl)
  exact lp_0 _ (i) (f) (Nat.lt_succ_self _) (by omega) (hT) (hA) (rfl) (fun _ _ _ => rfl) _ _ _ X (lv_sub hl [0] rfl)

