theorem kf_9 : Cond.fieldLink RJ0 9 "java/lang/String" "value" "[B" ∈ BG := by decide +kernel
theorem kf_15 : Cond.fieldLink RJ0 15 "java/lang/String" "coder" "B" ∈ BG := by decide +kernel
theorem kf_38 : Cond.fieldLink RJ0 38 "java/lang/String" "COMPACT_STRINGS" "Z" ∈ BG := by decide +kernel
theorem kf_1053 : Cond.fieldLink RJ0 1053 "jdk/internal/util/Preconditions" "SIOOBE_FORMATTER" "Ljava/util/function/BiFunction;" ∈ BG := by decide +kernel
theorem shr0 (x : Int32) : x >>> (iI 0 &&& 31) = x := by
  have e : iI 0 &&& 31 = 0 := rfl
  rw [e]
  apply Int32.toBitVec.inj
  rw [Int32.toBitVec_shiftRight]
  have e2 : (Int32.toBitVec 0).smod 32 = 0#32 := by decide
  rw [e2]
  show x.toBitVec.sshiftRight 0 = _
  simp
def kwC (k j : Nat) : Int := ((kwB.getD k []).getD j 0).toInt
theorem kw_ch : ∀ (k : Fin 12) (j : Fin 6), j.1 < kwL.getD k.1 0 → (((((kwB.getD k.1 []).getD j.1 0) &&& iI 255).toUInt32 % 65536).toInt32 = iI (kwC k.1 j.1)) ∧ narrow .char (.int (iI (kwC k.1 j.1))) = .int (iI (kwC k.1 j.1)) ∧ (97 ≤ kwC k.1 j.1 ∧ kwC k.1 j.1 ≤ 122) := by decide +kernel
theorem kw_len0 : ∀ k : Fin 12, kwL.getD k.1 0 ≤ 6 := by decide +kernel
theorem kw_len {k : Nat} (hk : k < 12) : kwL.getD k 0 ≤ 6 := kw_len0 ⟨k, hk⟩

abbrev rm_J0_coder_7d493 : Room := ({ frames := 0, cells := 0, slots := 0, locals := 0 } : Room)
set_option maxHeartbeats 4000000 in
set_option maxRecDepth 100000 in
theorem c_J0_coder_7d493 {E : XX} (hE : XS E) (l : Launch) {Γ : GG} {κ : KK} (hN : EN E κ) {w : va_W} {k : Nat} (hk : k < 12) : Con E l yJ0_coder_7d493 cJ0_coder_7d493 1 (some .byte) rm_J0_coder_7d493 Γ w [.ref (κ.1 k)] (Qi (iI 0) w) := by
  refine Con_mk (by decide) (Nat.le_of_ble_eq_true rfl) ?_
  intro p e s₀ m args below meth c A Fx hr hlk hnm X ls hl
  have hl : lv_has ls 1 [(0, .ref (κ.1 k))] := hl
  refine va_gets Fx.1 Fx.2.1 (X.ef hN).2.2.2.2.1.1 X.2.2.2.1 Fx.2.2.2.1 (Fx.2.2.2.2 _ kf_38) (fun _ h => h) dJ0_coder_7d493_0 ?_
  refine k_cg (show (1 : Int32) = iI 1 from rfl) ?_
  refine k_if_eq (a := 1) (tgt := 13) Fx dJ0_coder_7d493_3 (by decide) (by omega) (fun c_3 => ?_) (fun c_3 => ?_)
  · exact absurd c_3 (by omega)
  refine lv_aload_n Fx.1 Fx.2.1 dJ0_coder_7d493_6 rfl (lv_at hl 0 rfl) ?_
  refine vk_getf Fx.1 Fx.2.1 ((X.ef hN).2.2.1.1.1 k hk).2.1 X.2.2.2.1 Fx.2.2.2.1 (Fx.2.2.2.2 _ kf_15) (fun _ h => h) dJ0_coder_7d493_7 ?_
  refine k_cg (show (0 : Int32) = iI 0 from rfl) ?_
  refine lv_goto (tgt := 14) Fx.1 Fx.2.1 dJ0_coder_7d493_10 (by decide) ?_
  exact r_zret Fx hr hlk X (by decide) dJ0_coder_7d493_14 rfl (Qi_mk rfl)

abbrev rm_J0_isLatin1_aae02 : Room := ({ frames := 0, cells := 0, slots := 0, locals := 0 } : Room)
set_option maxHeartbeats 4000000 in
set_option maxRecDepth 100000 in
theorem c_J0_isLatin1_aae02 {E : XX} (hE : XS E) (l : Launch) {Γ : GG} {κ : KK} (hN : EN E κ) {w : va_W} {k : Nat} (hk : k < 12) : Con E l yJ0_isLatin1_aae02 cJ0_isLatin1_aae02 1 (some .boolean) rm_J0_isLatin1_aae02 Γ w [.ref (κ.1 k)] (Qi (bI True) w) := by
  refine Con_mk (by decide) (Nat.le_of_ble_eq_true rfl) ?_
  intro p e s₀ m args below meth c A Fx hr hlk hnm X ls hl
  have hl : lv_has ls 1 [(0, .ref (κ.1 k))] := hl
  refine va_gets Fx.1 Fx.2.1 (X.ef hN).2.2.2.2.1.1 X.2.2.2.1 Fx.2.2.2.1 (Fx.2.2.2.2 _ kf_38) (fun _ h => h) dJ0_isLatin1_aae02_0 ?_
  refine k_cg (show (1 : Int32) = iI 1 from rfl) ?_
  refine k_if_eq (a := 1) (tgt := 17) Fx dJ0_isLatin1_aae02_3 (by decide) (by omega) (fun c_3 => ?_) (fun c_3 => ?_)
  · exact absurd c_3 (by omega)
  refine lv_aload_n Fx.1 Fx.2.1 dJ0_isLatin1_aae02_6 rfl (lv_at hl 0 rfl) ?_
  refine vk_getf Fx.1 Fx.2.1 ((X.ef hN).2.2.1.1.1 k hk).2.1 X.2.2.2.1 Fx.2.2.2.1 (Fx.2.2.2.2 _ kf_15) (fun _ h => h) dJ0_isLatin1_aae02_7 ?_
  refine k_cg (show (0 : Int32) = iI 0 from rfl) ?_
  refine k_if_ne (a := 0) (tgt := 17) Fx dJ0_isLatin1_aae02_10 (by decide) (by omega) (fun c_10 => ?_) (fun c_10 => ?_)
  · exact absurd c_10 (by omega)
  refine k_iconst Fx dJ0_isLatin1_aae02_13 ?_
  refine lv_goto (tgt := 18) Fx.1 Fx.2.1 dJ0_isLatin1_aae02_14 (by decide) ?_
  exact r_zret Fx hr hlk X (by decide) dJ0_isLatin1_aae02_18 rfl (Qi_mk (bI_1 trivial))

abbrev rm_J0_length_8abf5 : Room := ({ frames := 1, cells := 0, slots := 0, locals := 20 } : Room)
set_option maxHeartbeats 4000000 in
set_option maxRecDepth 100000 in
theorem c_J0_length_8abf5 {E : XX} (hE : XS E) (l : Launch) {Γ : GG} {κ : KK} (hN : EN E κ) {w : va_W} {k : Nat} (hk : k < 12) : Con E l yJ0_length_8abf5 cJ0_length_8abf5 1 (some .int) rm_J0_length_8abf5 Γ w [.ref (κ.1 k)] (Qi (iI ((kwL.getD k 0 : Nat) : Int)) w) := by
  refine Con_mk (by decide) (Nat.le_of_ble_eq_true rfl) ?_
  intro p e s₀ m args below meth c A Fx hr hlk hnm X ls hl
  have hl : lv_has ls 1 [(0, .ref (κ.1 k))] := hl
  refine lv_aload_n Fx.1 Fx.2.1 dJ0_length_8abf5_0 rfl (lv_at hl 0 rfl) ?_
  refine vk_getf Fx.1 Fx.2.1 ((X.ef hN).2.2.1.1.1 k hk).2.2.1 X.2.2.2.1 Fx.2.2.2.1 (Fx.2.2.2.2 _ kf_9) (fun _ h => h) dJ0_length_8abf5_1 ?_
  refine va_tlen Fx.1 Fx.2.1 ((X.ef hN).2.2.1.1.1 k hk).2.2.2 X.2.2.2.1 (v := iI ((kwL.getD k 0 : Nat) : Int)) (by rw [← iI_nI]; rfl) dJ0_length_8abf5_4 ?_
  refine lv_aload_n Fx.1 Fx.2.1 dJ0_length_8abf5_5 rfl (lv_at hl 0 rfl) ?_
  refine r_callVi (As := []) (rest := [.int (iI (((kwL.getD k 0 : Nat) : Int)))]) hE Fx X (c_J0_coder_7d493 hE l hN hk) cV_J0_335 (vk_recv (X.ef hN).2.2.1.1 hk X.2.2.2.1) rfl rfl (Nat.le_of_ble_eq_true rfl) (by decide) hl.1 dJ0_length_8abf5_6 (fun H locs X => ?_)
  refine lv_ishr Fx.1 Fx.2.1 dJ0_length_8abf5_9 ?_
  exact r_iret Fx hr hlk X (by decide) dJ0_length_8abf5_10 (Qi_mk (shr0 _))

abbrev rm_J3_checkIndex_r : Room := ({ frames := 0, cells := 0, slots := 0, locals := 0 } : Room)
set_option maxHeartbeats 4000000 in
set_option maxRecDepth 100000 in
theorem c_J3_checkIndex_r {E : XX} (hE : XS E) (l : Launch) {Γ : GG} {w : va_W} {a b : Int} {t9 : Nat} (h0 : 0 ≤ a ∧ a < b) (hb : b < 2147483648) : Con E l yJ3_checkIndex_8e157 cJ3_checkIndex_8e157 3 (some .int) rm_J3_checkIndex_r Γ w [.int (iI (a)), .int (iI (b)), .ref (t9)] (Qi (iI a) w) := by
  refine Con_mk (by decide) (Nat.le_of_ble_eq_true rfl) ?_
  intro p e s₀ m args below meth c A Fx hr hlk hnm X ls hl
  have hl : lv_has ls 3 [(0, .int (iI (a))), (1, .int (iI (b))), (2, .ref (t9))] := hl
  refine lv_iload_n Fx.1 Fx.2.1 dJ3_checkIndex_8e157_0 rfl (lv_at hl 0 rfl) ?_
  refine k_if_lt (a := a) (tgt := 9) Fx dJ3_checkIndex_8e157_1 (by decide) (by omega) (fun c_1 => ?_) (fun c_1 => ?_)
  · exact absurd h0 (by omega)
  · refine lv_iload_n Fx.1 Fx.2.1 dJ3_checkIndex_8e157_4 rfl (lv_at hl 0 rfl) ?_
    refine lv_iload_n Fx.1 Fx.2.1 dJ3_checkIndex_8e157_5 rfl (lv_at hl 1 rfl) ?_
    refine k_icmp_lt (a := a) (b := b) (tgt := 16) Fx dJ3_checkIndex_8e157_6 (by decide) (by omega) (by omega) (fun c_6 => ?_) (fun c_6 => ?_)
    · refine lv_iload_n Fx.1 Fx.2.1 dJ3_checkIndex_8e157_16 rfl (lv_at hl 0 rfl) ?_
      exact r_iret Fx hr hlk X (by decide) dJ3_checkIndex_8e157_17 (Qi_mk rfl)
    · exact absurd h0 (by omega)

abbrev rm_J0_checkIndex_df160 : Room := ({ frames := 1, cells := 0, slots := 0, locals := 22 } : Room)
set_option maxHeartbeats 4000000 in
set_option maxRecDepth 100000 in
theorem c_J0_checkIndex_df160 {E : XX} (hE : XS E) (l : Launch) {Γ : GG} {κ : KK} (hN : EN E κ) {w : va_W} {a b : Int} (h0 : 0 ≤ a ∧ a < b) (hb : b < 2147483648) : Con E l yJ0_checkIndex_df160 cJ0_checkIndex_df160 2 none rm_J0_checkIndex_df160 Γ w [.int (iI (a)), .int (iI (b))] (fun v w2 => v = none ∧ w2 = w) := by
  refine Con_mk (by decide) (Nat.le_of_ble_eq_true rfl) ?_
  intro p e s₀ m args below meth c A Fx hr hlk hnm X ls hl
  have hl : lv_has ls 2 [(0, .int (iI (a))), (1, .int (iI (b)))] := hl
  refine lv_iload_n Fx.1 Fx.2.1 dJ0_checkIndex_df160_0 rfl (lv_at hl 0 rfl) ?_
  refine lv_iload_n Fx.1 Fx.2.1 dJ0_checkIndex_df160_1 rfl (lv_at hl 1 rfl) ?_
  rcases (X.ef hN).2.2.2.2.1.2 with hZ9 | ⟨t9, hZ9⟩
  · refine va_gets Fx.1 Fx.2.1 hZ9 X.2.2.2.1 Fx.2.2.2.1 (Fx.2.2.2.2 _ kf_1053) (fun _ h => h) dJ0_checkIndex_df160_2 ?_
    refine r_callSi (As := [.int (iI (a)), .int (iI (b)), .null]) (rest := []) hE Fx X (c_J3_checkIndex_8e157 hE l (a := a) (b := b) (by omega) (by omega)) cS_J0_1059 rfl rfl (Nat.le_of_ble_eq_true rfl) (by decide) hl.1 dJ0_checkIndex_df160_5 (fun H locs X => ?_)
    refine lv_pop Fx.1 Fx.2.1 dJ0_checkIndex_df160_8 rfl ?_
    exact r_vret Fx hr hlk X (by decide) dJ0_checkIndex_df160_9 (⟨rfl, rfl⟩)
  · refine va_gets Fx.1 Fx.2.1 hZ9 X.2.2.2.1 Fx.2.2.2.1 (Fx.2.2.2.2 _ kf_1053) (fun _ h => h) dJ0_checkIndex_df160_2 ?_
    refine r_callSi (As := [.int (iI (a)), .int (iI (b)), .ref (t9)]) (rest := []) hE Fx X (c_J3_checkIndex_r hE l (a := a) (b := b) (by omega) (by omega)) cS_J0_1059 rfl rfl (Nat.le_of_ble_eq_true rfl) (by decide) hl.1 dJ0_checkIndex_df160_5 (fun H locs X => ?_)
    refine lv_pop Fx.1 Fx.2.1 dJ0_checkIndex_df160_8 rfl ?_
    exact r_vret Fx hr hlk X (by decide) dJ0_checkIndex_df160_9 (⟨rfl, rfl⟩)

abbrev rm_J1_charAt_3b067 : Room := ({ frames := 2, cells := 0, slots := 0, locals := 43 } : Room)
set_option maxHeartbeats 4000000 in
set_option maxRecDepth 100000 in
theorem c_J1_charAt_3b067 {E : XX} (hE : XS E) (l : Launch) {Γ : GG} {κ : KK} (hN : EN E κ) {w : va_W} {k : Nat} (hk : k < 12) {j : Nat} (hj : j < kwL.getD k 0) : Con E l yJ1_charAt_3b067 cJ1_charAt_3b067 2 (some .char) rm_J1_charAt_3b067 Γ w [.ref (κ.2.1 k), .int (iI (((j : Nat) : Int)))] (Qi (iI (kwC k j)) w) := by
  refine Con_mk (by decide) (Nat.le_of_ble_eq_true rfl) ?_
  intro p e s₀ m args below meth c A Fx hr hlk hnm X ls hl
  have hl : lv_has ls 2 [(0, .ref (κ.2.1 k)), (1, .int (iI (((j : Nat) : Int))))] := hl
  refine lv_iload_n Fx.1 Fx.2.1 dJ1_charAt_3b067_0 rfl (lv_at hl 1 rfl) ?_
  refine lv_aload_n Fx.1 Fx.2.1 dJ1_charAt_3b067_1 rfl (lv_at hl 0 rfl) ?_
  refine va_tlen Fx.1 Fx.2.1 ((X.ef hN).2.2.1.1.1 k hk).2.2.2 X.2.2.2.1 (v := iI ((kwL.getD k 0 : Nat) : Int)) (by rw [← iI_nI]; rfl) dJ1_charAt_3b067_2 ?_
  refine r_callS (As := [.int (iI (((j : Nat) : Int))), .int (iI (((kwL.getD k 0 : Nat) : Int)))]) (rest := []) hE Fx X (c_J0_checkIndex_df160 hE l hN (a := ((j : Nat) : Int)) (b := ((kwL.getD k 0 : Nat) : Int)) (by omega) (by have := kw_len hk; omega)) cS_J1_9 rfl rfl (Nat.le_of_ble_eq_true rfl) (by decide) hl.1 dJ1_charAt_3b067_3 (fun v9 w9 H locs hq X => ?_)
  obtain ⟨rfl, hw9⟩ := hq
  have X := Wd.to X hw9
  refine lv_aload_n Fx.1 Fx.2.1 dJ1_charAt_3b067_6 rfl (lv_at hl 0 rfl) ?_
  refine lv_iload_n Fx.1 Fx.2.1 dJ1_charAt_3b067_7 rfl (lv_at hl 1 rfl) ?_
  refine va_tb Fx.1 Fx.2.1 ((X.ef hN).2.2.1.1.1 k hk).2.2.2 X.2.2.2.1 (iI_in (z := ((j : Nat) : Int)) (by omega) (by have := kw_len hk; omega)) (v := .int ((kwB.getD k []).getD j 0)) (by rw [iI_cl (by have := kw_len hk; omega), Int.toNat_natCast]) dJ1_charAt_3b067_8 ?_
  refine k_sipush Fx dJ1_charAt_3b067_9 (by decide) ?_
  refine lv_iand Fx.1 Fx.2.1 dJ1_charAt_3b067_12 ?_
  refine lv_i2c (v := iI (kwC k j)) Fx.1 Fx.2.1 dJ1_charAt_3b067_13 (kw_ch ⟨k, hk⟩ ⟨j, by have := kw_len hk; omega⟩ hj).1 ?_
  exact r_zret Fx hr hlk X (by decide) dJ1_charAt_3b067_14 (kw_ch ⟨k, hk⟩ ⟨j, by have := kw_len hk; omega⟩ hj).2.1 (Qi_mk rfl)

abbrev rm_J0_charAt_5068e : Room := ({ frames := 3, cells := 0, slots := 0, locals := 64 } : Room)
set_option maxHeartbeats 4000000 in
set_option maxRecDepth 100000 in
theorem c_J0_charAt_5068e {E : XX} (hE : XS E) (l : Launch) {Γ : GG} {κ : KK} (hN : EN E κ) {w : va_W} {k : Nat} (hk : k < 12) {j : Nat} (hj : j < kwL.getD k 0) : Con E l yJ0_charAt_5068e cJ0_charAt_5068e 2 (some .char) rm_J0_charAt_5068e Γ w [.ref (κ.1 k), .int (iI (((j : Nat) : Int)))] (Qi (iI (kwC k j)) w) := by
  refine Con_mk (by decide) (Nat.le_of_ble_eq_true rfl) ?_
  intro p e s₀ m args below meth c A Fx hr hlk hnm X ls hl
  have hl : lv_has ls 2 [(0, .ref (κ.1 k)), (1, .int (iI (((j : Nat) : Int))))] := hl
  refine lv_aload_n Fx.1 Fx.2.1 dJ0_charAt_5068e_0 rfl (lv_at hl 0 rfl) ?_
  refine r_callVi (As := []) (rest := []) hE Fx X (c_J0_isLatin1_aae02 hE l hN hk) cV_J0_492 (vk_recv (X.ef hN).2.2.1.1 hk X.2.2.2.1) rfl rfl (Nat.le_of_ble_eq_true rfl) (by decide) hl.1 dJ0_charAt_5068e_1 (fun H locs X => ?_)
  refine k_bif_eq (tgt := 16) Fx dJ0_charAt_5068e_4 (by decide) (fun c_4 => ?_) (fun c_4 => ?_)
  · exact absurd trivial c_4
  refine lv_aload_n Fx.1 Fx.2.1 dJ0_charAt_5068e_7 rfl (lv_at hl 0 rfl) ?_
  refine vk_getf Fx.1 Fx.2.1 ((X.ef hN).2.2.1.1.1 k hk).2.2.1 X.2.2.2.1 Fx.2.2.2.1 (Fx.2.2.2.2 _ kf_9) (fun _ h => h) dJ0_charAt_5068e_8 ?_
  refine lv_iload_n Fx.1 Fx.2.1 dJ0_charAt_5068e_11 rfl (lv_at hl 1 rfl) ?_
  refine r_callSi (As := [.ref (κ.2.1 k), .int (iI (((j : Nat) : Int)))]) (rest := []) hE Fx X (c_J1_charAt_3b067 hE l hN hk (j := j) (by omega)) cS_J0_495 rfl rfl (Nat.le_of_ble_eq_true rfl) (by decide) hl.1 dJ0_charAt_5068e_12 (fun H locs X => ?_)
  exact r_zret Fx hr hlk X (by decide) dJ0_charAt_5068e_15 (kw_ch ⟨k, hk⟩ ⟨j, by have := kw_len hk; omega⟩ hj).2.1 (Qi_mk rfl)

