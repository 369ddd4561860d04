theorem mlM_X6_44 : Cond.methodLink RX6 44 Lib.Math.max.name ∈ BG := by decide +kernel
theorem mlM_X6_38 : Cond.methodLink RX6 38 Lib.Math.min.name ∈ BG := by decide +kernel
abbrev rm_J3_checkIndex_8e157 : Room := ({ frames := 0, cells := 0, slots := 0, locals := 0 } : Room)
set_option maxHeartbeats 4000000 in
set_option maxRecDepth 100000 in
theorem c_J3_checkIndex_8e157 {E : XX} (hE : XS E) (l : Launch) {Γ : GG} {w : va_W} {a b : Int} (h0 : 0 ≤ a ∧ a < b) (hb : b < 2147483648) : Con E l yJ3_checkIndex_8e157 cJ3_checkIndex_8e157 3 (some .int) rm_J3_checkIndex_8e157 Γ w [.int (iI (a)), .int (iI (b)), .null] (Qi (iI a) w) := by
  refine Con_mk (by decide) (Nat.le_of_ble_eq_true rfl) ?_
  intro p e s₀ m args below meth c A Fx hr hlk hnm X ls hl
  have hl : lv_has ls 3 [(0, .int (iI (a))), (1, .int (iI (b))), (2, .null)] := hl
  refine lv_iload_n Fx.1 Fx.2.1 dJ3_checkIndex_8e157_0 rfl (lv_at hl 0 rfl) ?_
  refine k_if_lt (a := a) (tgt := 9) Fx dJ3_checkIndex_8e157_1 (by decide) (by omega) (fun c_1 => ?_) (fun c_1 => ?_)
  · exact absurd h0 (by omega)
  · refine lv_iload_n Fx.1 Fx.2.1 dJ3_checkIndex_8e157_4 rfl (lv_at hl 0 rfl) ?_
    refine lv_iload_n Fx.1 Fx.2.1 dJ3_checkIndex_8e157_5 rfl (lv_at hl 1 rfl) ?_
    refine k_icmp_lt (a := a) (b := b) (tgt := 16) Fx dJ3_checkIndex_8e157_6 (by decide) (by omega) (by omega) (fun c_6 => ?_) (fun c_6 => ?_)
    · refine lv_iload_n Fx.1 Fx.2.1 dJ3_checkIndex_8e157_16 rfl (lv_at hl 0 rfl) ?_
      exact r_iret Fx hr hlk X (by decide) dJ3_checkIndex_8e157_17 (Qi_mk rfl)
    · exact absurd h0 (by omega)

abbrev rm_J15_checkIndex_7cf53 : Room := ({ frames := 1, cells := 0, slots := 0, locals := 22 } : Room)
set_option maxHeartbeats 4000000 in
set_option maxRecDepth 100000 in
theorem c_J15_checkIndex_7cf53 {E : XX} (hE : XS E) (l : Launch) {Γ : GG} {w : va_W} {a b : Int} (h0 : 0 ≤ a ∧ a < b) (hb : b < 2147483648) : Con E l yJ15_checkIndex_7cf53 cJ15_checkIndex_7cf53 2 (some .int) rm_J15_checkIndex_7cf53 Γ w [.int (iI (a)), .int (iI (b))] (Qi (iI a) w) := by
  refine Con_mk (by decide) (Nat.le_of_ble_eq_true rfl) ?_
  intro p e s₀ m args below meth c A Fx hr hlk hnm X ls hl
  have hl : lv_has ls 2 [(0, .int (iI (a))), (1, .int (iI (b)))] := hl
  refine lv_iload_n Fx.1 Fx.2.1 dJ15_checkIndex_7cf53_0 rfl (lv_at hl 0 rfl) ?_
  refine lv_iload_n Fx.1 Fx.2.1 dJ15_checkIndex_7cf53_1 rfl (lv_at hl 1 rfl) ?_
  refine lv_null Fx.1 Fx.2.1 dJ15_checkIndex_7cf53_2 ?_
  refine r_callSi (As := [.int (iI (a)), .int (iI (b)), .null]) (rest := []) hE Fx X (c_J3_checkIndex_8e157 hE l (a := a) (b := b) (by omega) (by omega)) cS_J15_105 rfl rfl (Nat.le_of_ble_eq_true rfl) (by decide) hl.1 dJ15_checkIndex_7cf53_3 (fun H locs X => ?_)
  exact r_iret Fx hr hlk X (by decide) dJ15_checkIndex_7cf53_6 (Qi_mk rfl)

abbrev rm_Jx4a65c_size_8abf5 : Room := ({ frames := 0, cells := 0, slots := 0, locals := 0 } : Room)
set_option maxHeartbeats 4000000 in
set_option maxRecDepth 100000 in
theorem c_Jx4a65c_size_8abf5 {E : XX} (hE : XS E) (l : Launch) {Γ : GG} {ad : Nat → Nat} {ed cap n : Nat} {sa : Nat → Nat} {S : Nat → Nat → Nat} {f g : Nat → Nat → Int32} (hn9 : f 1 2 = iI n) (hcap : n ≤ cap ∧ cap < 1000) (hB : SayB n S) : Con E l yJx4a65c_size_8abf5 cJx4a65c_size_8abf5 1 (some .int) rm_Jx4a65c_size_8abf5 Γ (wC Γ ad ed f g (tS Γ ed cap sa S n)) [.ref (ad 1)] (Qi (iI n) (wC Γ ad ed f g (tS Γ ed cap sa S n))) := by
  refine Con_mk (by decide) (Nat.le_of_ble_eq_true rfl) ?_
  intro p e s₀ m args below meth c A Fx hr hlk hnm X ls hl
  have hl : lv_has ls 1 [(0, .ref (ad 1))] := hl
  refine lv_aload_n Fx.1 Fx.2.1 dJx4a65c_size_8abf5_0 rfl (lv_at hl 0 rfl) ?_
  refine gC_Jx4a65c_48_1 (x := (iI (((n : Nat) : Int)))) Fx X (hn9) dJx4a65c_size_8abf5_1 ?_
  exact r_iret Fx hr hlk X (by decide) dJx4a65c_size_8abf5_4 (Qi_mk rfl)

abbrev rm_Jx4a65c_elementData_915e3 : Room := ({ frames := 0, cells := 0, slots := 0, locals := 0 } : Room)
set_option maxHeartbeats 4000000 in
set_option maxRecDepth 100000 in
theorem c_Jx4a65c_elementData_915e3 {E : XX} (hE : XS E) (l : Launch) {Γ : GG} {ad : Nat → Nat} {ed cap n : Nat} {sa : Nat → Nat} {S : Nat → Nat → Nat} {f g : Nat → Nat → Int32} (hn9 : f 1 2 = iI n) (hcap : n ≤ cap ∧ cap < 1000) (hB : SayB n S) {i : Nat} (hi : i < n) : Con E l yJx4a65c_elementData_915e3 cJx4a65c_elementData_915e3 2 (some (.object "java/lang/Object")) rm_Jx4a65c_elementData_915e3 Γ (wC Γ ad ed f g (tS Γ ed cap sa S n)) [.ref (ad 1), .int (iI (((i : Nat) : Int)))] (Qr (sa i) (wC Γ ad ed f g (tS Γ ed cap sa S n))) := by
  refine Con_mk (by decide) (Nat.le_of_ble_eq_true rfl) ?_
  intro p e s₀ m args below meth c A Fx hr hlk hnm X ls hl
  have hl : lv_has ls 2 [(0, .ref (ad 1)), (1, .int (iI (((i : Nat) : Int))))] := hl
  refine lv_aload_n Fx.1 Fx.2.1 dJx4a65c_elementData_915e3_0 rfl (lv_at hl 0 rfl) ?_
  refine gC_Jx4a65c_9_1 Fx X dJx4a65c_elementData_915e3_1 ?_
  refine lv_iload_n Fx.1 Fx.2.1 dJx4a65c_elementData_915e3_4 rfl (lv_at hl 1 rfl) ?_
  refine r_qld (q0 := 44) (z := ((i : Nat) : Int)) (i := i) Fx X (tS_ed (i := i) (by omega) hcap.1) (rfl) (by omega) (by omega) (if_pos (by omega)) dJx4a65c_elementData_915e3_5 ?_
  exact r_aret Fx hr (by first | exact Or.inl ⟨_, rfl⟩ | exact Or.inr ⟨_, rfl⟩) hlk X (by decide) dJx4a65c_elementData_915e3_6 (⟨rfl, rfl⟩)

abbrev rm_Jx4a65c_get_915e3 : Room := ({ frames := 2, cells := 0, slots := 0, locals := 43 } : Room)
set_option maxHeartbeats 4000000 in
set_option maxRecDepth 100000 in
theorem c_Jx4a65c_get_915e3 {E : XX} (hE : XS E) (l : Launch) {Γ : GG} {ad : Nat → Nat} {ed cap n : Nat} {sa : Nat → Nat} {S : Nat → Nat → Nat} {f g : Nat → Nat → Int32} (hn9 : f 1 2 = iI n) (hcap : n ≤ cap ∧ cap < 1000) (hB : SayB n S) {i : Nat} (hi : i < n) : Con E l yJx4a65c_get_915e3 cJx4a65c_get_915e3 2 (some (.object "java/lang/Object")) rm_Jx4a65c_get_915e3 Γ (wC Γ ad ed f g (tS Γ ed cap sa S n)) [.ref (ad 1), .int (iI (((i : Nat) : Int)))] (Qr (sa i) (wC Γ ad ed f g (tS Γ ed cap sa S n))) := by
  refine Con_mk (by decide) (Nat.le_of_ble_eq_true rfl) ?_
  intro p e s₀ m args below meth c A Fx hr hlk hnm X ls hl
  have hl : lv_has ls 2 [(0, .ref (ad 1)), (1, .int (iI (((i : Nat) : Int))))] := hl
  refine lv_iload_n Fx.1 Fx.2.1 dJx4a65c_get_915e3_0 rfl (lv_at hl 1 rfl) ?_
  refine lv_aload_n Fx.1 Fx.2.1 dJx4a65c_get_915e3_1 rfl (lv_at hl 0 rfl) ?_
  refine gC_Jx4a65c_48_1 (x := (iI (((n : Nat) : Int)))) Fx X (hn9) dJx4a65c_get_915e3_2 ?_
  refine r_callSi (As := [.int (iI (((i : Nat) : Int))), .int (iI (((n : Nat) : Int)))]) (rest := []) hE Fx X (c_J15_checkIndex_7cf53 hE l (a := ((i : Nat) : Int)) (b := ((n : Nat) : Int)) (by omega) (by omega)) cS_Jx4a65c_118 rfl rfl (Nat.le_of_ble_eq_true rfl) (by decide) hl.1 dJx4a65c_get_915e3_5 (fun H locs X => ?_)
  refine lv_pop Fx.1 Fx.2.1 dJx4a65c_get_915e3_8 rfl ?_
  refine lv_aload_n Fx.1 Fx.2.1 dJx4a65c_get_915e3_9 rfl (lv_at hl 0 rfl) ?_
  refine lv_iload_n Fx.1 Fx.2.1 dJx4a65c_get_915e3_10 rfl (lv_at hl 1 rfl) ?_
  refine r_callVr (As := [.int (iI (((i : Nat) : Int)))]) (rest := []) hE Fx X (c_Jx4a65c_elementData_915e3 hE l (by exact hn9) hcap hB (i := i) (by omega)) cV_Jx4a65c_123 (recC_1 X) rfl rfl (Nat.le_of_ble_eq_true rfl) (by decide) hl.1 dJx4a65c_get_915e3_11 (fun H locs X => ?_)
  exact r_aret Fx hr (by first | exact Or.inl ⟨_, rfl⟩ | exact Or.inr ⟨_, rfl⟩) hlk X (by decide) dJx4a65c_get_915e3_14 (⟨rfl, rfl⟩)

abbrev rm_X6_has : Room := ({ frames := 0, cells := 0, slots := 0, locals := 0 } : Room)
set_option maxHeartbeats 4000000 in
set_option maxRecDepth 100000 in
theorem c_X6_has {E : XX} (hE : XS E) (l : Launch) {Γ : GG} {ad : Nat → Nat} {ed cap n : Nat} {sa : Nat → Nat} {S : Nat → Nat → Nat} {f g : Nat → Nat → Int32} (hn9 : f 1 2 = iI n) (hcap : n ≤ cap ∧ cap < 1000) (hB : SayB n S) {i s : Nat} (hi : i < n) (hs : s < 10) : Con E l yX6_has cX6_has 2 (some .boolean) rm_X6_has Γ (wC Γ ad ed f g (tS Γ ed cap sa S n)) [.ref (sa i), .int (iI (((s : Nat) : Int)))] (Qi (bI (S 1 i ≤ s ∧ s ≤ S 2 i)) (wC Γ ad ed f g (tS Γ ed cap sa S n))) := by
  refine Con_mk (by decide) (Nat.le_of_ble_eq_true rfl) ?_
  intro p e s₀ m args below meth c A Fx hr hlk hnm X ls hl
  have hl : lv_has ls 2 [(0, .ref (sa i)), (1, .int (iI (((s : Nat) : Int))))] := hl
  have hB3 := hB.2 i
  refine lv_iload_n Fx.1 Fx.2.1 dX6_has_0 rfl (lv_at hl 1 rfl) ?_
  refine lv_aload_n Fx.1 Fx.2.1 dX6_has_1 rfl (lv_at hl 0 rfl) ?_
  refine gf_X6_15 (q0 := 45 + i) (v := .int (iI (((S 1 i : Nat) : Int)))) Fx X (tS_at (by omega) hcap.1) rfl dX6_has_2 ?_
  refine k_icmp_lt (a := ((s : Nat) : Int)) (b := ((S 1 i : Nat) : Int)) (tgt := 20) Fx dX6_has_5 (by decide) (by omega) (by omega) (fun c_5 => ?_) (fun c_5 => ?_)
  · refine k_iconst Fx dX6_has_20 ?_
    exact r_zret Fx hr hlk X (by decide) dX6_has_21 rfl (Qi_mk (bI_0 (by omega)))
  · refine lv_iload_n Fx.1 Fx.2.1 dX6_has_8 rfl (lv_at hl 1 rfl) ?_
    refine lv_aload_n Fx.1 Fx.2.1 dX6_has_9 rfl (lv_at hl 0 rfl) ?_
    refine gf_X6_18 (q0 := 45 + i) (v := .int (iI (((S 2 i : Nat) : Int)))) Fx X (tS_at (by omega) hcap.1) rfl dX6_has_10 ?_
    refine k_icmp_gt (a := ((s : Nat) : Int)) (b := ((S 2 i : Nat) : Int)) (tgt := 20) Fx dX6_has_13 (by decide) (by omega) (by omega) (fun c_13 => ?_) (fun c_13 => ?_)
    · refine k_iconst Fx dX6_has_20 ?_
      exact r_zret Fx hr hlk X (by decide) dX6_has_21 rfl (Qi_mk (bI_0 (by omega)))
    · refine k_iconst Fx dX6_has_16 ?_
      refine lv_goto (tgt := 21) Fx.1 Fx.2.1 dX6_has_17 (by decide) ?_
      exact r_zret Fx hr hlk X (by decide) dX6_has_21 rfl (Qi_mk (bI_1 (by omega)))

abbrev rm_X6_counted : Room := ({ frames := 1, cells := 0, slots := 0, locals := 14 } : Room)
set_option maxHeartbeats 4000000 in
set_option maxRecDepth 100000 in
theorem c_X6_counted {E : XX} (hE : XS E) (l : Launch) {Γ : GG} {ad : Nat → Nat} {ed cap n : Nat} {sa : Nat → Nat} {S : Nat → Nat → Nat} {f g : Nat → Nat → Int32} (hn9 : f 1 2 = iI n) (hcap : n ≤ cap ∧ cap < 1000) (hB : SayB n S) {wt : Nat → Nat} {nw : Nat → Prop} {th ho be : Nat} (hL : LawC wt nw th ho be f g) (hLB : LawB wt th ho be) {i t : Nat} (hi : i < n) (ht : t < 80) : Con E l yX6_counted cX6_counted 4 (some .int) rm_X6_counted Γ (wC Γ ad ed f g (tS Γ ed cap sa S n)) [.ref (sa i), .int (iI (((t : Nat) : Int))), .ref (ad 9)] (Qi (iI (aMv S th i t : Nat)) (wC Γ ad ed f g (tS Γ ed cap sa S n))) := by
  refine Con_mk (by decide) (Nat.le_of_ble_eq_true rfl) ?_
  intro p e s₀ m args below meth c A Fx hr hlk hnm X ls hl
  have hl : lv_has ls 4 [(0, .ref (sa i)), (1, .int (iI (((t : Nat) : Int)))), (2, .ref (ad 9))] := hl
  have hB3 := hB.2 i
  have hth := hLB.2.1
  refine lv_aload_n Fx.1 Fx.2.1 dX6_counted_0 rfl (lv_at hl 0 rfl) ?_
  refine gf_X6_9 (q0 := 45 + i) (v := .int (iI (((S 0 i : Nat) : Int)))) Fx X (tS_at (by omega) hcap.1) rfl dX6_counted_1 ?_
  refine k_iconst Fx dX6_counted_4 ?_
  refine k_icmp_eq (a := ((S 0 i : Nat) : Int)) (b := 2) (tgt := 10) Fx dX6_counted_5 (by decide) (by omega) (by omega) (fun c_5 => ?_) (fun c_5 => ?_)
  · refine lv_aload_n Fx.1 Fx.2.1 dX6_counted_10 rfl (lv_at hl 0 rfl) ?_
    refine gf_X6_30 (q0 := 45 + i) (v := .int (iI (((S 6 i : Nat) : Int)))) Fx X (tS_at (by omega) hcap.1) rfl dX6_counted_11 ?_
    refine k_if_ne (a := ((S 6 i : Nat) : Int)) (tgt := 26) Fx dX6_counted_14 (by decide) (by omega) (fun c_14 => ?_) (fun c_14 => ?_)
    · refine lv_iload_n Fx.1 Fx.2.1 dX6_counted_26 rfl (lv_at hl 1 rfl) ?_
      refine lv_aload_n Fx.1 Fx.2.1 dX6_counted_27 rfl (lv_at hl 2 rfl) ?_
      refine gC_X6_33_9 (x := (iI (((th : Nat) : Int)))) Fx X (hL.1) dX6_counted_28 ?_
      refine k_isub Fx dX6_counted_31 ?_
      refine lv_istore_n (lv' := [(3, .int (iI ((((t : Nat) : Int) - ((th : Nat) : Int))))), (0, .ref (sa i)), (1, .int (iI (((t : Nat) : Int)))), (2, .ref (ad 9))]) Fx.1 Fx.2.1 dX6_counted_32 rfl hl (by decide) rfl (fun ls hl => ?_)
      refine k_iconst Fx dX6_counted_33 ?_
      refine k_bipush Fx dX6_counted_34 (by decide) ?_
      refine lv_iload_n Fx.1 Fx.2.1 dX6_counted_36 rfl (lv_at hl 0 rfl) ?_
      refine r_min (a := 79) (b := (((t : Nat) : Int) - ((th : Nat) : Int))) Fx mlM_X6_38 (by omega) (by omega) hl.1 (by decide) (Nat.le_of_ble_eq_true rfl) (by decide) (by decide) dX6_counted_37 ?_
      refine r_max (a := 0) (b := (if (((t : Nat) : Int) - ((th : Nat) : Int)) < 79 then (((t : Nat) : Int) - ((th : Nat) : Int)) else 79)) Fx mlM_X6_44 (by omega) (by (repeat' split) <;> omega) hl.1 (by decide) (Nat.le_of_ble_eq_true rfl) (by decide) (by decide) dX6_counted_40 ?_
      exact r_iret Fx hr hlk X (by decide) dX6_counted_43 (Qi_mk (congrArg iI (by unfold aMv; (repeat' split) <;> omega)))
    · refine lv_iload_n Fx.1 Fx.2.1 dX6_counted_17 rfl (lv_at hl 1 rfl) ?_
      refine lv_aload_n Fx.1 Fx.2.1 dX6_counted_18 rfl (lv_at hl 2 rfl) ?_
      refine gC_X6_33_9 (x := (iI (((th : Nat) : Int)))) Fx X (hL.1) dX6_counted_19 ?_
      refine k_iadd Fx dX6_counted_22 ?_
      refine lv_goto (tgt := 32) Fx.1 Fx.2.1 dX6_counted_23 (by decide) ?_
      refine lv_istore_n (lv' := [(3, .int (iI ((((t : Nat) : Int) + ((th : Nat) : Int))))), (0, .ref (sa i)), (1, .int (iI (((t : Nat) : Int)))), (2, .ref (ad 9))]) Fx.1 Fx.2.1 dX6_counted_32 rfl hl (by decide) rfl (fun ls hl => ?_)
      refine k_iconst Fx dX6_counted_33 ?_
      refine k_bipush Fx dX6_counted_34 (by decide) ?_
      refine lv_iload_n Fx.1 Fx.2.1 dX6_counted_36 rfl (lv_at hl 0 rfl) ?_
      refine r_min (a := 79) (b := (((t : Nat) : Int) + ((th : Nat) : Int))) Fx mlM_X6_38 (by omega) (by omega) hl.1 (by decide) (Nat.le_of_ble_eq_true rfl) (by decide) (by decide) dX6_counted_37 ?_
      refine r_max (a := 0) (b := (if (((t : Nat) : Int) + ((th : Nat) : Int)) < 79 then (((t : Nat) : Int) + ((th : Nat) : Int)) else 79)) Fx mlM_X6_44 (by omega) (by (repeat' split) <;> omega) hl.1 (by decide) (Nat.le_of_ble_eq_true rfl) (by decide) (by decide) dX6_counted_40 ?_
      exact r_iret Fx hr hlk X (by decide) dX6_counted_43 (Qi_mk (congrArg iI (by unfold aMv; (repeat' split) <;> omega)))
  · refine lv_iload_n Fx.1 Fx.2.1 dX6_counted_8 rfl (lv_at hl 1 rfl) ?_
    exact r_iret Fx hr hlk X (by decide) dX6_counted_9 (Qi_mk (congrArg iI (by unfold aMv; (repeat' split) <;> omega)))

abbrev rm_X6_countsAt : Room := ({ frames := 3, cells := 0, slots := 0, locals := 64 } : Room)
set_option maxHeartbeats 4000000 in
set_option maxRecDepth 100000 in
theorem c_X6_countsAt {E : XX} (hE : XS E) (l : Launch) {Γ : GG} {ad : Nat → Nat} {ed cap n : Nat} {sa : Nat → Nat} {S : Nat → Nat → Nat} {f g : Nat → Nat → Int32} (hn9 : f 1 2 = iI n) (hcap : n ≤ cap ∧ cap < 1000) (hB : SayB n S) {wt : Nat → Nat} {nw : Nat → Prop} {th ho be : Nat} (hL : LawC wt nw th ho be f g) (hLB : LawB wt th ho be) {i s : Nat} (hi : i < n) (hs : s < 10) : Con E l yX6_countsAt cX6_countsAt 6 (some .boolean) rm_X6_countsAt Γ (wC Γ ad ed f g (tS Γ ed cap sa S n)) [.ref (sa i), .int (iI (((s : Nat) : Int))), .ref (ad 1), .ref (ad 9)] (Qi (bI (aCt n S nw i s)) (wC Γ ad ed f g (tS Γ ed cap sa S n))) := by
  refine Con_mk (by decide) (Nat.le_of_ble_eq_true rfl) ?_
  intro p e s₀ m args below meth c A Fx hr hlk hnm X ls hl
  have hl : lv_has ls 6 [(0, .ref (sa i)), (1, .int (iI (((s : Nat) : Int)))), (2, .ref (ad 1)), (3, .ref (ad 9))] := hl
  have hB1 := hB.1
  have hB3 := hB.2 i
  refine lv_aload_n Fx.1 Fx.2.1 dX6_countsAt_0 rfl (lv_at hl 0 rfl) ?_
  refine lv_iload_n Fx.1 Fx.2.1 dX6_countsAt_1 rfl (lv_at hl 1 rfl) ?_
  refine r_callVi (As := [.int (iI (((s : Nat) : Int)))]) (rest := []) hE Fx X (c_X6_has hE l (by exact hn9) hcap hB (i := i) (s := s) (by omega) (by omega)) cV_X6_47 (va_recv X.1 X.2.1 (ci := 7) (q0 := 45 + i) rfl (tS_at (by omega) hcap.1)) rfl rfl (Nat.le_of_ble_eq_true rfl) (by decide) hl.1 dX6_countsAt_2 (fun H locs X => ?_)
  refine k_bif_ne (tgt := 10) Fx dX6_countsAt_5 (by decide) (fun c_5 => ?_) (fun c_5 => ?_)
  · refine lv_aload_n Fx.1 Fx.2.1 dX6_countsAt_10 rfl (lv_at hl 3 rfl) ?_
    refine gC_X6_51_9 Fx X dX6_countsAt_11 ?_
    refine lv_aload_n Fx.1 Fx.2.1 dX6_countsAt_14 rfl (lv_at hl 0 rfl) ?_
    refine gf_X6_9 (q0 := 45 + i) (v := .int (iI (((S 0 i : Nat) : Int)))) Fx X (tS_at (by omega) hcap.1) rfl dX6_countsAt_15 ?_
    refine ldC_29 (z := ((S 0 i : Nat) : Int)) (i := (S 0 i)) (x := (bI (nw (S 0 i)))) Fx X (rfl) (by omega) (hL.2.2.2.2 (S 0 i) (by omega)) dX6_countsAt_18 ?_
    refine k_bif_ne (tgt := 24) Fx dX6_countsAt_19 (by decide) (fun c_19 => ?_) (fun c_19 => ?_)
    · refine k_iconst Fx dX6_countsAt_24 ?_
      refine lv_istore (lv' := [(4, .int (iI (0))), (0, .ref (sa i)), (1, .int (iI (((s : Nat) : Int)))), (2, .ref (ad 1)), (3, .ref (ad 9))]) Fx.1 Fx.2.1 dX6_countsAt_25 hl (by decide) rfl (fun ls hl => ?_)
      have lp_27 : ∀ (nn : Nat) (j : Nat), n - j < nn → (j ≤ n) → (allN (aBlk S i s) j) → ∀ (H : Heap) (locs : List Loc) (ls : Array Slot), Wd E Γ A s₀ H locs (wC Γ ad ed f g (tS Γ ed cap sa S n)) → lv_has ls 6 [(0, .ref (sa i)), (1, .int (iI (((s : Nat) : Int)))), (2, .ref (ad 1)), (3, .ref (ad 9)), (4, .int (iI (((j : Nat) : Int))))] → W p l e rm_X6_countsAt s₀ m args below meth c H locs (0) (0) (RQ below args s₀ Γ A (Qi (bI (aCt n S nw i s)) (wC Γ ad ed f g (tS Γ ed cap sa S n))) rm_X6_countsAt) (F0 m 27 ls []) := by
        intro nn
        induction nn with
        | zero => intro j hmu; exact absurd hmu (Nat.not_lt_zero _)
        | succ nn ih =>
          intro j hmu hj hno H locs ls X hl
          have ih_27 := ih
          refine lv_iload Fx.1 Fx.2.1 dX6_countsAt_27 (lv_at hl 4 rfl) ?_
          refine lv_aload_n Fx.1 Fx.2.1 dX6_countsAt_29 rfl (lv_at hl 2 rfl) ?_
          refine r_callVi (As := []) (rest := [.int (iI (((j : Nat) : Int)))]) hE Fx X (c_Jx4a65c_size_8abf5 hE l (by exact hn9) hcap hB) cV_X6_55 (recC_1 X) rfl rfl (Nat.le_of_ble_eq_true rfl) (by decide) hl.1 dX6_countsAt_30 (fun H locs X => ?_)
          refine k_icmp_ge (a := ((j : Nat) : Int)) (b := ((n : Nat) : Int)) (tgt := 88) Fx dX6_countsAt_33 (by decide) (by omega) (by omega) (fun c_33 => ?_) (fun c_33 => ?_)
          · refine k_iconst Fx dX6_countsAt_88 ?_
            exact r_zret Fx hr hlk X (by decide) dX6_countsAt_89 rfl (Qi_mk (bI_1 ⟨c_5, fun _ => (show j = n by omega) ▸ hno⟩))
          · have hB4 := hB.2 j
            refine lv_aload_n Fx.1 Fx.2.1 dX6_countsAt_36 rfl (lv_at hl 2 rfl) ?_
            refine lv_iload Fx.1 Fx.2.1 dX6_countsAt_37 (lv_at hl 4 rfl) ?_
            refine r_callVr (As := [.int (iI (((j : Nat) : Int)))]) (rest := []) hE Fx X (c_Jx4a65c_get_915e3 hE l (by exact hn9) hcap hB (i := j) (by omega)) cV_X6_61 (recC_1 X) rfl rfl (Nat.le_of_ble_eq_true rfl) (by decide) hl.1 dX6_countsAt_39 (fun H locs X => ?_)
            refine r_cast Fx cl_say6 (va_recv X.1 X.2.1 (ci := 7) (q0 := 45 + j) rfl (tS_at (by omega) hcap.1)) dX6_countsAt_42 ?_
            refine lv_astore (lv' := [(5, .ref (sa j)), (0, .ref (sa i)), (1, .int (iI (((s : Nat) : Int)))), (2, .ref (ad 1)), (3, .ref (ad 9)), (4, .int (iI (((j : Nat) : Int))))]) Fx.1 Fx.2.1 dX6_countsAt_45 hl (by decide) rfl (fun ls hl => ?_)
            refine lv_aload Fx.1 Fx.2.1 dX6_countsAt_47 (lv_at hl 0 rfl) ?_
            refine gf_X6_9 (q0 := 45 + j) (v := .int (iI (((S 0 j : Nat) : Int)))) Fx X (tS_at (by omega) hcap.1) rfl dX6_countsAt_49 ?_
            refine lv_aload_n Fx.1 Fx.2.1 dX6_countsAt_52 rfl (lv_at hl 1 rfl) ?_
            refine gf_X6_9 (q0 := 45 + i) (v := .int (iI (((S 0 i : Nat) : Int)))) Fx X (tS_at (by omega) hcap.1) rfl dX6_countsAt_53 ?_
            refine k_icmp_ne (a := ((S 0 j : Nat) : Int)) (b := ((S 0 i : Nat) : Int)) (tgt := 82) Fx dX6_countsAt_56 (by decide) (by omega) (by omega) (fun c_56 => ?_) (fun c_56 => ?_)
            · refine k_iinc (k := 5) (a := ((j : Nat) : Int)) (lv' := [(4, .int (iI ((((j : Nat) : Int) + 1)))), (5, .ref (sa j)), (0, .ref (sa i)), (1, .int (iI (((s : Nat) : Int)))), (2, .ref (ad 1)), (3, .ref (ad 9))]) Fx dX6_countsAt_82 hl rfl (by decide) rfl (fun ls hl => ?_)
              refine lv_goto (tgt := 27) Fx.1 Fx.2.1 dX6_countsAt_85 (by decide) ?_
              have hl_1 := lv_rp hl 0 rfl (show (iI ((((j : Nat) : Int) + 1))) = (iI ((((j + 1) : Nat) : Int))) from congrArg iI (by omega))
              exact ih_27 (j + 1) (by omega) (by omega) (allN_s.mpr ⟨hno, fun z => absurd z (by omega)⟩) _ _ _ X (lv_sub hl_1 [2, 3, 4, 5, 0] rfl)
            · refine lv_aload Fx.1 Fx.2.1 dX6_countsAt_59 (lv_at hl 0 rfl) ?_
              refine lv_iload_n Fx.1 Fx.2.1 dX6_countsAt_61 rfl (lv_at hl 2 rfl) ?_
              refine r_callVi (As := [.int (iI (((s : Nat) : Int)))]) (rest := []) hE Fx X (c_X6_has hE l (by exact hn9) hcap hB (i := j) (s := s) (by omega) (by omega)) cV_X6_47 (va_recv X.1 X.2.1 (ci := 7) (q0 := 45 + j) rfl (tS_at (by omega) hcap.1)) rfl rfl (Nat.le_of_ble_eq_true rfl) (by decide) hl.1 dX6_countsAt_62 (fun H locs X => ?_)
              refine k_bif_eq (tgt := 82) Fx dX6_countsAt_65 (by decide) (fun c_65 => ?_) (fun c_65 => ?_)
              · refine k_iinc (k := 5) (a := ((j : Nat) : Int)) (lv' := [(4, .int (iI ((((j : Nat) : Int) + 1)))), (5, .ref (sa j)), (0, .ref (sa i)), (1, .int (iI (((s : Nat) : Int)))), (2, .ref (ad 1)), (3, .ref (ad 9))]) Fx dX6_countsAt_82 hl rfl (by decide) rfl (fun ls hl => ?_)
                refine lv_goto (tgt := 27) Fx.1 Fx.2.1 dX6_countsAt_85 (by decide) ?_
                have hl_2 := lv_rp hl 0 rfl (show (iI ((((j : Nat) : Int) + 1))) = (iI ((((j + 1) : Nat) : Int))) from congrArg iI (by omega))
                exact ih_27 (j + 1) (by omega) (by omega) (allN_s.mpr ⟨hno, fun z => c_65 z.2.1⟩) _ _ _ X (lv_sub hl_2 [2, 3, 4, 5, 0] rfl)
              · refine lv_aload Fx.1 Fx.2.1 dX6_countsAt_68 (lv_at hl 0 rfl) ?_
                refine gf_X6_27 (q0 := 45 + j) (v := .int (iI (((S 5 j : Nat) : Int)))) Fx X (tS_at (by omega) hcap.1) rfl dX6_countsAt_70 ?_
                refine lv_aload_n Fx.1 Fx.2.1 dX6_countsAt_73 rfl (lv_at hl 1 rfl) ?_
                refine gf_X6_27 (q0 := 45 + i) (v := .int (iI (((S 5 i : Nat) : Int)))) Fx X (tS_at (by omega) hcap.1) rfl dX6_countsAt_74 ?_
                refine k_icmp_le (a := ((S 5 j : Nat) : Int)) (b := ((S 5 i : Nat) : Int)) (tgt := 82) Fx dX6_countsAt_77 (by decide) (by omega) (by omega) (fun c_77 => ?_) (fun c_77 => ?_)
                · refine k_iinc (k := 5) (a := ((j : Nat) : Int)) (lv' := [(4, .int (iI ((((j : Nat) : Int) + 1)))), (5, .ref (sa j)), (0, .ref (sa i)), (1, .int (iI (((s : Nat) : Int)))), (2, .ref (ad 1)), (3, .ref (ad 9))]) Fx dX6_countsAt_82 hl rfl (by decide) rfl (fun ls hl => ?_)
                  refine lv_goto (tgt := 27) Fx.1 Fx.2.1 dX6_countsAt_85 (by decide) ?_
                  have hl_3 := lv_rp hl 0 rfl (show (iI ((((j : Nat) : Int) + 1))) = (iI ((((j + 1) : Nat) : Int))) from congrArg iI (by omega))
                  exact ih_27 (j + 1) (by omega) (by omega) (allN_s.mpr ⟨hno, fun z => absurd z (by omega)⟩) _ _ _ X (lv_sub hl_3 [2, 3, 4, 5, 0] rfl)
                · refine k_iconst Fx dX6_countsAt_80 ?_
                  exact r_zret Fx hr hlk X (by decide) dX6_countsAt_81 rfl (Qi_mk (bI_0 (fun h => h.2 c_19 j (by omega) ⟨by omega, c_65, by omega⟩)))
      have hl_4 := lv_rp hl 0 rfl (show (iI (0)) = (iI (((0 : Nat) : Int))) from congrArg iI (by omega))
      exact lp_27 _ (0) (Nat.lt_succ_self _) (by omega) (allN_0 _) _ _ _ X (lv_sub hl_4 [1, 2, 3, 4, 0] rfl)
    · refine k_iconst Fx dX6_countsAt_22 ?_
      exact r_zret Fx hr hlk X (by decide) dX6_countsAt_23 rfl (Qi_mk (bI_1 ⟨c_5, fun z => absurd z c_19⟩))
  · refine k_iconst Fx dX6_countsAt_8 ?_
    exact r_zret Fx hr hlk X (by decide) dX6_countsAt_9 rfl (Qi_mk (bI_0 (fun h => c_5 h.1)))

