theorem up_n {sa : Nat → Nat} {n : Nat} : va_up (fun i => if i < n then some (sa i) else none) n (some (sa n)) = (fun i => if i < n + 1 then some (sa i) else none) := funext fun i => by
  unfold va_up
  by_cases e : i = n
  · subst e; simp
  · by_cases c : i < n
    · simp [e, c]; omega
    · simp [e, c]; omega
theorem st_n {Γ : GG} {ad : Nat → Nat} {ed cap n m : Nat} {f g : Nat → Nat → Int32} {sa : Nat → Nat} {S : Nat → Nat → Nat} (hc : cap ≠ 0) : (wC Γ ad ed f g (tT Γ ed cap sa S n m)).set 44 (ed, .inl (Γ.2 3, cap, .inr (.inr (.inr (.inr (va_up (fun i => if i < n then some (sa i) else none) n (some (sa n)))))))) = wC Γ ad ed f g (tT Γ ed cap sa S (n + 1) m) := by
  rw [up_n]
  unfold tT
  rw [if_neg hc, if_neg hc]
  rfl

abbrev rm_addA : Room := ({ frames := 5, cells := 1, slots := 15, locals := 187 } : Room)
set_option maxHeartbeats 4000000 in
set_option maxRecDepth 100000 in
theorem c_addA {E : XX} (hE : XS E) (l : Launch) {Γ : GG} {κ : KK} (hN : EN E κ) {ad : Nat → Nat} {sa : Nat → Nat} {S : Nat → Nat → Nat} {f g : Nat → Nat → Int32} (hn9 : f 1 2 = iI ((0 : Nat) : Int)) : Con E l yJx4a65c_add_72be8 cJx4a65c_add_72be8 4 none rm_addA Γ (wC Γ ad κ.2.2.1 f g (tT Γ κ.2.2.1 0 sa S 0 (0 + 1))) [.ref (ad 1), .ref (sa 0), .ref (κ.2.2.1), .int (iI (((0 : Nat) : Int)))] (fun v w2 => v = none ∧ ∃ ed2 cap2, w2 = wC Γ ad ed2 (updA f 1 (upd (f 1) 2 (iI (((0 : Nat) : Int) + 1)))) g (tT Γ ed2 cap2 sa S (0 + 1) (0 + 1)) ∧ CapO cap2 (0 + 1)) := by
  refine Con_mk (by decide) (Nat.le_of_ble_eq_true rfl) ?_
  intro p e s₀ m args below meth c A Fx hr hlk hnm X ls hl
  have hl : lv_has ls 4 [(0, .ref (ad 1)), (1, .ref (sa 0)), (2, .ref (κ.2.2.1)), (3, .int (iI (((0 : Nat) : Int))))] := hl
  refine lv_iload_n Fx.1 Fx.2.1 dJx4a65c_add_72be8_0 rfl (lv_at hl 3 rfl) ?_
  refine lv_aload_n Fx.1 Fx.2.1 dJx4a65c_add_72be8_1 rfl (lv_at hl 2 rfl) ?_
  refine va_tlen Fx.1 Fx.2.1 (X.ef hN).2.2.2.1.2 X.2.2.2.1 (v := iI 0) rfl dJx4a65c_add_72be8_2 ?_
  refine k_icmp_ne (a := ((0 : Nat) : Int)) (b := 0) (tgt := 11) Fx dJx4a65c_add_72be8_3 (by decide) (by omega) (by omega) (fun c_3 => ?_) (fun c_3 => ?_)
  · exact absurd c_3 (by omega)
  · refine lv_aload_n Fx.1 Fx.2.1 dJx4a65c_add_72be8_6 rfl (lv_at hl 0 rfl) ?_
    refine r_callV (As := []) (rest := []) hE Fx X (c_growdA hE l hN (by exact hn9)) cV_Jx4a65c_129 (recC_1 X) rfl rfl (Nat.le_of_ble_eq_true rfl) (by decide) hl.1 dJx4a65c_add_72be8_7 (fun v9 w9 H locs hq X => ?_)
    obtain ⟨q_1, rfl, rfl⟩ := hq
    refine lv_astore_n (lv' := [(2, .ref (q_1)), (0, .ref (ad 1)), (1, .ref (sa 0)), (3, .int (iI (((0 : Nat) : Int))))]) Fx.1 Fx.2.1 dJx4a65c_add_72be8_10 rfl hl (by decide) rfl (fun ls hl => ?_)
    refine lv_aload_n Fx.1 Fx.2.1 dJx4a65c_add_72be8_11 rfl (lv_at hl 0 rfl) ?_
    refine lv_iload_n Fx.1 Fx.2.1 dJx4a65c_add_72be8_12 rfl (lv_at hl 3 rfl) ?_
    refine lv_aload_n Fx.1 Fx.2.1 dJx4a65c_add_72be8_13 rfl (lv_at hl 2 rfl) ?_
    refine r_astq (q0 := 44) (qk := 45 + 0) (i := 0) hN Fx X (tT_ed (by omega)) (tT_at (by omega) (by omega)) (by omega) (by omega) (by omega) dJx4a65c_add_72be8_14 (fun H locs X => ?_)
    have X : Wd E Γ A s₀ H locs (wC Γ ad q_1 f g (tT Γ q_1 10 sa S (0 + 1) (0 + 1))) := Wd.to X (st_n (by omega))
    refine lv_aload_n Fx.1 Fx.2.1 dJx4a65c_add_72be8_15 rfl (lv_at hl 1 rfl) ?_
    refine lv_iload_n Fx.1 Fx.2.1 dJx4a65c_add_72be8_16 rfl (lv_at hl 3 rfl) ?_
    refine k_iconst Fx dJx4a65c_add_72be8_17 ?_
    refine k_iadd Fx dJx4a65c_add_72be8_18 ?_
    refine pC_Jx4a65c_48_1 Fx X dJx4a65c_add_72be8_19 (fun H locs X => ?_)
    exact r_vret Fx hr hlk X (by decide) dJx4a65c_add_72be8_22 (⟨rfl, _, _, rfl, by unfold CapO; omega⟩)

abbrev rm_addC : Room := ({ frames := 5, cells := 1, slots := 15, locals := 187 } : Room)
set_option maxHeartbeats 4000000 in
set_option maxRecDepth 100000 in
theorem c_addC {E : XX} (hE : XS E) (l : Launch) {Γ : GG} {κ : KK} (hN : EN E κ) {ad : Nat → Nat} {ed : Nat} {sa : Nat → Nat} {S : Nat → Nat → Nat} {f g : Nat → Nat → Int32} (hn9 : f 1 2 = iI ((10 : Nat) : Int)) : Con E l yJx4a65c_add_72be8 cJx4a65c_add_72be8 4 none rm_addC Γ (wC Γ ad ed f g (tT Γ ed 10 sa S 10 (10 + 1))) [.ref (ad 1), .ref (sa 10), .ref (ed), .int (iI (((10 : Nat) : Int)))] (fun v w2 => v = none ∧ ∃ ed2 cap2, w2 = wC Γ ad ed2 (updA f 1 (upd (f 1) 2 (iI (((10 : Nat) : Int) + 1)))) g (tT Γ ed2 cap2 sa S (10 + 1) (10 + 1)) ∧ CapO cap2 (10 + 1)) := by
  refine Con_mk (by decide) (Nat.le_of_ble_eq_true rfl) ?_
  intro p e s₀ m args below meth c A Fx hr hlk hnm X ls hl
  have hl : lv_has ls 4 [(0, .ref (ad 1)), (1, .ref (sa 10)), (2, .ref (ed)), (3, .int (iI (((10 : Nat) : Int))))] := hl
  refine lv_iload_n Fx.1 Fx.2.1 dJx4a65c_add_72be8_0 rfl (lv_at hl 3 rfl) ?_
  refine lv_aload_n Fx.1 Fx.2.1 dJx4a65c_add_72be8_1 rfl (lv_at hl 2 rfl) ?_
  refine r_len (t0 := 3) (q0 := 44) Fx X (tT_ed (by omega)) rfl dJx4a65c_add_72be8_2 ?_
  refine k_icmp_ne (a := ((10 : Nat) : Int)) (b := ((10 : Nat) : Int)) (tgt := 11) Fx dJx4a65c_add_72be8_3 (by decide) (by omega) (by omega) (fun c_3 => ?_) (fun c_3 => ?_)
  · exact absurd c_3 (by omega)
  · refine lv_aload_n Fx.1 Fx.2.1 dJx4a65c_add_72be8_6 rfl (lv_at hl 0 rfl) ?_
    refine r_callV (As := []) (rest := []) hE Fx X (c_growdC hE l hN (by exact hn9)) cV_Jx4a65c_129 (recC_1 X) rfl rfl (Nat.le_of_ble_eq_true rfl) (by decide) hl.1 dJx4a65c_add_72be8_7 (fun v9 w9 H locs hq X => ?_)
    obtain ⟨q_1, rfl, rfl⟩ := hq
    refine lv_astore_n (lv' := [(2, .ref (q_1)), (0, .ref (ad 1)), (1, .ref (sa 10)), (3, .int (iI (((10 : Nat) : Int))))]) Fx.1 Fx.2.1 dJx4a65c_add_72be8_10 rfl hl (by decide) rfl (fun ls hl => ?_)
    refine lv_aload_n Fx.1 Fx.2.1 dJx4a65c_add_72be8_11 rfl (lv_at hl 0 rfl) ?_
    refine lv_iload_n Fx.1 Fx.2.1 dJx4a65c_add_72be8_12 rfl (lv_at hl 3 rfl) ?_
    refine lv_aload_n Fx.1 Fx.2.1 dJx4a65c_add_72be8_13 rfl (lv_at hl 2 rfl) ?_
    refine r_astq (q0 := 44) (qk := 45 + 10) (i := 10) hN Fx X (tT_ed (by omega)) (tT_at (by omega) (by omega)) (by omega) (by omega) (by omega) dJx4a65c_add_72be8_14 (fun H locs X => ?_)
    have X : Wd E Γ A s₀ H locs (wC Γ ad q_1 f g (tT Γ q_1 15 sa S (10 + 1) (10 + 1))) := Wd.to X (st_n (by omega))
    refine lv_aload_n Fx.1 Fx.2.1 dJx4a65c_add_72be8_15 rfl (lv_at hl 1 rfl) ?_
    refine lv_iload_n Fx.1 Fx.2.1 dJx4a65c_add_72be8_16 rfl (lv_at hl 3 rfl) ?_
    refine k_iconst Fx dJx4a65c_add_72be8_17 ?_
    refine k_iadd Fx dJx4a65c_add_72be8_18 ?_
    refine pC_Jx4a65c_48_1 Fx X dJx4a65c_add_72be8_19 (fun H locs X => ?_)
    exact r_vret Fx hr hlk X (by decide) dJx4a65c_add_72be8_22 (⟨rfl, _, _, rfl, by unfold CapO; omega⟩)

abbrev rm_addB : Room := ({ frames := 5, cells := 1, slots := 15, locals := 187 } : Room)
set_option maxHeartbeats 4000000 in
set_option maxRecDepth 100000 in
theorem c_addB {E : XX} (hE : XS E) (l : Launch) {Γ : GG} {κ : KK} (hN : EN E κ) {ad : Nat → Nat} {ed cap n : Nat} (hc0 : cap = 10 ∨ cap = 15) (hcn : n < cap) {sa : Nat → Nat} {S : Nat → Nat → Nat} {f g : Nat → Nat → Int32} (hn9 : f 1 2 = iI ((n : Nat) : Int)) : Con E l yJx4a65c_add_72be8 cJx4a65c_add_72be8 4 none rm_addB Γ (wC Γ ad ed f g (tT Γ ed cap sa S n (n + 1))) [.ref (ad 1), .ref (sa n), .ref (ed), .int (iI (((n : Nat) : Int)))] (fun v w2 => v = none ∧ ∃ ed2 cap2, w2 = wC Γ ad ed2 (updA f 1 (upd (f 1) 2 (iI (((n : Nat) : Int) + 1)))) g (tT Γ ed2 cap2 sa S (n + 1) (n + 1)) ∧ CapO cap2 (n + 1)) := by
  refine Con_mk (by decide) (Nat.le_of_ble_eq_true rfl) ?_
  intro p e s₀ m args below meth c A Fx hr hlk hnm X ls hl
  have hl : lv_has ls 4 [(0, .ref (ad 1)), (1, .ref (sa n)), (2, .ref (ed)), (3, .int (iI (((n : Nat) : Int))))] := hl
  refine lv_iload_n Fx.1 Fx.2.1 dJx4a65c_add_72be8_0 rfl (lv_at hl 3 rfl) ?_
  refine lv_aload_n Fx.1 Fx.2.1 dJx4a65c_add_72be8_1 rfl (lv_at hl 2 rfl) ?_
  refine r_len (t0 := 3) (q0 := 44) Fx X (tT_ed (by omega)) rfl dJx4a65c_add_72be8_2 ?_
  refine k_icmp_ne (a := ((n : Nat) : Int)) (b := ((cap : Nat) : Int)) (tgt := 11) Fx dJx4a65c_add_72be8_3 (by decide) (by omega) (by omega) (fun c_3 => ?_) (fun c_3 => ?_)
  · refine lv_aload_n Fx.1 Fx.2.1 dJx4a65c_add_72be8_11 rfl (lv_at hl 2 rfl) ?_
    refine lv_iload_n Fx.1 Fx.2.1 dJx4a65c_add_72be8_12 rfl (lv_at hl 3 rfl) ?_
    refine lv_aload_n Fx.1 Fx.2.1 dJx4a65c_add_72be8_13 rfl (lv_at hl 1 rfl) ?_
    refine r_astq (q0 := 44) (qk := 45 + n) (i := n) hN Fx X (tT_ed (by omega)) (tT_at (by omega) (by omega)) (by omega) (by omega) (by omega) dJx4a65c_add_72be8_14 (fun H locs X => ?_)
    have X : Wd E Γ A s₀ H locs (wC Γ ad ed f g (tT Γ ed cap sa S (n + 1) (n + 1))) := Wd.to X (st_n (by omega))
    refine lv_aload_n Fx.1 Fx.2.1 dJx4a65c_add_72be8_15 rfl (lv_at hl 0 rfl) ?_
    refine lv_iload_n Fx.1 Fx.2.1 dJx4a65c_add_72be8_16 rfl (lv_at hl 3 rfl) ?_
    refine k_iconst Fx dJx4a65c_add_72be8_17 ?_
    refine k_iadd Fx dJx4a65c_add_72be8_18 ?_
    refine pC_Jx4a65c_48_1 Fx X dJx4a65c_add_72be8_19 (fun H locs X => ?_)
    exact r_vret Fx hr hlk X (by decide) dJx4a65c_add_72be8_22 (⟨rfl, _, _, rfl, by unfold CapO; omega⟩)
  · exact absurd c_3 (by omega)

