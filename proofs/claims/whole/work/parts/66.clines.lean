noncomputable def dmF (P : Prop) (fk k : Int) : Int := @ite _ (¬ P ∧ fk = 0) (Classical.propDecidable _) k fk
noncomputable def dmP (P : Prop) (fk fp a : Int) : Int := @ite _ (¬ P ∧ fk = 0) (Classical.propDecidable _) a fp
theorem dm_b {P : Prop} {fk k : Int} (h : 0 ≤ fk ∧ fk ≤ 3) (hk : 1 ≤ k ∧ k ≤ 3) : 0 ≤ dmF P fk k ∧ dmF P fk k ≤ 3 := by
  unfold dmF; split <;> omega
theorem dm_t {P : Prop} {fk fp k a : Int} (h : P) : dmF P fk k = fk ∧ dmP P fk fp a = fp := ⟨if_neg (fun z => z.1 h), if_neg (fun z => z.1 h)⟩
theorem dm_n {P : Prop} {fk fp k a : Int} (h : fk ≠ 0) : dmF P fk k = fk ∧ dmP P fk fp a = fp := ⟨if_neg (fun z => h z.2), if_neg (fun z => h z.2)⟩
theorem dm_f {P : Prop} {fk fp k a : Int} (h : ¬ P) (h2 : fk = 0) : dmF P fk k = k ∧ dmP P fk fp a = a := ⟨if_pos ⟨h, h2⟩, if_pos ⟨h, h2⟩⟩
def LawD (x : LWT) (f g : Nat → Nat → Int32) : Prop := f 10 2 = iI x.2.2.1 ∧ f 10 3 = iI x.2.2.2.1 ∧ f 10 4 = iI x.2.2.2.2 ∧ (∀ k, k < 6 → g 30 k = iI (x.1 k)) ∧ (∀ k, k < 6 → g 31 k = bI (x.2.1 k))
/-- what reading a line changes of the objects: the reader, the draft -/
def FrR (f1 f : Nat → Nat → Int32) : Prop := ∀ o j, o ≠ 3 → f1 o j = f o j
def FrE (f1 f g1 g : Nat → Nat → Int32) : Prop := (∀ o j, o ≠ 3 → o ≠ 10 → f1 o j = f o j) ∧ (∀ j, j ≠ 30 → j ≠ 31 → g1 j = g j)
theorem TokC_d {tn : Nat} {tb : Nat → Nat} {i : Nat} {f1 f : Nat → Nat → Int32} (h : ∀ o j, ¬ (o = 3 ∧ j < 2) → f1 o j = f o j) (hK : TokC tn tb i f) : TokC tn tb i f1 := ⟨(h 3 4 (by omega)).trans hK.1, (h 3 5 (by omega)).trans hK.2.1, (h 3 6 (by omega)).trans hK.2.2.1, (h 3 7 (by omega)).trans hK.2.2.2⟩
theorem TapC_d {tn : Nat} {tb : Nat → Nat} {f1 f g : Nat → Nat → Int32} (h : ∀ o j, ¬ (o = 3 ∧ j < 2) → f1 o j = f o j) (hT : TapC tn tb f g) : TapC tn tb f1 g := ⟨(h 2 1 (by omega)).trans hT.1, hT.2⟩
theorem ct_b (tn : Nat) (tb : Nat → Nat) (i : Nat) : (0 ≤ ctT tn tb i ∧ ctT tn tb i ≤ 4) ∧ (-1 ≤ ctV tn tb i ∧ ctV tn tb i ≤ 99) := by
  have h1 := tkT_b tn tb i
  have h2 := tkV_b tn tb i
  unfold ctT ctV
  refine ⟨?_, ?_⟩ <;> (repeat' split) <;> omega
noncomputable def vbI (tn : Nat) (tb : Nat → Nat) (i : Nat) : Int := if ctT tn tb i = 1 then ctV tn tb i else -1
theorem vb_b (tn : Nat) (tb : Nat → Nat) (i : Nat) : -1 ≤ vbI tn tb i ∧ vbI tn tb i ≤ 99 := by
  have h := (ct_b tn tb i).2
  unfold vbI; split <;> omega
def ftI (u z : Int) : Prop := if u = 6 then z ≤ 20 else if u = 8 then 0 < z else z ≤ 9

abbrev rm_X1_demand : Room := ({ frames := 0, cells := 0, slots := 0, locals := 0 } : Room)
set_option maxHeartbeats 4000000 in
set_option maxRecDepth 100000 in
theorem c_X1_demand {E : XX} (hE : XS E) (l : Launch) {Γ : GG} {ad : Nat → Nat} {ed : Nat} {f g : Nat → Nat → Int32} {tl : va_W} {P : Prop} {fk fp k a0 : Int} (hfk : 0 ≤ fk ∧ fk ≤ 3) (h0 : f 3 0 = iI fk) (h1 : f 3 1 = iI fp) (h6 : f 3 6 = iI a0) : Con E l yX1_demand cX1_demand 3 none rm_X1_demand Γ (wC Γ ad ed f g tl) [.ref (ad 3), .int (bI (P)), .int (iI (k))] (fun v w2 => v = none ∧ ∃ f1, w2 = wC Γ ad ed f1 g tl ∧ f1 3 0 = iI (dmF P fk k) ∧ f1 3 1 = iI (dmP P fk fp a0) ∧ (∀ o j, ¬ (o = 3 ∧ j < 2) → f1 o j = f o j)) := by
  refine Con_mk (by decide) (Nat.le_of_ble_eq_true rfl) ?_
  intro p e s₀ m args below meth c A Fx hr hlk hnm X ls hl
  have hl : lv_has ls 3 [(0, .ref (ad 3)), (1, .int (bI (P))), (2, .int (iI (k)))] := hl
  refine lv_iload_n Fx.1 Fx.2.1 dX1_demand_0 rfl (lv_at hl 1 rfl) ?_
  refine k_bif_ne (tgt := 24) Fx dX1_demand_1 (by decide) (fun c_1 => ?_) (fun c_1 => ?_)
  · exact r_vret Fx hr hlk X (by decide) dX1_demand_24 (⟨rfl, _, rfl, h0.trans (congrArg iI (dm_t (fp := fp) (a := a0) c_1).1.symm), h1.trans (congrArg iI (dm_t (k := k) c_1).2.symm), fun _ _ _ => rfl⟩)
  · refine lv_aload_n Fx.1 Fx.2.1 dX1_demand_4 rfl (lv_at hl 0 rfl) ?_
    refine gC_X1_9_3 (x := (iI (fk))) Fx X (h0) dX1_demand_5 ?_
    refine k_if_ne (a := fk) (tgt := 24) Fx dX1_demand_8 (by decide) (by omega) (fun c_8 => ?_) (fun c_8 => ?_)
    · exact r_vret Fx hr hlk X (by decide) dX1_demand_24 (⟨rfl, _, rfl, h0.trans (congrArg iI (dm_n (fp := fp) (a := a0) c_8).1.symm), h1.trans (congrArg iI (dm_n (k := k) c_8).2.symm), fun _ _ _ => rfl⟩)
    · refine lv_aload_n Fx.1 Fx.2.1 dX1_demand_11 rfl (lv_at hl 0 rfl) ?_
      refine lv_iload_n Fx.1 Fx.2.1 dX1_demand_12 rfl (lv_at hl 2 rfl) ?_
      refine pC_X1_9_3 Fx X dX1_demand_13 (fun H locs X => ?_)
      refine lv_aload_n Fx.1 Fx.2.1 dX1_demand_16 rfl (lv_at hl 0 rfl) ?_
      refine lv_aload_n Fx.1 Fx.2.1 dX1_demand_17 rfl (lv_at hl 0 rfl) ?_
      refine gC_X1_27_3 (x := (iI (a0))) Fx X (h6) dX1_demand_18 ?_
      refine pC_X1_15_3 Fx X dX1_demand_21 (fun H locs X => ?_)
      exact r_vret Fx hr hlk X (by decide) dX1_demand_24 (⟨rfl, _, rfl, congrArg iI (dm_f (fp := fp) (a := a0) c_1 c_8).1.symm, congrArg iI (dm_f (k := k) c_1 c_8).2.symm, fun o j h => (frF (by omega)).trans (frF (by omega))⟩)

abbrev rm_X1_kindHere : Room := ({ frames := 1, cells := 0, slots := 0, locals := 22 } : Room)
set_option maxHeartbeats 4000000 in
set_option maxRecDepth 100000 in
theorem c_X1_kindHere {E : XX} (hE : XS E) (l : Launch) {Γ : GG} {κ : KK} (hN : EN E κ)  {ad : Nat → Nat} {ed : Nat} {f g : Nat → Nat → Int32} {tl : va_W} {tn : Nat} {tb : Nat → Nat} (hT : TapC tn tb f g) (hTB : TapB tn tb) {i j : Nat} {fk fp : Int} (hi : i ≤ tn) (hfb : 0 ≤ fk ∧ fk ≤ 3) (h0 : f 3 0 = iI fk) (h1 : f 3 1 = iI fp) (h2 : f 3 2 = iI (j : Nat)) (hK : TokC tn tb i f) : Con E l yX1_kindHere cX1_kindHere 1 (some .int) rm_X1_kindHere Γ (wC Γ ad ed f g tl) [.ref (ad 3)] (fun v w2 => v = some (.int (iI (ctV tn tb i))) ∧ ∃ f1, w2 = wC Γ ad ed f1 g tl ∧ f1 3 0 = iI (dmF (ctT tn tb i = 1 ∧ ctV tn tb i < 6) fk 1) ∧ f1 3 1 = iI (dmP (ctT tn tb i = 1 ∧ ctV tn tb i < 6) fk fp ((tkA tn tb i : Nat) : Int)) ∧ (∀ o j, ¬ (o = 3 ∧ j < 2) → f1 o j = f o j)) := by
  refine Con_mk (by decide) (Nat.le_of_ble_eq_true rfl) ?_
  intro p e s₀ m args below meth c A Fx hr hlk hnm X ls hl
  have hl : lv_has ls 1 [(0, .ref (ad 3))] := hl
  have hFx : FrR f f := fun _ _ _ => rfl
  have hcb := ct_b tn tb i
  refine lv_aload_n Fx.1 Fx.2.1 dX1_kindHere_0 rfl (lv_at hl 0 rfl) ?_
  have jn_23 : ∀ (H : Heap) (locs : List Loc) (ls : Array Slot), Wd E Γ A s₀ H locs (wC Γ ad ed f g tl) → lv_has ls 1 [(0, .ref (ad 3))] → W p l e rm_X1_kindHere s₀ m args below meth c H locs (0) (0) (RQ below args s₀ Γ A (fun v w2 => v = some (.int (iI (ctV tn tb i))) ∧ ∃ f1, w2 = wC Γ ad ed f1 g tl ∧ f1 3 0 = iI (dmF (ctT tn tb i = 1 ∧ ctV tn tb i < 6) fk 1) ∧ f1 3 1 = iI (dmP (ctT tn tb i = 1 ∧ ctV tn tb i < 6) fk fp ((tkA tn tb i : Nat) : Int)) ∧ (∀ o j, ¬ (o = 3 ∧ j < 2) → f1 o j = f o j)) rm_X1_kindHere) (F0 m 23 ls [.int (bI (ctT tn tb i = 1 ∧ ctV tn tb i < 6)), .ref (ad 3)]) := by
    intro H locs ls X hl
    refine k_iconst Fx dX1_kindHere_23 ?_
    refine r_callV (As := [.int (bI (ctT tn tb i = 1 ∧ ctV tn tb i < 6)), .int (iI (1))]) (rest := []) hE Fx X (c_X1_demand hE l (P := ctT tn tb i = 1 ∧ ctV tn tb i < 6) (fk := fk) (fp := fp) (k := 1) (a0 := ((tkA tn tb i : Nat) : Int)) hfb (by exact h0) (by exact h1) (by exact hK.2.2.1)) cV_X1_49 (recC_3 X) rfl rfl (Nat.le_of_ble_eq_true rfl) (by decide) hl.1 dX1_kindHere_24 (fun v9 w9 H locs hq X => ?_)
    obtain ⟨rfl, f_1, rfl, h0, h1, hFd⟩ := hq
    have hfb := dm_b (P := ctT tn tb i = 1 ∧ ctV tn tb i < 6) hfb (show (1 : Int) ≤ 1 ∧ (1 : Int) ≤ 3 by omega)
    have hK := TokC_d hFd hK
    have hT := TapC_d hFd hT
    have h2 : f_1 3 2 = _ := (hFd 3 2 (by omega)).trans h2
    have hFx : FrR f_1 f := fun o j h => (hFd o j (by omega)).trans (hFx o j h)
    refine lv_aload_n Fx.1 Fx.2.1 dX1_kindHere_27 rfl (lv_at hl 0 rfl) ?_
    refine gC_X1_30_3 (x := (iI (ctV tn tb i))) Fx X (hK.2.2.2) dX1_kindHere_28 ?_
    exact r_iret Fx hr hlk X (by decide) dX1_kindHere_31 (⟨rfl, _, rfl, h0, h1, hFd⟩)
  refine lv_aload_n Fx.1 Fx.2.1 dX1_kindHere_1 rfl (lv_at hl 0 rfl) ?_
  refine gC_X1_24_3 (x := (iI (ctT tn tb i))) Fx X (hK.2.1) dX1_kindHere_2 ?_
  refine k_iconst Fx dX1_kindHere_5 ?_
  refine k_icmp_ne (a := ctT tn tb i) (b := 1) (tgt := 22) Fx dX1_kindHere_6 (by decide) (by omega) (by omega) (fun c_6 => ?_) (fun c_6 => ?_)
  · refine k_iconst Fx dX1_kindHere_22 ?_
    refine k_cg (show (iI (0)) = (bI (ctT tn tb i = 1 ∧ ctV tn tb i < 6)) from bI_0 (by omega)) ?_
    exact jn_23 _ _ _ X hl
  · refine lv_aload_n Fx.1 Fx.2.1 dX1_kindHere_9 rfl (lv_at hl 0 rfl) ?_
    refine gC_X1_30_3 (x := (iI (ctV tn tb i))) Fx X (hK.2.2.2) dX1_kindHere_10 ?_
    refine k_bipush Fx dX1_kindHere_13 (by decide) ?_
    refine k_icmp_ge (a := ctV tn tb i) (b := 6) (tgt := 22) Fx dX1_kindHere_15 (by decide) (by omega) (by omega) (fun c_15 => ?_) (fun c_15 => ?_)
    · refine k_iconst Fx dX1_kindHere_22 ?_
      refine k_cg (show (iI (0)) = (bI (ctT tn tb i = 1 ∧ ctV tn tb i < 6)) from bI_0 (by omega)) ?_
      exact jn_23 _ _ _ X hl
    · refine k_iconst Fx dX1_kindHere_18 ?_
      refine lv_goto (tgt := 23) Fx.1 Fx.2.1 dX1_kindHere_19 (by decide) ?_
      refine k_cg (show (iI (1)) = (bI (ctT tn tb i = 1 ∧ ctV tn tb i < 6)) from bI_1 (by omega)) ?_
      exact jn_23 _ _ _ X hl

abbrev rm_X1_fits : Room := ({ frames := 0, cells := 0, slots := 0, locals := 0 } : Room)
set_option maxHeartbeats 4000000 in
set_option maxRecDepth 100000 in
theorem c_X1_fits {E : XX} (hE : XS E) (l : Launch) {Γ : GG} {w : va_W} {u z : Int} (hu : -2147483648 ≤ u ∧ u < 2147483648) (hz : -2147483648 ≤ z ∧ z < 2147483648) : Con E l yX1_fits cX1_fits 2 (some .boolean) rm_X1_fits Γ w [.int (iI (u)), .int (iI (z))] (Qi (bI (ftI u z)) w) := by
  refine Con_mk (by decide) (Nat.le_of_ble_eq_true rfl) ?_
  intro p e s₀ m args below meth c A Fx hr hlk hnm X ls hl
  have hl : lv_has ls 2 [(0, .int (iI (u))), (1, .int (iI (z)))] := hl
  refine lv_iload_n Fx.1 Fx.2.1 dX1_fits_0 rfl (lv_at hl 0 rfl) ?_
  by_cases c_1_6 : u = 6
  · refine lv_lookup (off := 27) (tgt := 28) Fx.1 Fx.2.1 dX1_fits_1 (by decide) (by rw [iI_toInt (by omega), c_1_6]; rfl) (by decide) ?_
    refine lv_iload_n Fx.1 Fx.2.1 dX1_fits_28 rfl (lv_at hl 1 rfl) ?_
    refine k_bipush Fx dX1_fits_29 (by decide) ?_
    refine k_icmp_gt (a := z) (b := 20) (tgt := 38) Fx dX1_fits_31 (by decide) (by omega) (by omega) (fun c_31 => ?_) (fun c_31 => ?_)
    · refine k_iconst Fx dX1_fits_38 ?_
      exact r_zret Fx hr hlk X (by decide) dX1_fits_39 rfl (Qi_mk (bI_0 (by unfold ftI; rw [if_pos c_1_6]; omega)))
    · refine k_iconst Fx dX1_fits_34 ?_
      refine lv_goto (tgt := 39) Fx.1 Fx.2.1 dX1_fits_35 (by decide) ?_
      exact r_zret Fx hr hlk X (by decide) dX1_fits_39 rfl (Qi_mk (bI_1 (by unfold ftI; rw [if_pos c_1_6]; omega)))
  by_cases c_1_8 : u = 8
  · refine lv_lookup (off := 39) (tgt := 40) Fx.1 Fx.2.1 dX1_fits_1 (by decide) (by rw [iI_toInt (by omega), c_1_8]; rfl) (by decide) ?_
    refine lv_iload_n Fx.1 Fx.2.1 dX1_fits_40 rfl (lv_at hl 1 rfl) ?_
    refine k_if_le (a := z) (tgt := 48) Fx dX1_fits_41 (by decide) (by omega) (fun c_41 => ?_) (fun c_41 => ?_)
    · refine k_iconst Fx dX1_fits_48 ?_
      exact r_zret Fx hr hlk X (by decide) dX1_fits_49 rfl (Qi_mk (bI_0 (by unfold ftI; rw [if_neg c_1_6, if_pos c_1_8]; omega)))
    · refine k_iconst Fx dX1_fits_44 ?_
      refine lv_goto (tgt := 49) Fx.1 Fx.2.1 dX1_fits_45 (by decide) ?_
      exact r_zret Fx hr hlk X (by decide) dX1_fits_49 rfl (Qi_mk (bI_1 (by unfold ftI; rw [if_neg c_1_6, if_pos c_1_8]; omega)))
  refine lv_lookup (off := 49) (tgt := 50) Fx.1 Fx.2.1 dX1_fits_1 (by decide) (by rw [iI_toInt (by omega)]; simp [Op.lookupswitch.offset, Ne.symm c_1_6, c_1_6, Ne.symm c_1_8, c_1_8]) (by decide) ?_
  refine lv_iload_n Fx.1 Fx.2.1 dX1_fits_50 rfl (lv_at hl 1 rfl) ?_
  refine k_bipush Fx dX1_fits_51 (by decide) ?_
  refine k_icmp_gt (a := z) (b := 9) (tgt := 60) Fx dX1_fits_53 (by decide) (by omega) (by omega) (fun c_53 => ?_) (fun c_53 => ?_)
  · refine k_iconst Fx dX1_fits_60 ?_
    exact r_zret Fx hr hlk X (by decide) dX1_fits_61 rfl (Qi_mk (bI_0 (by unfold ftI; rw [if_neg c_1_6, if_neg c_1_8]; omega)))
  · refine k_iconst Fx dX1_fits_56 ?_
    refine lv_goto (tgt := 61) Fx.1 Fx.2.1 dX1_fits_57 (by decide) ?_
    exact r_zret Fx hr hlk X (by decide) dX1_fits_61 rfl (Qi_mk (bI_1 (by unfold ftI; rw [if_neg c_1_6, if_neg c_1_8]; omega)))

abbrev rm_X1_numberHere : Room := ({ frames := 1, cells := 0, slots := 0, locals := 22 } : Room)
set_option maxHeartbeats 4000000 in
set_option maxRecDepth 100000 in
theorem c_X1_numberHere {E : XX} (hE : XS E) (l : Launch) {Γ : GG} {κ : KK} (hN : EN E κ)  {ad : Nat → Nat} {ed : Nat} {f g : Nat → Nat → Int32} {tl : va_W} {tn : Nat} {tb : Nat → Nat} (hT : TapC tn tb f g) (hTB : TapB tn tb) {i j : Nat} {fk fp : Int} (hi : i ≤ tn) (hfb : 0 ≤ fk ∧ fk ≤ 3) (h0 : f 3 0 = iI fk) (h1 : f 3 1 = iI fp) (h2 : f 3 2 = iI (j : Nat)) (hK : TokC tn tb i f) {u : Int} (hu : -1 ≤ u ∧ u ≤ 99) : Con E l yX1_numberHere cX1_numberHere 2 (some .int) rm_X1_numberHere Γ (wC Γ ad ed f g tl) [.ref (ad 3), .int (iI (u))] (fun v w2 => v = some (.int (iI (ctV tn tb i))) ∧ ∃ f1, w2 = wC Γ ad ed f1 g tl ∧ f1 3 0 = iI (dmF (ftI u (ctV tn tb i)) (dmF (ctT tn tb i = 2) fk 1) 2) ∧ f1 3 1 = iI (dmP (ftI u (ctV tn tb i)) (dmF (ctT tn tb i = 2) fk 1) (dmP (ctT tn tb i = 2) fk fp ((tkA tn tb i : Nat) : Int)) ((tkA tn tb i : Nat) : Int)) ∧ (∀ o j, ¬ (o = 3 ∧ j < 2) → f1 o j = f o j)) := by
  refine Con_mk (by decide) (Nat.le_of_ble_eq_true rfl) ?_
  intro p e s₀ m args below meth c A Fx hr hlk hnm X ls hl
  have hl : lv_has ls 2 [(0, .ref (ad 3)), (1, .int (iI (u)))] := hl
  have hFx : FrR f f := fun _ _ _ => rfl
  have hcb := ct_b tn tb i
  refine lv_aload_n Fx.1 Fx.2.1 dX1_numberHere_0 rfl (lv_at hl 0 rfl) ?_
  have jn_14 : ∀ (H : Heap) (locs : List Loc) (ls : Array Slot), Wd E Γ A s₀ H locs (wC Γ ad ed f g tl) → lv_has ls 2 [(0, .ref (ad 3)), (1, .int (iI (u)))] → W p l e rm_X1_numberHere s₀ m args below meth c H locs (0) (0) (RQ below args s₀ Γ A (fun v w2 => v = some (.int (iI (ctV tn tb i))) ∧ ∃ f1, w2 = wC Γ ad ed f1 g tl ∧ f1 3 0 = iI (dmF (ftI u (ctV tn tb i)) (dmF (ctT tn tb i = 2) fk 1) 2) ∧ f1 3 1 = iI (dmP (ftI u (ctV tn tb i)) (dmF (ctT tn tb i = 2) fk 1) (dmP (ctT tn tb i = 2) fk fp ((tkA tn tb i : Nat) : Int)) ((tkA tn tb i : Nat) : Int)) ∧ (∀ o j, ¬ (o = 3 ∧ j < 2) → f1 o j = f o j)) rm_X1_numberHere) (F0 m 14 ls [.int (bI (ctT tn tb i = 2)), .ref (ad 3)]) := by
    intro H locs ls X hl
    refine k_iconst Fx dX1_numberHere_14 ?_
    refine r_callV (As := [.int (bI (ctT tn tb i = 2)), .int (iI (1))]) (rest := []) hE Fx X (c_X1_demand hE l (P := ctT tn tb i = 2) (fk := fk) (fp := fp) (k := 1) (a0 := ((tkA tn tb i : Nat) : Int)) hfb (by exact h0) (by exact h1) (by exact hK.2.2.1)) cV_X1_49 (recC_3 X) rfl rfl (Nat.le_of_ble_eq_true rfl) (by decide) hl.1 dX1_numberHere_15 (fun v9 w9 H locs hq X => ?_)
    obtain ⟨rfl, f_1, rfl, h0, h1, hFd⟩ := hq
    have hfb := dm_b (P := ctT tn tb i = 2) hfb (show (1 : Int) ≤ 1 ∧ (1 : Int) ≤ 3 by omega)
    have hK := TokC_d hFd hK
    have hT := TapC_d hFd hT
    have h2 : f_1 3 2 = _ := (hFd 3 2 (by omega)).trans h2
    have hFx : FrR f_1 f := fun o j h => (hFd o j (by omega)).trans (hFx o j h)
    have hFd1 := hFd
    refine lv_aload_n Fx.1 Fx.2.1 dX1_numberHere_18 rfl (lv_at hl 0 rfl) ?_
    refine lv_iload_n Fx.1 Fx.2.1 dX1_numberHere_19 rfl (lv_at hl 1 rfl) ?_
    refine lv_aload_n Fx.1 Fx.2.1 dX1_numberHere_20 rfl (lv_at hl 0 rfl) ?_
    refine gC_X1_30_3 (x := (iI (ctV tn tb i))) Fx X (hK.2.2.2) dX1_numberHere_21 ?_
    refine r_callSi (As := [.int (iI (u)), .int (iI (ctV tn tb i))]) (rest := [.ref (ad 3)]) hE Fx X (c_X1_fits hE l (u := u) (z := ctV tn tb i) (by omega) (by omega)) cS_X1_65 rfl rfl (Nat.le_of_ble_eq_true rfl) (by decide) hl.1 dX1_numberHere_24 (fun H locs X => ?_)
    refine k_iconst Fx dX1_numberHere_27 ?_
    refine r_callV (As := [.int (bI (ftI (u) (ctV tn tb i))), .int (iI (2))]) (rest := []) hE Fx X (c_X1_demand hE l (P := ftI (u) (ctV tn tb i)) (fk := dmF (ctT tn tb i = 2) (fk) 1) (fp := dmP (ctT tn tb i = 2) (fk) (fp) ((tkA tn tb i : Nat) : Int)) (k := 2) (a0 := ((tkA tn tb i : Nat) : Int)) hfb (by exact h0) (by exact h1) (by exact hK.2.2.1)) cV_X1_49 (recC_3 X) rfl rfl (Nat.le_of_ble_eq_true rfl) (by decide) hl.1 dX1_numberHere_28 (fun v9 w9 H locs hq X => ?_)
    obtain ⟨rfl, f_2, rfl, h0, h1, hFd⟩ := hq
    have hfb := dm_b (P := ftI (u) (ctV tn tb i)) hfb (show (1 : Int) ≤ 2 ∧ (2 : Int) ≤ 3 by omega)
    have hK := TokC_d hFd hK
    have hT := TapC_d hFd hT
    have h2 : f_2 3 2 = _ := (hFd 3 2 (by omega)).trans h2
    have hFx : FrR f_2 f := fun o j h => (hFd o j (by omega)).trans (hFx o j h)
    refine lv_aload_n Fx.1 Fx.2.1 dX1_numberHere_31 rfl (lv_at hl 0 rfl) ?_
    refine gC_X1_30_3 (x := (iI (ctV tn tb i))) Fx X (hK.2.2.2) dX1_numberHere_32 ?_
    exact r_iret Fx hr hlk X (by decide) dX1_numberHere_35 (⟨rfl, _, rfl, h0, h1, fun o j h => (hFd o j h).trans (hFd1 o j h)⟩)
  refine lv_aload_n Fx.1 Fx.2.1 dX1_numberHere_1 rfl (lv_at hl 0 rfl) ?_
  refine gC_X1_24_3 (x := (iI (ctT tn tb i))) Fx X (hK.2.1) dX1_numberHere_2 ?_
  refine k_iconst Fx dX1_numberHere_5 ?_
  refine k_icmp_ne (a := ctT tn tb i) (b := 2) (tgt := 13) Fx dX1_numberHere_6 (by decide) (by omega) (by omega) (fun c_6 => ?_) (fun c_6 => ?_)
  · refine k_iconst Fx dX1_numberHere_13 ?_
    refine k_cg (show (iI (0)) = (bI (ctT tn tb i = 2)) from bI_0 (by omega)) ?_
    exact jn_14 _ _ _ X hl
  · refine k_iconst Fx dX1_numberHere_9 ?_
    refine lv_goto (tgt := 14) Fx.1 Fx.2.1 dX1_numberHere_10 (by decide) ?_
    refine k_cg (show (iI (1)) = (bI (ctT tn tb i = 2)) from bI_1 (by omega)) ?_
    exact jn_14 _ _ _ X hl

theorem en_6 {x : LWT} {u k v : Int} {f g : Nat → Nat → Int32} (h : u = 6) (hk : 0 ≤ k) (hv : 0 ≤ v) (hL : LawD x f g) : LawD (lnA x (u - 3) k v) f (updA g 30 (upd (g 30) k.toNat (iI v))) := by
  rw [lnA_3 (show u - 3 = 3 by omega)]
  refine ⟨hL.1, hL.2.1, hL.2.2.1, fun q hq => ?_, hL.2.2.2.2⟩
  rw [updA_s]
  by_cases e : q = k.toNat
  · rw [e, upd_s]; show _ = iI ((if _ then _ else _ : Nat) : Int); rw [if_pos rfl, Int.toNat_of_nonneg hv]
  · rw [upd_n e]; show _ = iI ((if _ then _ else _ : Nat) : Int); rw [if_neg e]; exact hL.2.2.2.1 q hq
theorem en_7 {x : LWT} {u k v : Int} {f g : Nat → Nat → Int32} (h : u = 7) (hv : 0 ≤ v) (hL : LawD x f g) : LawD (lnA x (u - 3) k v) (updA f 10 (upd (f 10) 2 (iI v))) g := by
  rw [lnA_4 (show u - 3 = 4 by omega)]
  exact ⟨by show iI v = iI ((v.toNat : Nat) : Int); rw [Int.toNat_of_nonneg hv], hL.2⟩
theorem en_8 {x : LWT} {u k v : Int} {f g : Nat → Nat → Int32} (h : u = 8) (hv : 0 ≤ v) (hL : LawD x f g) : LawD (lnA x (u - 3) k v) (updA f 10 (upd (f 10) 3 (iI v))) g := by
  rw [lnA_5 (show u - 3 = 5 by omega)]
  exact ⟨hL.1, by show iI v = iI ((v.toNat : Nat) : Int); rw [Int.toNat_of_nonneg hv], hL.2.2⟩
theorem en_9 {x : LWT} {u k v : Int} {f g : Nat → Nat → Int32} (h : u = 9) (hv : 0 ≤ v) (hL : LawD x f g) : LawD (lnA x (u - 3) k v) (updA f 10 (upd (f 10) 4 (iI v))) g := by
  rw [lnA_6 (show u - 3 = 6 by omega)]
  exact ⟨hL.1, hL.2.1, by show iI v = iI ((v.toNat : Nat) : Int); rw [Int.toNat_of_nonneg hv], hL.2.2.2⟩
theorem en_10 {x : LWT} {u k v : Int} {f g : Nat → Nat → Int32} (h : u = 10) (hL : LawD x f g) : LawD (lnA x (u - 3) k v) f (updA g 31 (upd (g 31) k.toNat (vp_nar .boolean (iI 1)))) := by
  rw [lnA_7 (show u - 3 = 7 by omega)]
  refine ⟨hL.1, hL.2.1, hL.2.2.1, hL.2.2.2.1, fun q hq => ?_⟩
  rw [updA_s]
  by_cases e : q = k.toNat
  · rw [e, upd_s]; exact bI_1 (P := _ ∨ _) (Or.inl rfl)
  · rw [upd_n e, hL.2.2.2.2 q hq]; exact bI_c ⟨fun z => Or.inr z, fun z => z.elim (fun y => absurd y e) (fun y => y)⟩

abbrev rm_X1_enact : Room := ({ frames := 0, cells := 0, slots := 0, locals := 0 } : Room)
set_option maxHeartbeats 4000000 in
set_option maxRecDepth 100000 in
theorem c_X1_enact {E : XX} (hE : XS E) (l : Launch) {Γ : GG} {ad : Nat → Nat} {ed : Nat} {f g : Nat → Nat → Int32} {tl : va_W} {x : LWT} (hL : LawD x f g) {u k v : Int} (hu : 6 ≤ u ∧ u ≤ 10) (hk0 : -1 ≤ k ∧ k ≤ 99) (hk : (u = 6 ∨ u = 10) → 0 ≤ k ∧ k ≤ 5) (hv : u ≠ 10 → 0 ≤ v ∧ v ≤ 99) : Con E l yX1_enact cX1_enact 5 none rm_X1_enact Γ (wC Γ ad ed f g tl) [.ref (ad 10), .int (iI (u)), .int (iI (k)), .int (iI (v))] (fun r w2 => r = none ∧ ∃ f1 g1, w2 = wC Γ ad ed f1 g1 tl ∧ LawD (lnA x (u - 3) k v) f1 g1 ∧ (∀ o j, o ≠ 10 → f1 o j = f o j) ∧ (∀ j, j ≠ 30 → j ≠ 31 → g1 j = g j)) := by
  refine Con_mk (by decide) (Nat.le_of_ble_eq_true rfl) ?_
  intro p e s₀ m args below meth c A Fx hr hlk hnm X ls hl
  have hl : lv_has ls 5 [(0, .ref (ad 10)), (1, .int (iI (u))), (2, .int (iI (k))), (3, .int (iI (v)))] := hl
  refine lv_iload_n Fx.1 Fx.2.1 dX1_enact_0 rfl (lv_at hl 2 rfl) ?_
  refine k_if_lt (a := k) (tgt := 14) Fx dX1_enact_1 (by decide) (by omega) (fun c_1 => ?_) (fun c_1 => ?_)
  · refine k_iconst Fx dX1_enact_14 ?_
    refine lv_istore (lv' := [(4, .int (iI (0))), (0, .ref (ad 10)), (1, .int (iI (u))), (2, .int (iI (k))), (3, .int (iI (v)))]) Fx.1 Fx.2.1 dX1_enact_15 hl (by decide) rfl (fun ls hl => ?_)
    refine lv_iload_n Fx.1 Fx.2.1 dX1_enact_17 rfl (lv_at hl 2 rfl) ?_
    refine k_bipush Fx dX1_enact_18 (by decide) ?_
    refine k_icmp_ne (a := u) (b := 6) (tgt := 38) Fx dX1_enact_20 (by decide) (by omega) (by omega) (fun c_20 => ?_) (fun c_20 => ?_)
    · refine lv_iload_n Fx.1 Fx.2.1 dX1_enact_38 rfl (lv_at hl 2 rfl) ?_
      refine k_bipush Fx dX1_enact_39 (by decide) ?_
      refine k_icmp_ne (a := u) (b := 10) (tgt := 59) Fx dX1_enact_41 (by decide) (by omega) (by omega) (fun c_41 => ?_) (fun c_41 => ?_)
      · refine lv_iload_n Fx.1 Fx.2.1 dX1_enact_59 rfl (lv_at hl 2 rfl) ?_
        refine k_bipush Fx dX1_enact_60 (by decide) ?_
        refine k_icmp_ne (a := u) (b := 7) (tgt := 73) Fx dX1_enact_62 (by decide) (by omega) (by omega) (fun c_62 => ?_) (fun c_62 => ?_)
        · refine lv_iload_n Fx.1 Fx.2.1 dX1_enact_73 rfl (lv_at hl 2 rfl) ?_
          refine k_bipush Fx dX1_enact_74 (by decide) ?_
          refine k_icmp_ne (a := u) (b := 8) (tgt := 87) Fx dX1_enact_76 (by decide) (by omega) (by omega) (fun c_76 => ?_) (fun c_76 => ?_)
          · refine lv_iload_n Fx.1 Fx.2.1 dX1_enact_87 rfl (lv_at hl 2 rfl) ?_
            refine k_bipush Fx dX1_enact_88 (by decide) ?_
            refine k_icmp_ne (a := u) (b := 9) (tgt := 98) Fx dX1_enact_90 (by decide) (by omega) (by omega) (fun c_90 => ?_) (fun c_90 => ?_)
            · exact absurd hu (by omega)
            · refine lv_aload_n Fx.1 Fx.2.1 dX1_enact_93 rfl (lv_at hl 1 rfl) ?_
              refine lv_iload_n Fx.1 Fx.2.1 dX1_enact_94 rfl (lv_at hl 4 rfl) ?_
              refine pC_X1_83_10 Fx X dX1_enact_95 (fun H locs X => ?_)
              exact r_vret Fx hr hlk X (by decide) dX1_enact_98 (⟨rfl, _, _, rfl, en_9 (by omega) (by omega) hL, fun o j h => frF (by omega), fun _ _ _ => rfl⟩)
          · refine lv_aload_n Fx.1 Fx.2.1 dX1_enact_79 rfl (lv_at hl 1 rfl) ?_
            refine lv_iload_n Fx.1 Fx.2.1 dX1_enact_80 rfl (lv_at hl 4 rfl) ?_
            refine pC_X1_80_10 Fx X dX1_enact_81 (fun H locs X => ?_)
            refine lv_goto (tgt := 98) Fx.1 Fx.2.1 dX1_enact_84 (by decide) ?_
            exact r_vret Fx hr hlk X (by decide) dX1_enact_98 (⟨rfl, _, _, rfl, en_8 (by omega) (by omega) hL, fun o j h => frF (by omega), fun _ _ _ => rfl⟩)
        · refine lv_aload_n Fx.1 Fx.2.1 dX1_enact_65 rfl (lv_at hl 1 rfl) ?_
          refine lv_iload_n Fx.1 Fx.2.1 dX1_enact_66 rfl (lv_at hl 4 rfl) ?_
          refine pC_X1_77_10 Fx X dX1_enact_67 (fun H locs X => ?_)
          refine lv_goto (tgt := 98) Fx.1 Fx.2.1 dX1_enact_70 (by decide) ?_
          exact r_vret Fx hr hlk X (by decide) dX1_enact_98 (⟨rfl, _, _, rfl, en_7 (by omega) (by omega) hL, fun o j h => frF (by omega), fun _ _ _ => rfl⟩)
      · exact absurd (hk (Or.inr c_41)) (by omega)
    · exact absurd (hk (Or.inl c_20)) (by omega)
  · refine lv_iload_n Fx.1 Fx.2.1 dX1_enact_4 rfl (lv_at hl 2 rfl) ?_
    refine k_bipush Fx dX1_enact_5 (by decide) ?_
    refine k_icmp_ge (a := k) (b := 6) (tgt := 14) Fx dX1_enact_7 (by decide) (by omega) (by omega) (fun c_7 => ?_) (fun c_7 => ?_)
    · refine k_iconst Fx dX1_enact_14 ?_
      refine lv_istore (lv' := [(4, .int (iI (0))), (0, .ref (ad 10)), (1, .int (iI (u))), (2, .int (iI (k))), (3, .int (iI (v)))]) Fx.1 Fx.2.1 dX1_enact_15 hl (by decide) rfl (fun ls hl => ?_)
      refine lv_iload_n Fx.1 Fx.2.1 dX1_enact_17 rfl (lv_at hl 2 rfl) ?_
      refine k_bipush Fx dX1_enact_18 (by decide) ?_
      refine k_icmp_ne (a := u) (b := 6) (tgt := 38) Fx dX1_enact_20 (by decide) (by omega) (by omega) (fun c_20 => ?_) (fun c_20 => ?_)
      · refine lv_iload_n Fx.1 Fx.2.1 dX1_enact_38 rfl (lv_at hl 2 rfl) ?_
        refine k_bipush Fx dX1_enact_39 (by decide) ?_
        refine k_icmp_ne (a := u) (b := 10) (tgt := 59) Fx dX1_enact_41 (by decide) (by omega) (by omega) (fun c_41 => ?_) (fun c_41 => ?_)
        · refine lv_iload_n Fx.1 Fx.2.1 dX1_enact_59 rfl (lv_at hl 2 rfl) ?_
          refine k_bipush Fx dX1_enact_60 (by decide) ?_
          refine k_icmp_ne (a := u) (b := 7) (tgt := 73) Fx dX1_enact_62 (by decide) (by omega) (by omega) (fun c_62 => ?_) (fun c_62 => ?_)
          · refine lv_iload_n Fx.1 Fx.2.1 dX1_enact_73 rfl (lv_at hl 2 rfl) ?_
            refine k_bipush Fx dX1_enact_74 (by decide) ?_
            refine k_icmp_ne (a := u) (b := 8) (tgt := 87) Fx dX1_enact_76 (by decide) (by omega) (by omega) (fun c_76 => ?_) (fun c_76 => ?_)
            · refine lv_iload_n Fx.1 Fx.2.1 dX1_enact_87 rfl (lv_at hl 2 rfl) ?_
              refine k_bipush Fx dX1_enact_88 (by decide) ?_
              refine k_icmp_ne (a := u) (b := 9) (tgt := 98) Fx dX1_enact_90 (by decide) (by omega) (by omega) (fun c_90 => ?_) (fun c_90 => ?_)
              · exact absurd hu (by omega)
              · refine lv_aload_n Fx.1 Fx.2.1 dX1_enact_93 rfl (lv_at hl 1 rfl) ?_
                refine lv_iload_n Fx.1 Fx.2.1 dX1_enact_94 rfl (lv_at hl 4 rfl) ?_
                refine pC_X1_83_10 Fx X dX1_enact_95 (fun H locs X => ?_)
                exact r_vret Fx hr hlk X (by decide) dX1_enact_98 (⟨rfl, _, _, rfl, en_9 (by omega) (by omega) hL, fun o j h => frF (by omega), fun _ _ _ => rfl⟩)
            · refine lv_aload_n Fx.1 Fx.2.1 dX1_enact_79 rfl (lv_at hl 1 rfl) ?_
              refine lv_iload_n Fx.1 Fx.2.1 dX1_enact_80 rfl (lv_at hl 4 rfl) ?_
              refine pC_X1_80_10 Fx X dX1_enact_81 (fun H locs X => ?_)
              refine lv_goto (tgt := 98) Fx.1 Fx.2.1 dX1_enact_84 (by decide) ?_
              exact r_vret Fx hr hlk X (by decide) dX1_enact_98 (⟨rfl, _, _, rfl, en_8 (by omega) (by omega) hL, fun o j h => frF (by omega), fun _ _ _ => rfl⟩)
          · refine lv_aload_n Fx.1 Fx.2.1 dX1_enact_65 rfl (lv_at hl 1 rfl) ?_
            refine lv_iload_n Fx.1 Fx.2.1 dX1_enact_66 rfl (lv_at hl 4 rfl) ?_
            refine pC_X1_77_10 Fx X dX1_enact_67 (fun H locs X => ?_)
            refine lv_goto (tgt := 98) Fx.1 Fx.2.1 dX1_enact_70 (by decide) ?_
            exact r_vret Fx hr hlk X (by decide) dX1_enact_98 (⟨rfl, _, _, rfl, en_7 (by omega) (by omega) hL, fun o j h => frF (by omega), fun _ _ _ => rfl⟩)
        · exact absurd (hk (Or.inr c_41)) (by omega)
      · exact absurd (hk (Or.inl c_20)) (by omega)
    · refine k_iconst Fx dX1_enact_10 ?_
      refine lv_goto (tgt := 15) Fx.1 Fx.2.1 dX1_enact_11 (by decide) ?_
      refine lv_istore (lv' := [(4, .int (iI (1))), (0, .ref (ad 10)), (1, .int (iI (u))), (2, .int (iI (k))), (3, .int (iI (v)))]) Fx.1 Fx.2.1 dX1_enact_15 hl (by decide) rfl (fun ls hl => ?_)
      refine lv_iload_n Fx.1 Fx.2.1 dX1_enact_17 rfl (lv_at hl 2 rfl) ?_
      refine k_bipush Fx dX1_enact_18 (by decide) ?_
      refine k_icmp_ne (a := u) (b := 6) (tgt := 38) Fx dX1_enact_20 (by decide) (by omega) (by omega) (fun c_20 => ?_) (fun c_20 => ?_)
      · refine lv_iload_n Fx.1 Fx.2.1 dX1_enact_38 rfl (lv_at hl 2 rfl) ?_
        refine k_bipush Fx dX1_enact_39 (by decide) ?_
        refine k_icmp_ne (a := u) (b := 10) (tgt := 59) Fx dX1_enact_41 (by decide) (by omega) (by omega) (fun c_41 => ?_) (fun c_41 => ?_)
        · refine lv_iload_n Fx.1 Fx.2.1 dX1_enact_59 rfl (lv_at hl 2 rfl) ?_
          refine k_bipush Fx dX1_enact_60 (by decide) ?_
          refine k_icmp_ne (a := u) (b := 7) (tgt := 73) Fx dX1_enact_62 (by decide) (by omega) (by omega) (fun c_62 => ?_) (fun c_62 => ?_)
          · refine lv_iload_n Fx.1 Fx.2.1 dX1_enact_73 rfl (lv_at hl 2 rfl) ?_
            refine k_bipush Fx dX1_enact_74 (by decide) ?_
            refine k_icmp_ne (a := u) (b := 8) (tgt := 87) Fx dX1_enact_76 (by decide) (by omega) (by omega) (fun c_76 => ?_) (fun c_76 => ?_)
            · refine lv_iload_n Fx.1 Fx.2.1 dX1_enact_87 rfl (lv_at hl 2 rfl) ?_
              refine k_bipush Fx dX1_enact_88 (by decide) ?_
              refine k_icmp_ne (a := u) (b := 9) (tgt := 98) Fx dX1_enact_90 (by decide) (by omega) (by omega) (fun c_90 => ?_) (fun c_90 => ?_)
              · exact absurd hu (by omega)
              · refine lv_aload_n Fx.1 Fx.2.1 dX1_enact_93 rfl (lv_at hl 1 rfl) ?_
                refine lv_iload_n Fx.1 Fx.2.1 dX1_enact_94 rfl (lv_at hl 4 rfl) ?_
                refine pC_X1_83_10 Fx X dX1_enact_95 (fun H locs X => ?_)
                exact r_vret Fx hr hlk X (by decide) dX1_enact_98 (⟨rfl, _, _, rfl, en_9 (by omega) (by omega) hL, fun o j h => frF (by omega), fun _ _ _ => rfl⟩)
            · refine lv_aload_n Fx.1 Fx.2.1 dX1_enact_79 rfl (lv_at hl 1 rfl) ?_
              refine lv_iload_n Fx.1 Fx.2.1 dX1_enact_80 rfl (lv_at hl 4 rfl) ?_
              refine pC_X1_80_10 Fx X dX1_enact_81 (fun H locs X => ?_)
              refine lv_goto (tgt := 98) Fx.1 Fx.2.1 dX1_enact_84 (by decide) ?_
              exact r_vret Fx hr hlk X (by decide) dX1_enact_98 (⟨rfl, _, _, rfl, en_8 (by omega) (by omega) hL, fun o j h => frF (by omega), fun _ _ _ => rfl⟩)
          · refine lv_aload_n Fx.1 Fx.2.1 dX1_enact_65 rfl (lv_at hl 1 rfl) ?_
            refine lv_iload_n Fx.1 Fx.2.1 dX1_enact_66 rfl (lv_at hl 4 rfl) ?_
            refine pC_X1_77_10 Fx X dX1_enact_67 (fun H locs X => ?_)
            refine lv_goto (tgt := 98) Fx.1 Fx.2.1 dX1_enact_70 (by decide) ?_
            exact r_vret Fx hr hlk X (by decide) dX1_enact_98 (⟨rfl, _, _, rfl, en_7 (by omega) (by omega) hL, fun o j h => frF (by omega), fun _ _ _ => rfl⟩)
        · refine lv_iload Fx.1 Fx.2.1 dX1_enact_44 (lv_at hl 0 rfl) ?_
          refine k_if_eq (a := 1) (tgt := 59) Fx dX1_enact_46 (by decide) (by omega) (fun c_46 => ?_) (fun c_46 => ?_)
          · exact absurd c_46 (by omega)
          refine lv_aload_n Fx.1 Fx.2.1 dX1_enact_49 rfl (lv_at hl 1 rfl) ?_
          refine gC_X1_73_10 Fx X dX1_enact_50 ?_
          refine lv_iload_n Fx.1 Fx.2.1 dX1_enact_53 rfl (lv_at hl 3 rfl) ?_
          refine k_iconst Fx dX1_enact_54 ?_
          refine stC_31 (z := k) (i := k.toNat) Fx X (by omega) (by omega) dX1_enact_55 (fun H locs X => ?_)
          refine lv_goto (tgt := 98) Fx.1 Fx.2.1 dX1_enact_56 (by decide) ?_
          exact r_vret Fx hr hlk X (by decide) dX1_enact_98 (⟨rfl, _, _, rfl, en_10 (by omega) hL, fun _ _ _ => rfl, fun j h1 h2 => updA_n (by omega)⟩)
      · refine lv_iload Fx.1 Fx.2.1 dX1_enact_23 (lv_at hl 0 rfl) ?_
        refine k_if_eq (a := 1) (tgt := 38) Fx dX1_enact_25 (by decide) (by omega) (fun c_25 => ?_) (fun c_25 => ?_)
        · exact absurd c_25 (by omega)
        refine lv_aload_n Fx.1 Fx.2.1 dX1_enact_28 rfl (lv_at hl 1 rfl) ?_
        refine gC_X1_69_10 Fx X dX1_enact_29 ?_
        refine lv_iload_n Fx.1 Fx.2.1 dX1_enact_32 rfl (lv_at hl 3 rfl) ?_
        refine lv_iload_n Fx.1 Fx.2.1 dX1_enact_33 rfl (lv_at hl 4 rfl) ?_
        refine stC_30 (z := k) (i := k.toNat) Fx X (by omega) (by omega) dX1_enact_34 (fun H locs X => ?_)
        refine lv_goto (tgt := 98) Fx.1 Fx.2.1 dX1_enact_35 (by decide) ?_
        exact r_vret Fx hr hlk X (by decide) dX1_enact_98 (⟨rfl, _, _, rfl, en_6 (by omega) (by omega) (by omega) hL, fun _ _ _ => rfl, fun j h1 h2 => updA_n (by omega)⟩)

