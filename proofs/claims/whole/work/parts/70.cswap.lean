/-! the same cells in another order -/
theorem Wd.perm {E : XX} {Γ : GG} {A : Nat → Prop} {s : State} {H : Heap} {locs : List Loc} {w w2 : va_W} (σ : Nat → Nat) (hσ : ∀ i j, σ i = σ j → i = j) (h : ∀ k, w2[k]? = w[σ k]?) (X : Wd E Γ A s H locs w) : Wd E Γ A s H locs w2 := by
  obtain ⟨hK, hP, hD, hS, hA, hE⟩ := X
  refine ⟨hK, fun k q hq => hP (σ k) q ((h k).symm.trans hq), ⟨fun i j p q hi hj e => hσ i j (hD.1 _ _ p q ((h i).symm.trans hi) ((h j).symm.trans hj) e), fun k q hq => hD.2 (σ k) q ((h k).symm.trans hq)⟩, hS, hA, hE⟩
def sw9 (k : Nat) : Nat := if k = 9 then 10 else if k = 10 then 9 else if k = 28 then 30 else if k = 30 then 28 else if k = 29 then 31 else if k = 31 then 29 else k
theorem sw9_i : ∀ i j, sw9 i = sw9 j → i = j := by
  intro i j h
  unfold sw9 at h
  (repeat' split at h) <;> omega
theorem sw9_n {k : Nat} (h : 32 ≤ k) : sw9 k = k := by
  unfold sw9
  rw [if_neg (by omega), if_neg (by omega), if_neg (by omega), if_neg (by omega), if_neg (by omega), if_neg (by omega)]
def swA (ad : Nat → Nat) : Nat → Nat := fun k => ad (sw9 k)
def swF (f : Nat → Nat → Int32) : Nat → Nat → Int32 := fun o => f (if o = 9 then 10 else if o = 10 then 9 else o)
def swG (g : Nat → Nat → Int32) : Nat → Nat → Int32 := fun k => g (if k = 28 then 30 else if k = 30 then 28 else if k = 29 then 31 else if k = 31 then 29 else k)
theorem swA_h (ad : Nat → Nat) {b : Nat} (h : 32 ≤ b) : (fun i => some (swA ad (b + i))) = (fun i => some (ad (b + i))) := funext fun i => by
  unfold swA; rw [sw9_n (by omega)]
theorem sw_at {Γ : GG} {ad : Nat → Nat} {ed : Nat} {f g : Nat → Nat → Int32} {tl : va_W} : ∀ k, (wC Γ (swA ad) ed (swF f) (swG g) tl)[k]? = ((wC Γ ad ed f g tl).set 0 (ad 0, .inr (10, [.ref (ad 1), .ref (ad 2), .ref (ad 3), .ref (ad 4), .ref (ad 5), .ref (ad 6), .ref (ad 7), .ref (ad 8), .ref (ad 10), .ref (ad 9), .int (f 0 10)])))[sw9 k]? := by
  intro k
  by_cases h : k < 32
  · rcases (show k = 0 ∨ k = 1 ∨ k = 2 ∨ k = 3 ∨ k = 4 ∨ k = 5 ∨ k = 6 ∨ k = 7 ∨ k = 8 ∨ k = 9 ∨ k = 10 ∨ k = 11 ∨ k = 12 ∨ k = 13 ∨ k = 14 ∨ k = 15 ∨ k = 16 ∨ k = 17 ∨ k = 18 ∨ k = 19 ∨ k = 20 ∨ k = 21 ∨ k = 22 ∨ k = 23 ∨ k = 24 ∨ k = 25 ∨ k = 26 ∨ k = 27 ∨ k = 28 ∨ k = 29 ∨ k = 30 ∨ k = 31 by omega) with e | e | e | e | e | e | e | e | e | e | e | e | e | e | e | e | e | e | e | e | e | e | e | e | e | e | e | e | e | e | e | e <;> subst e <;> first
      | rfl
      | exact congrArg (fun z => some ((ad 13, .inl (Γ.2 4, 10, .inr (.inr (.inr (.inr z))))) : Nat × va_E)) (swA_h ad (by decide))
      | exact congrArg (fun z => some ((ad 24, .inl (Γ.2 4, 2, .inr (.inr (.inr (.inr z))))) : Nat × va_E)) (swA_h ad (by decide))
  · rw [sw9_n (by omega)]
    obtain ⟨m, rfl⟩ : ∃ m, k = m + 32 := ⟨k - 32, by omega⟩
    rfl
theorem rd_F {tn : Nat} {tb : Nat → Nat} {f1 g1 : Nat → Nat → Int32} (h : (tkT tn tb (lnI tn tb (lnJ tn tb)) = 0 ∧ GdI tn tb (lnJ tn tb) f1 g1) ∨ (∃ F, BdI tn tb F f1)) : ∃ F7 : Int, f1 3 0 = iI F7 ∧ (0 ≤ F7 ∧ F7 ≤ 3) ∧ ((F7 = 0 ∧ tkT tn tb (lnI tn tb (lnJ tn tb)) = 0 ∧ GdI tn tb (lnJ tn tb) f1 g1) ∨ BdI tn tb F7 f1) := by
  rcases h with ⟨a, b⟩ | ⟨F, hF⟩
  · exact ⟨0, b.2.1, by omega, Or.inl ⟨rfl, a, b⟩⟩
  · exact ⟨F, hF.2.2.2.1, by rw [hF.1]; exact lnF_b3 _ _ _ _, Or.inr hF⟩
def RuC (tn : Nat) (tb : Nat → Nat) (Γ : GG) (ad : Nat → Nat) (ed : Nat) (f g : Nat → Nat → Int32) (tl : va_W) : PT := fun v w2 => ∃ ad1 f1 g1, w2 = wC Γ ad1 ed f1 g1 tl ∧ ad1 0 = ad 0 ∧ f1 2 1 = iI 0 ∧ (∀ o j, o ≠ 3 → o ≠ 9 → o ≠ 10 → ¬ (o = 2 ∧ j = 1) → ¬ (o = 0 ∧ j = 10) → f1 o j = f o j) ∧ (∀ j, (j < 28 ∨ 31 < j) → g1 j = g j) ∧
  ((tkT tn tb (lnI tn tb (lnJ tn tb)) = 0 ∧ v = some (.int (iI (lnJ tn tb : Nat))) ∧ f1 3 0 = iI 0 ∧ f1 3 1 = iI (-1) ∧ f1 0 10 = bI False ∧ LawC (lnL tn tb (lnJ tn tb)).1 (lnL tn tb (lnJ tn tb)).2.1 (lnL tn tb (lnJ tn tb)).2.2.1 (lnL tn tb (lnJ tn tb)).2.2.2.1 (lnL tn tb (lnJ tn tb)).2.2.2.2 f1 g1) ∨
   (¬ tkT tn tb (lnI tn tb (lnJ tn tb)) = 0 ∧ v = some (.int (iI (-1))) ∧ f1 3 0 = iI (lnF tn tb (lnJ tn tb) (lnI tn tb (lnJ tn tb))) ∧ f1 3 1 = iI ((lnP tn tb (lnJ tn tb) (lnI tn tb (lnJ tn tb)) : Nat) : Int) ∧ f1 0 10 = f 0 10 ∧ (∀ j, f1 9 j = f 9 j) ∧ g1 28 = g 28 ∧ g1 29 = g 29))

theorem swG_o {g : Nat → Nat → Int32} {k : Nat} (h : k < 28 ∨ 31 < k) : swG g k = g k := by
  unfold swG
  rw [if_neg (by omega), if_neg (by omega), if_neg (by omega), if_neg (by omega)]

abbrev rm_X9_rules : Room := ({ frames := 9, cells := 0, slots := 0, locals := 194 } : Room)
set_option maxHeartbeats 4000000 in
set_option maxRecDepth 100000 in
theorem c_X9_rules {E : XX} (hE : XS E) (l : Launch) {Γ : GG} {κ : KK} (hN : EN E κ)  {ad : Nat → Nat} {ed : Nat} {f g : Nat → Nat → Int32} {tl : va_W} {tn : Nat} {tb : Nat → Nat} (hT : TapC tn tb f g) (hTB : TapB tn tb) : Con E l yX9_rules cX9_rules 2 (some .int) rm_X9_rules Γ (wC Γ ad ed f g tl) [.ref (ad 0)] (RuC tn tb Γ ad ed f g tl) := by
  refine Con_mk (by decide) (Nat.le_of_ble_eq_true rfl) ?_
  intro p e s₀ m args below meth c A Fx hr hlk hnm X ls hl
  have hl : lv_has ls 2 [(0, .ref (ad 0))] := hl
  refine lv_aload_n Fx.1 Fx.2.1 dX9_rules_0 rfl (lv_at hl 0 rfl) ?_
  refine gC_X9_28_0 Fx X dX9_rules_1 ?_
  refine lv_aload_n Fx.1 Fx.2.1 dX9_rules_4 rfl (lv_at hl 0 rfl) ?_
  refine gC_X9_76_0 Fx X dX9_rules_5 ?_
  refine r_callV (As := [.ref (ad 10)]) (rest := []) hE Fx X (c_X1_read hE l hN (by exact hT) hTB) cV_X9_116 (recC_3 X) rfl rfl (Nat.le_of_ble_eq_true rfl) (by decide) hl.1 dX9_rules_8 (fun v9 w9 H locs hq X => ?_)
  obtain ⟨rfl, f_1, g_2, rfl, hFE, hRd⟩ := hq
  obtain ⟨F7, h0, hF7, hR7⟩ := rd_F hRd
  have hT := TapC_e hFE hT
  have hT2 := hTB.1
  refine lv_aload_n Fx.1 Fx.2.1 dX9_rules_11 rfl (lv_at hl 0 rfl) ?_
  refine gC_X9_19_0 Fx X dX9_rules_12 ?_
  refine k_iconst Fx dX9_rules_15 ?_
  refine r_callV (As := [.int (iI (0))]) (rest := []) hE Fx X (c_X7_cut hE l (tn := tn) (by exact hT.1) (by omega) (z := 0) (by omega)) cV_X9_112 (recC_2 X) rfl rfl (Nat.le_of_ble_eq_true rfl) (by decide) hl.1 dX9_rules_16 (fun v9 w9 H locs hq X => ?_)
  rcases hq with ⟨hz9, rfl, rfl⟩ | ⟨hz9, h8, h9⟩
  rotate_left
  · exact absurd (show (0 : Int) ≤ 0 ∧ (0 : Int) ≤ ((tn : Nat) : Int) by omega) hz9
  refine lv_pop Fx.1 Fx.2.1 dX9_rules_19 rfl ?_
  refine lv_aload_n Fx.1 Fx.2.1 dX9_rules_20 rfl (lv_at hl 0 rfl) ?_
  refine gC_X9_28_0 Fx X dX9_rules_21 ?_
  refine gC_X9_120_3 (x := (iI (F7))) Fx X (h0) dX9_rules_24 ?_
  refine k_if_eq (a := F7) (tgt := 32) Fx dX9_rules_27 (by decide) (by omega) (fun c_27 => ?_) (fun c_27 => ?_)
  · have hG0 := (hR7.resolve_right (fun z => z.2.1 c_27)).2
    have hG := hG0.2
    refine lv_aload_n Fx.1 Fx.2.1 dX9_rules_32 rfl (lv_at hl 0 rfl) ?_
    refine gC_X9_72_0 Fx X dX9_rules_33 ?_
    refine lv_astore_n (lv' := [(1, .ref (ad 9)), (0, .ref (ad 0))]) Fx.1 Fx.2.1 dX9_rules_36 rfl hl (by decide) rfl (fun ls hl => ?_)
    refine lv_aload_n Fx.1 Fx.2.1 dX9_rules_37 rfl (lv_at hl 1 rfl) ?_
    refine lv_aload_n Fx.1 Fx.2.1 dX9_rules_38 rfl (lv_at hl 1 rfl) ?_
    refine gC_X9_76_0 Fx X dX9_rules_39 ?_
    refine pf_X9_72 (q0 := 0) (v := .ref (ad 10)) Fx X rfl rfl rfl (by show 8 < 11; decide) dX9_rules_42 (fun H locs X => ?_)
    refine lv_aload_n Fx.1 Fx.2.1 dX9_rules_45 rfl (lv_at hl 1 rfl) ?_
    refine lv_aload_n Fx.1 Fx.2.1 dX9_rules_46 rfl (lv_at hl 0 rfl) ?_
    refine pf_X9_76 (q0 := 0) (v := .ref (ad 9)) Fx X rfl rfl rfl (by show 9 < 11; decide) dX9_rules_47 (fun H locs X => ?_)
    have X : Wd E Γ A s₀ H locs (wC Γ (swA ad) ed (swF (updA f_1 2 (upd (f_1 2) 1 (iI (0))))) (swG g_2) tl) := Wd.perm sw9 sw9_i (fun k => (sw_at (f := (updA f_1 2 (upd (f_1 2) 1 (iI (0))))) (g := g_2) k).trans rfl) X
    have hl : lv_has ls 2 [(0, .ref (swA ad 0))] := lv_sub hl [1] rfl
    refine lv_aload_n Fx.1 Fx.2.1 dX9_rules_50 rfl (lv_at hl 0 rfl) ?_
    refine k_iconst Fx dX9_rules_51 ?_
    refine pC_X9_79_0 Fx X rfl rfl dX9_rules_52 (fun H locs X => ?_)
    refine lv_aload_n Fx.1 Fx.2.1 dX9_rules_55 rfl (lv_at hl 0 rfl) ?_
    refine gC_X9_28_0 Fx X dX9_rules_56 ?_
    refine gC_X9_123_3 (x := (iI (((lnJ tn tb : Nat) : Int)))) Fx X (hG.2.2.2.1) dX9_rules_59 ?_
    exact r_iret Fx hr hlk X (by decide) dX9_rules_62 (⟨_, _, _, rfl, rfl, rfl, fun o j h1 h2 h3 h4 h5 => (frF h5).trans (by show _ = _; unfold swF; rw [if_neg h2, if_neg h3]; exact (frF h4).trans (hFE.1 o j h1 h3)), fun j h => (swG_o h).trans (hFE.2 j (by omega) (by omega)), Or.inl ⟨hG0.1, rfl, hG.2.1, hG.2.2.1, bI_0 (fun h => h), hG.2.2.2.2.2⟩⟩)
  · refine k_iconst Fx dX9_rules_30 ?_
    exact r_iret Fx hr hlk X (by decide) dX9_rules_31 (⟨_, _, _, rfl, rfl, rfl, fun o j h1 h2 h3 h4 h5 => (frF h4).trans (hFE.1 o j h1 h3), fun j h => hFE.2 j (by omega) (by omega), Or.inr (hR7.elim (fun z => absurd z.1 c_27) (fun z => ⟨z.2.2.1, rfl, h0.trans (congrArg iI z.1), z.2.2.2.2, hFE.1 0 10 (by omega) (by omega), fun j => hFE.1 9 j (by omega) (by omega), hFE.2 28 (by omega) (by omega), hFE.2 29 (by omega) (by omega)⟩))⟩)

