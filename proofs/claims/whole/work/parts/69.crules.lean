def GdI (tn : Nat) (tb : Nat → Nat) (k : Nat) (f g : Nat → Nat → Int32) : Prop := (∀ q, q < k → lnG tn tb q) ∧ f 3 0 = iI 0 ∧ f 3 1 = iI (-1) ∧ f 3 2 = iI (k : Nat) ∧ TokC tn tb (lnI tn tb k) f ∧ LawD (lnL tn tb k) f g
def BdI (tn : Nat) (tb : Nat → Nat) (F : Int) (f : Nat → Nat → Int32) : Prop := F = lnF tn tb (lnJ tn tb) (lnI tn tb (lnJ tn tb)) ∧ F ≠ 0 ∧ ¬ tkT tn tb (lnI tn tb (lnJ tn tb)) = 0 ∧ f 3 0 = iI F ∧ f 3 1 = iI ((lnP tn tb (lnJ tn tb) (lnI tn tb (lnJ tn tb)) : Nat) : Int)
theorem lnJ_at {tn : Nat} {tb : Nat → Nat} {k : Nat} (h : ∀ q, q < k → lnG tn tb q) (hk : k ≤ 20) (hn : ¬ lnG tn tb k) : lnJ tn tb = k := by
  unfold lnJ
  have key : ∀ c, c ≤ k → spn (lnG tn tb) 21 (k - c) = k := by
    intro c
    induction c with
    | zero => intro _; rw [Nat.sub_zero]; exact spn_f (fun z => hn z.2)
    | succ c ih =>
      intro hc
      rw [spn_t ⟨by omega, h _ (by omega)⟩, show k - (c + 1) + 1 = k - c by omega]
      exact ih (by omega)
  have := key k (Nat.le_refl k)
  rwa [Nat.sub_self] at this
theorem gd_le {tn : Nat} {tb : Nat → Nat} {k : Nat} (h : ∀ q, q < k → lnG tn tb q) : k ≤ 20 := by
  rcases Nat.lt_or_ge 20 k with c | c
  · exact absurd (h 20 c).2 (lnF_20 tn tb _)
  · exact c
theorem gd_s {tn : Nat} {tb : Nat → Nat} {k : Nat} (h : ∀ q, q < k → lnG tn tb q) (hk : lnG tn tb k) : ∀ q, q < k + 1 → lnG tn tb q := fun q hq => by
  rcases Nat.lt_or_ge q k with c | c
  · exact h q c
  · have e : q = k := by omega
    rw [e]; exact hk
def RdPost (tn : Nat) (tb : Nat → Nat) (Γ : GG) (ad : Nat → Nat) (ed : Nat) (f g : Nat → Nat → Int32) (tl : va_W) : PT := fun v w2 => v = none ∧ ∃ f1 g1, w2 = wC Γ ad ed f1 g1 tl ∧ FrE f1 f g1 g ∧ ((tkT tn tb (lnI tn tb (lnJ tn tb)) = 0 ∧ GdI tn tb (lnJ tn tb) f1 g1) ∨ (∃ F, BdI tn tb F f1))
theorem FrE_tr {f2 f1 f g2 g1 g : Nat → Nat → Int32} (h2 : FrE f2 f1 g2 g1) (h1 : FrE f1 f g1 g) : FrE f2 f g2 g := ⟨fun o j a b => (h2.1 o j a b).trans (h1.1 o j a b), fun j a b => (h2.2 j a b).trans (h1.2 j a b)⟩
theorem TapC_e {tn : Nat} {tb : Nat → Nat} {f1 f g1 g : Nat → Nat → Int32} (h : FrE f1 f g1 g) (hT : TapC tn tb f g) : TapC tn tb f1 g1 := ⟨(h.1 2 1 (by omega) (by omega)).trans hT.1, fun i => by rw [h.2 11 (by omega) (by omega)]; exact hT.2 i⟩
theorem lnF_b3 (tn : Nat) (tb : Nat → Nat) (j i : Nat) : 0 ≤ lnF tn tb j i ∧ lnF tn tb j i ≤ 3 := by unfold lnF; (repeat' split) <;> omega

theorem updA9 {f : Nat → Nat → Int32} {o j : Nat} {x : Nat → Int32} (h : o ≠ 10) : updA f 10 x o j = f o j := congrFun (updA_n h) j
theorem rd_step {tn : Nat} {tb : Nat → Nat} {k : Nat} {f1 g1 : Nat → Nat → Int32} (hG : ∀ q, q < k → lnG tn tb q) (h0 : ¬ tkT tn tb (lnI tn tb k) = 0) (h : (lnF tn tb k (lnI tn tb k) = 0 ∧ TokC tn tb (lnN tn tb (lnI tn tb k)) f1 ∧ f1 3 0 = iI 0 ∧ f1 3 1 = iI (-1) ∧ f1 3 2 = iI ((k + 1 : Nat) : Int) ∧ LawD (lnA (lnL tn tb k) (tkT tn tb (lnI tn tb k)) (tkT tn tb (tkN tn tb (lnI tn tb k)) - 300) (tkV tn tb (lnK tn tb (lnI tn tb k)))) f1 g1) ∨ (lnF tn tb k (lnI tn tb k) ≠ 0 ∧ f1 3 0 = iI (lnF tn tb k (lnI tn tb k)) ∧ f1 3 1 = iI ((lnP tn tb k (lnI tn tb k) : Nat) : Int))) : ∃ F8 : Int, ((F8 = 0 ∧ GdI tn tb (k + 1) f1 g1) ∨ BdI tn tb F8 f1) ∧ (0 ≤ F8 ∧ F8 ≤ 3) := by
  rcases h with ⟨a, b, c, d, e, g⟩ | ⟨a, b, c⟩
  · exact ⟨0, Or.inl ⟨rfl, gd_s hG ⟨h0, a⟩, c, d, e, b, g⟩, by omega⟩
  · have e := lnJ_at hG (gd_le hG) (fun z => a z.2)
    refine ⟨lnF tn tb k (lnI tn tb k), Or.inr ?_, lnF_b3 tn tb k _⟩
    unfold BdI
    rw [e]
    exact ⟨rfl, a, h0, b, c⟩

abbrev rm_X1_read : Room := ({ frames := 8, cells := 0, slots := 0, locals := 172 } : Room)
set_option maxHeartbeats 4000000 in
set_option maxRecDepth 100000 in
theorem c_X1_read {E : XX} (hE : XS E) (l : Launch) {Γ : GG} {κ : KK} (hN : EN E κ)  {ad : Nat → Nat} {ed : Nat} {f g : Nat → Nat → Int32} {tl : va_W} {tn : Nat} {tb : Nat → Nat} (hT : TapC tn tb f g) (hTB : TapB tn tb) : Con E l yX1_read cX1_read 3 none rm_X1_read Γ (wC Γ ad ed f g tl) [.ref (ad 3), .ref (ad 10)] (RdPost tn tb Γ ad ed f g tl) := by
  refine Con_mk (by decide) (Nat.le_of_ble_eq_true rfl) ?_
  intro p e s₀ m args below meth c A Fx hr hlk hnm X ls hl
  have hl : lv_has ls 3 [(0, .ref (ad 3)), (1, .ref (ad 10))] := hl
  refine lv_aload_n Fx.1 Fx.2.1 dX1_read_0 rfl (lv_at hl 0 rfl) ?_
  refine k_iconst Fx dX1_read_1 ?_
  refine pC_X1_9_3 Fx X dX1_read_2 (fun H locs X => ?_)
  refine lv_aload_n Fx.1 Fx.2.1 dX1_read_5 rfl (lv_at hl 0 rfl) ?_
  refine k_iconst Fx dX1_read_6 ?_
  refine pC_X1_15_3 Fx X dX1_read_7 (fun H locs X => ?_)
  refine lv_aload_n Fx.1 Fx.2.1 dX1_read_10 rfl (lv_at hl 0 rfl) ?_
  refine k_iconst Fx dX1_read_11 ?_
  refine pC_X1_18_3 Fx X dX1_read_12 (fun H locs X => ?_)
  refine lv_aload_n Fx.1 Fx.2.1 dX1_read_15 rfl (lv_at hl 0 rfl) ?_
  refine k_iconst Fx dX1_read_16 ?_
  refine pC_X1_21_3 Fx X dX1_read_17 (fun H locs X => ?_)
  refine lv_aload_n Fx.1 Fx.2.1 dX1_read_20 rfl (lv_at hl 1 rfl) ?_
  refine r_callV (As := []) (rest := []) hE Fx X (c_X0_reset hE l (w := wC Γ ad ed (updA (updA (updA (updA f 3 (upd (f 3) 0 (iI (0)))) 3 (upd ((updA f 3 (upd (f 3) 0 (iI (0)))) 3) 1 (iI ((-1))))) 3 (upd ((updA (updA f 3 (upd (f 3) 0 (iI (0)))) 3 (upd ((updA f 3 (upd (f 3) 0 (iI (0)))) 3) 1 (iI ((-1))))) 3) 2 (iI (0)))) 3 (upd ((updA (updA (updA f 3 (upd (f 3) 0 (iI (0)))) 3 (upd ((updA f 3 (upd (f 3) 0 (iI (0)))) 3) 1 (iI ((-1))))) 3 (upd ((updA (updA f 3 (upd (f 3) 0 (iI (0)))) 3 (upd ((updA f 3 (upd (f 3) 0 (iI (0)))) 3) 1 (iI ((-1))))) 3) 2 (iI (0)))) 3) 4 (iI (0)))) g tl) (q0 := 10) (q1 := 30) (q2 := 31) (a := ad 10) (b := ad 30) (c9 := ad 31) (F := g 30) (G := g 31) (x := (updA (updA (updA (updA f 3 (upd (f 3) 0 (iI (0)))) 3 (upd ((updA f 3 (upd (f 3) 0 (iI (0)))) 3) 1 (iI ((-1))))) 3 (upd ((updA (updA f 3 (upd (f 3) 0 (iI (0)))) 3 (upd ((updA f 3 (upd (f 3) 0 (iI (0)))) 3) 1 (iI ((-1))))) 3) 2 (iI (0)))) 3 (upd ((updA (updA (updA f 3 (upd (f 3) 0 (iI (0)))) 3 (upd ((updA f 3 (upd (f 3) 0 (iI (0)))) 3) 1 (iI ((-1))))) 3 (upd ((updA (updA f 3 (upd (f 3) 0 (iI (0)))) 3 (upd ((updA f 3 (upd (f 3) 0 (iI (0)))) 3) 1 (iI ((-1))))) 3) 2 (iI (0)))) 3) 4 (iI (0)))) 10 2) (y := (updA (updA (updA (updA f 3 (upd (f 3) 0 (iI (0)))) 3 (upd ((updA f 3 (upd (f 3) 0 (iI (0)))) 3) 1 (iI ((-1))))) 3 (upd ((updA (updA f 3 (upd (f 3) 0 (iI (0)))) 3 (upd ((updA f 3 (upd (f 3) 0 (iI (0)))) 3) 1 (iI ((-1))))) 3) 2 (iI (0)))) 3 (upd ((updA (updA (updA f 3 (upd (f 3) 0 (iI (0)))) 3 (upd ((updA f 3 (upd (f 3) 0 (iI (0)))) 3) 1 (iI ((-1))))) 3 (upd ((updA (updA f 3 (upd (f 3) 0 (iI (0)))) 3 (upd ((updA f 3 (upd (f 3) 0 (iI (0)))) 3) 1 (iI ((-1))))) 3) 2 (iI (0)))) 3) 4 (iI (0)))) 10 3) (z := (updA (updA (updA (updA f 3 (upd (f 3) 0 (iI (0)))) 3 (upd ((updA f 3 (upd (f 3) 0 (iI (0)))) 3) 1 (iI ((-1))))) 3 (upd ((updA (updA f 3 (upd (f 3) 0 (iI (0)))) 3 (upd ((updA f 3 (upd (f 3) 0 (iI (0)))) 3) 1 (iI ((-1))))) 3) 2 (iI (0)))) 3 (upd ((updA (updA (updA f 3 (upd (f 3) 0 (iI (0)))) 3 (upd ((updA f 3 (upd (f 3) 0 (iI (0)))) 3) 1 (iI ((-1))))) 3 (upd ((updA (updA f 3 (upd (f 3) 0 (iI (0)))) 3 (upd ((updA f 3 (upd (f 3) 0 (iI (0)))) 3) 1 (iI ((-1))))) 3) 2 (iI (0)))) 3) 4 (iI (0)))) 10 4) ⟨by decide, by show 10 < _ + 44; omega, by show 30 < _ + 44; omega, by show 31 < _ + 44; omega⟩) cV_X1_37 (recC_10 X) rfl rfl (Nat.le_of_ble_eq_true rfl) (by decide) hl.1 dX1_read_21 (fun v9 w9 H locs hq X => ?_)
  obtain ⟨rfl, F_1, G_2, rfl, hF1, hG1⟩ := hq
  have X : Wd E Γ A s₀ H locs (wC Γ ad ed (updA (updA (updA (updA (updA f 3 (upd (f 3) 0 (iI (0)))) 3 (upd ((updA f 3 (upd (f 3) 0 (iI (0)))) 3) 1 (iI ((-1))))) 3 (upd ((updA (updA f 3 (upd (f 3) 0 (iI (0)))) 3 (upd ((updA f 3 (upd (f 3) 0 (iI (0)))) 3) 1 (iI ((-1))))) 3) 2 (iI (0)))) 3 (upd ((updA (updA (updA f 3 (upd (f 3) 0 (iI (0)))) 3 (upd ((updA f 3 (upd (f 3) 0 (iI (0)))) 3) 1 (iI ((-1))))) 3 (upd ((updA (updA f 3 (upd (f 3) 0 (iI (0)))) 3 (upd ((updA f 3 (upd (f 3) 0 (iI (0)))) 3) 1 (iI ((-1))))) 3) 2 (iI (0)))) 3) 4 (iI (0)))) 10 (upd (upd (upd ((updA (updA (updA (updA f 3 (upd (f 3) 0 (iI (0)))) 3 (upd ((updA f 3 (upd (f 3) 0 (iI (0)))) 3) 1 (iI ((-1))))) 3 (upd ((updA (updA f 3 (upd (f 3) 0 (iI (0)))) 3 (upd ((updA f 3 (upd (f 3) 0 (iI (0)))) 3) 1 (iI ((-1))))) 3) 2 (iI (0)))) 3 (upd ((updA (updA (updA f 3 (upd (f 3) 0 (iI (0)))) 3 (upd ((updA f 3 (upd (f 3) 0 (iI (0)))) 3) 1 (iI ((-1))))) 3 (upd ((updA (updA f 3 (upd (f 3) 0 (iI (0)))) 3 (upd ((updA f 3 (upd (f 3) 0 (iI (0)))) 3) 1 (iI ((-1))))) 3) 2 (iI (0)))) 3) 4 (iI (0)))) 10) 2 (iI 0)) 3 (iI 12)) 4 (iI 1))) (updA (updA g 30 F_1) 31 G_2) tl) := X
  have hL : LawD lw0 (updA (updA (updA (updA (updA f 3 (upd (f 3) 0 (iI (0)))) 3 (upd ((updA f 3 (upd (f 3) 0 (iI (0)))) 3) 1 (iI ((-1))))) 3 (upd ((updA (updA f 3 (upd (f 3) 0 (iI (0)))) 3 (upd ((updA f 3 (upd (f 3) 0 (iI (0)))) 3) 1 (iI ((-1))))) 3) 2 (iI (0)))) 3 (upd ((updA (updA (updA f 3 (upd (f 3) 0 (iI (0)))) 3 (upd ((updA f 3 (upd (f 3) 0 (iI (0)))) 3) 1 (iI ((-1))))) 3 (upd ((updA (updA f 3 (upd (f 3) 0 (iI (0)))) 3 (upd ((updA f 3 (upd (f 3) 0 (iI (0)))) 3) 1 (iI ((-1))))) 3) 2 (iI (0)))) 3) 4 (iI (0)))) 10 (upd (upd (upd ((updA (updA (updA (updA f 3 (upd (f 3) 0 (iI (0)))) 3 (upd ((updA f 3 (upd (f 3) 0 (iI (0)))) 3) 1 (iI ((-1))))) 3 (upd ((updA (updA f 3 (upd (f 3) 0 (iI (0)))) 3 (upd ((updA f 3 (upd (f 3) 0 (iI (0)))) 3) 1 (iI ((-1))))) 3) 2 (iI (0)))) 3 (upd ((updA (updA (updA f 3 (upd (f 3) 0 (iI (0)))) 3 (upd ((updA f 3 (upd (f 3) 0 (iI (0)))) 3) 1 (iI ((-1))))) 3 (upd ((updA (updA f 3 (upd (f 3) 0 (iI (0)))) 3 (upd ((updA f 3 (upd (f 3) 0 (iI (0)))) 3) 1 (iI ((-1))))) 3) 2 (iI (0)))) 3) 4 (iI (0)))) 10) 2 (iI 0)) 3 (iI 12)) 4 (iI 1))) (updA (updA g 30 F_1) 31 G_2) := ⟨rfl, rfl, rfl, hF1, hG1⟩
  refine lv_aload_n Fx.1 Fx.2.1 dX1_read_24 rfl (lv_at hl 0 rfl) ?_
  refine r_callV (As := []) (rest := []) hE Fx X (c_X1_advance hE l hN (f := (updA (updA (updA (updA (updA f 3 (upd (f 3) 0 (iI (0)))) 3 (upd ((updA f 3 (upd (f 3) 0 (iI (0)))) 3) 1 (iI ((-1))))) 3 (upd ((updA (updA f 3 (upd (f 3) 0 (iI (0)))) 3 (upd ((updA f 3 (upd (f 3) 0 (iI (0)))) 3) 1 (iI ((-1))))) 3) 2 (iI (0)))) 3 (upd ((updA (updA (updA f 3 (upd (f 3) 0 (iI (0)))) 3 (upd ((updA f 3 (upd (f 3) 0 (iI (0)))) 3) 1 (iI ((-1))))) 3 (upd ((updA (updA f 3 (upd (f 3) 0 (iI (0)))) 3 (upd ((updA f 3 (upd (f 3) 0 (iI (0)))) 3) 1 (iI ((-1))))) 3) 2 (iI (0)))) 3) 4 (iI (0)))) 10 (upd (upd (upd ((updA (updA (updA (updA f 3 (upd (f 3) 0 (iI (0)))) 3 (upd ((updA f 3 (upd (f 3) 0 (iI (0)))) 3) 1 (iI ((-1))))) 3 (upd ((updA (updA f 3 (upd (f 3) 0 (iI (0)))) 3 (upd ((updA f 3 (upd (f 3) 0 (iI (0)))) 3) 1 (iI ((-1))))) 3) 2 (iI (0)))) 3 (upd ((updA (updA (updA f 3 (upd (f 3) 0 (iI (0)))) 3 (upd ((updA f 3 (upd (f 3) 0 (iI (0)))) 3) 1 (iI ((-1))))) 3 (upd ((updA (updA f 3 (upd (f 3) 0 (iI (0)))) 3 (upd ((updA f 3 (upd (f 3) 0 (iI (0)))) 3) 1 (iI ((-1))))) 3) 2 (iI (0)))) 3) 4 (iI (0)))) 10) 2 (iI 0)) 3 (iI 12)) 4 (iI 1)))) (g := (updA (updA g 30 F_1) 31 G_2)) (i := 0) (tn := tn) (tb := tb) ⟨hT.1, hT.2⟩ hTB (Nat.zero_le _) rfl) cV_X1_42 (recC_3 X) rfl rfl (Nat.le_of_ble_eq_true rfl) (by decide) hl.1 dX1_read_25 (fun v9 w9 H locs hq X => ?_)
  obtain ⟨rfl, f_3, rfl, hK, hFk⟩ := hq
  refine k_iconst Fx dX1_read_28 ?_
  refine lv_istore_n (lv' := [(2, .int (iI (0))), (0, .ref (ad 3)), (1, .ref (ad 10))]) Fx.1 Fx.2.1 dX1_read_29 rfl hl (by decide) rfl (fun ls hl => ?_)
  have lp_30 : ∀ (nn : Nat) (k9 : Nat) (F9 : Int) (f2 : Nat → Nat → Int32) (g2 : Nat → Nat → Int32), 21 - k9 < nn → (k9 ≤ 21) → (0 ≤ F9 ∧ F9 ≤ 3) → ((F9 = 0 ∧ GdI tn tb k9 f2 g2) ∨ BdI tn tb F9 f2) → (f2 3 0 = iI F9) → (TapC tn tb f2 g2) → (FrE f2 f g2 g) → ∀ (H : Heap) (locs : List Loc) (ls : Array Slot), Wd E Γ A s₀ H locs (wC Γ ad ed f2 g2 tl) → lv_has ls 3 [(0, .ref (ad 3)), (1, .ref (ad 10)), (2, .int (iI (((k9 : Nat) : Int))))] → W p l e rm_X1_read s₀ m args below meth c H locs (0) (0) (RQ below args s₀ Γ A (RdPost tn tb Γ ad ed f g tl) rm_X1_read) (F0 m 30 ls []) := by
    intro nn
    induction nn with
    | zero => intro k9 F9 f2 g2 hmu; exact absurd hmu (Nat.not_lt_zero _)
    | succ nn ih =>
      intro k9 F9 f2 g2 hmu hk9 hF9 hI h0 hT hFE0 H locs ls X hl
      have ih_30 := ih
      refine lv_iload_n Fx.1 Fx.2.1 dX1_read_30 rfl (lv_at hl 2 rfl) ?_
      refine k_bipush Fx dX1_read_31 (by decide) ?_
      refine k_icmp_gt (a := ((k9 : Nat) : Int)) (b := 20) (tgt := 61) Fx dX1_read_33 (by decide) (by omega) (by omega) (fun c_33 => ?_) (fun c_33 => ?_)
      · exact r_vret Fx hr hlk X (by decide) dX1_read_61 (⟨rfl, _, _, rfl, hFE0, Or.inr ⟨F9, hI.elim (fun z => absurd (gd_le z.2.1) (by omega)) (fun z => z)⟩⟩)
      · refine lv_aload_n Fx.1 Fx.2.1 dX1_read_36 rfl (lv_at hl 0 rfl) ?_
        refine gC_X1_9_3 (x := (iI (F9))) Fx X (h0) dX1_read_37 ?_
        refine k_if_ne (a := F9) (tgt := 61) Fx dX1_read_40 (by decide) (by omega) (fun c_40 => ?_) (fun c_40 => ?_)
        · exact r_vret Fx hr hlk X (by decide) dX1_read_61 (⟨rfl, _, _, rfl, hFE0, Or.inr ⟨F9, hI.elim (fun z => absurd z.1 c_40) (fun z => z)⟩⟩)
        · have hG := (hI.resolve_right (fun z => z.2.1 c_40)).2
          have hcb := ct_b tn tb (lnI tn tb k9)
          refine lv_aload_n Fx.1 Fx.2.1 dX1_read_43 rfl (lv_at hl 0 rfl) ?_
          refine gC_X1_24_3 (x := (iI (ctT tn tb (lnI tn tb k9)))) Fx X (hG.2.2.2.2.1.2.1) dX1_read_44 ?_
          refine k_if_eq (a := ctT tn tb (lnI tn tb k9)) (tgt := 61) Fx dX1_read_47 (by decide) (by omega) (fun c_47 => ?_) (fun c_47 => ?_)
          · exact r_vret Fx hr hlk X (by decide) dX1_read_61 (⟨rfl, _, _, rfl, hFE0, Or.inl (by have e9 := lnJ_at hG.1 (gd_le hG.1) (fun z => z.1 ((ct_i tn tb _).2.2.2.2.2.2.2.2.mp c_47)); rw [e9]; exact ⟨(ct_i tn tb _).2.2.2.2.2.2.2.2.mp c_47, hG⟩)⟩)
          · refine lv_aload_n Fx.1 Fx.2.1 dX1_read_50 rfl (lv_at hl 0 rfl) ?_
            refine lv_aload_n Fx.1 Fx.2.1 dX1_read_51 rfl (lv_at hl 1 rfl) ?_
            refine r_callV (As := [.ref (ad 10)]) (rest := []) hE Fx X (c_X1_readLine hE l hN (by exact hT) hTB (i := lnI tn tb k9) (j := k9) (fp := -1) (x := lnL tn tb k9) (lnI_le tn tb k9) (gd_le hG.1) (by exact hG.2.1) (by exact hG.2.2.1) (by exact hG.2.2.2.1) (by exact hG.2.2.2.2.1) (by exact hG.2.2.2.2.2)) cV_X1_45 (recC_3 X) rfl rfl (Nat.le_of_ble_eq_true rfl) (by decide) hl.1 dX1_read_52 (fun v9 w9 H locs hq X => ?_)
            obtain ⟨rfl, f_4, g_5, rfl, hFE, hRl⟩ := hq
            obtain ⟨F8, hI8, hF8b⟩ : ∃ F8 : Int, ((F8 = 0 ∧ GdI tn tb (k9 + 1) f_4 g_5) ∨ BdI tn tb F8 f_4) ∧ (0 ≤ F8 ∧ F8 ≤ 3) := rd_step hG.1 (fun z => c_47 ((ct_i tn tb _).2.2.2.2.2.2.2.2.mpr z)) hRl
            refine k_iinc (k := 2) (a := ((k9 : Nat) : Int)) (lv' := [(2, .int (iI ((((k9 : Nat) : Int) + 1)))), (0, .ref (ad 3)), (1, .ref (ad 10))]) Fx dX1_read_55 hl rfl (by decide) rfl (fun ls hl => ?_)
            refine lv_goto (tgt := 30) Fx.1 Fx.2.1 dX1_read_58 (by decide) ?_
            have hl_6 := lv_rp hl 0 rfl (show (iI ((((k9 : Nat) : Int) + 1))) = (iI ((((k9 + 1) : Nat) : Int))) from congrArg iI (by omega))
            exact ih_30 (k9 + 1) (F8) (f_4) (g_5) (by omega) (by omega) (hF8b) (hI8) (hI8.elim (fun z => z.1 ▸ z.2.2.1) (fun z => z.2.2.2.1)) (TapC_e hFE hT) (FrE_tr hFE hFE0) _ _ _ X (lv_sub hl_6 [1, 2, 0] rfl)
  have hl_7 := lv_rp hl 0 rfl (show (iI (0)) = (iI (((0 : Nat) : Int))) from congrArg iI (by omega))
  exact lp_30 _ (0) (0) (f_3) ((updA (updA g 30 F_1) 31 G_2)) (Nat.lt_succ_self _) (by omega) (by omega) (Or.inl ⟨rfl, fun q h => absurd h (Nat.not_lt_zero q), hFk 3 0 (by omega), hFk 3 1 (by omega), hFk 3 2 (by omega), hK, (hFk 10 2 (by omega)).trans hL.1, (hFk 10 3 (by omega)).trans hL.2.1, (hFk 10 4 (by omega)).trans hL.2.2.1, hL.2.2.2⟩) (hFk 3 0 (by omega)) (⟨(hFk 2 1 (by omega)).trans hT.1, hT.2⟩) (⟨fun o j h1 h2 => (hFk o j (by omega)).trans (((((updA9 h2).trans (frF (by omega))).trans (frF (by omega))).trans (frF (by omega))).trans (frF (by omega))), fun j h1 h2 => (updA_n h2).trans (updA_n h1)⟩) _ _ _ X (lv_sub hl_7 [1, 2, 0] rfl)

