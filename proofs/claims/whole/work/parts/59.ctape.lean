/-! the class's tape: signed bytes -/
def sB (n : Nat) : Int := if n < 128 then (n : Int) else (n : Int) - 256
theorem sB_c (n : Nat) (h : n < 256) : (n < 128 ∧ sB n = n) ∨ (128 ≤ n ∧ sB n = (n : Int) - 256) := by
  unfold sB; split <;> omega
def TapC (tn : Nat) (tb : Nat → Nat) (f g : Nat → Nat → Int32) : Prop := f 2 1 = iI tn ∧ (∀ i, g 11 i = iI (sB (tb i)))
theorem sB_of (x : Int32) : vp_nar .byte (x.toInt8.toInt32) = iI (sB (x.toBitVec.toNat % 256)) := by
  have h1 : vp_nar .byte (x.toInt8.toInt32) = x.toInt8.toInt32 := by
    show (x.toInt8.toInt32).toInt8.toInt32 = _
    rw [Int8.toInt8_toInt32]
  rw [h1, ← iI_self x.toInt8.toInt32]
  congr 1
  rw [Int8.toInt_toInt32]
  show (x.toInt8.toBitVec).toInt = _
  rw [Int32.toBitVec_toInt8, BitVec.signExtend_eq_setWidth_of_le _ (by decide), BitVec.toInt_eq_toNat_cond, BitVec.toNat_setWidth]
  unfold sB
  have := Nat.mod_lt x.toBitVec.toNat (show 0 < 256 by decide)
  split <;> split <;> omega
def tbA (tb : Nat → Nat) (tn : Nat) (v : Int32) (k : Nat) : Nat → Nat := fun i => if tn ≤ i ∧ i < tn + k then fdB v (iI (24 - 8 * ((i - tn : Nat) : Int))) else tb i
theorem tbA_s {g : Nat → Int32} {tb : Nat → Nat} {tn k : Nat} {v x : Int32} (hx : x = iI (sB (fdB v (iI (24 - 8 * ((k : Nat) : Int)))))) (h : ∀ i, g i = iI (sB (tbA tb tn v k i))) : ∀ i, upd g (tn + k) x i = iI (sB (tbA tb tn v (k + 1) i)) := by
  intro i
  unfold tbA
  by_cases e : i = tn + k
  · rw [e, upd_s, if_pos (by omega), hx, show tn + k - tn = k by omega]
  · rw [upd_n e, h i]
    unfold tbA
    by_cases c : tn ≤ i ∧ i < tn + k
    · rw [if_pos c, if_pos (by omega)]
    · rw [if_neg c, if_neg (by omega)]
theorem tbA_5 (tb : Nat → Nat) (tn : Nat) (a b c d e : Int32) : tbA (tbA (tbA (tbA (tbA tb tn a 4) (tn + 4) b 4) (tn + 8) c 4) (tn + 12) d 4) (tn + 16) e 4 = tbF tb tn a b c d e 20 := by
  funext i
  unfold tbA tbF fdK fdV
  by_cases h : tn ≤ i ∧ i < tn + 20
  · rw [if_pos h]
    obtain ⟨k, rfl⟩ : ∃ k, i = tn + k := ⟨i - tn, by omega⟩
    have hk : k < 20 := by omega
    rw [show tn + k - tn = k by omega]
    by_cases h4 : 16 ≤ k
    · rw [if_pos (by omega), if_neg (by omega), if_neg (by omega), if_neg (by omega), if_neg (by omega), show tn + k - (tn + 16) = k % 4 by omega]
    · rw [if_neg (by omega)]
      by_cases h3 : 12 ≤ k
      · rw [if_pos (by omega), if_neg (by omega), if_neg (by omega), if_neg (by omega), if_pos (by omega), show tn + k - (tn + 12) = k % 4 by omega]
      · rw [if_neg (by omega)]
        by_cases h2 : 8 ≤ k
        · rw [if_pos (by omega), if_neg (by omega), if_neg (by omega), if_pos (by omega), show tn + k - (tn + 8) = k % 4 by omega]
        · rw [if_neg (by omega)]
          by_cases h1 : 4 ≤ k
          · rw [if_pos (by omega), if_neg (by omega), if_pos (by omega), show tn + k - (tn + 4) = k % 4 by omega]
          · rw [if_neg (by omega), if_pos (by omega), if_pos (by omega), show k % 4 = k by omega]
  · rw [if_neg h, if_neg (by omega), if_neg (by omega), if_neg (by omega), if_neg (by omega), if_neg (by omega)]

abbrev rm_X7_append : Room := ({ frames := 0, cells := 0, slots := 0, locals := 0 } : Room)
set_option maxHeartbeats 4000000 in
set_option maxRecDepth 100000 in
theorem c_X7_append {E : XX} (hE : XS E) (l : Launch) {Γ : GG} {ad : Nat → Nat} {ed : Nat} {f g : Nat → Nat → Int32} {tl : va_W} {tn : Nat} {tb : Nat → Nat} (hT : TapC tn tb f g) (hT4 : tn + 4 ≤ 400) {v : Int32} : Con E l yX7_append cX7_append 3 none rm_X7_append Γ (wC Γ ad ed f g tl) [.ref (ad 2), .int (v)] (fun r w2 => r = none ∧ ∃ f1 g1, w2 = wC Γ ad ed f1 g1 tl ∧ TapC (tn + 4) (tbA tb tn v 4) f1 g1 ∧ (∀ o j, ¬ (o = 2 ∧ j = 1) → f1 o j = f o j) ∧ (∀ j, j ≠ 11 → g1 j = g j)) := by
  refine Con_mk (by decide) (Nat.le_of_ble_eq_true rfl) ?_
  intro p e s₀ m args below meth c A Fx hr hlk hnm X ls hl
  have hl : lv_has ls 3 [(0, .ref (ad 2)), (1, .int (v))] := hl
  refine k_bipush Fx dX7_append_0 (by decide) ?_
  refine lv_istore_n (lv' := [(2, .int (iI (24))), (0, .ref (ad 2)), (1, .int (v))]) Fx.1 Fx.2.1 dX7_append_2 rfl hl (by decide) rfl (fun ls hl => ?_)
  have lp_3 : ∀ (nn : Nat) (k9 : Nat) (f2 : Nat → Nat → Int32) (g2 : Nat → Nat → Int32), 4 - k9 < nn → (k9 ≤ 4) → (TapC (tn + k9) (tbA tb tn v k9) f2 g2) → ((∀ o j, ¬ (o = 2 ∧ j = 1) → f2 o j = f o j)) → (∀ j, j ≠ 11 → g2 j = g j) → ∀ (H : Heap) (locs : List Loc) (ls : Array Slot), Wd E Γ A s₀ H locs (wC Γ ad ed f2 g2 tl) → lv_has ls 3 [(0, .ref (ad 2)), (1, .int (v)), (2, .int (iI ((24 - 8 * ((k9 : Nat) : Int)))))] → W p l e rm_X7_append s₀ m args below meth c H locs (0) (0) (RQ below args s₀ Γ A (fun r w2 => r = none ∧ ∃ f1 g1, w2 = wC Γ ad ed f1 g1 tl ∧ TapC (tn + 4) (tbA tb tn v 4) f1 g1 ∧ (∀ o j, ¬ (o = 2 ∧ j = 1) → f1 o j = f o j) ∧ (∀ j, j ≠ 11 → g1 j = g j)) rm_X7_append) (F0 m 3 ls []) := by
    intro nn
    induction nn with
    | zero => intro k9 f2 g2 hmu; exact absurd hmu (Nat.not_lt_zero _)
    | succ nn ih =>
      intro k9 f2 g2 hmu hk9 hT9 hFr hGr H locs ls X hl
      have ih_3 := ih
      refine lv_iload_n Fx.1 Fx.2.1 dX7_append_3 rfl (lv_at hl 2 rfl) ?_
      refine k_if_lt (a := (24 - 8 * ((k9 : Nat) : Int))) (tgt := 46) Fx dX7_append_4 (by decide) (by omega) (fun c_4 => ?_) (fun c_4 => ?_)
      · exact r_vret Fx hr hlk X (by decide) dX7_append_46 (⟨rfl, _, _, rfl, (show k9 = 4 by omega) ▸ hT9, hFr, hGr⟩)
      · refine lv_aload_n Fx.1 Fx.2.1 dX7_append_7 rfl (lv_at hl 0 rfl) ?_
        refine gC_X7_15_2 (x := (iI (((tn + k9 : Nat) : Int)))) Fx X (hT9.1) dX7_append_8 ?_
        refine k_sipush Fx dX7_append_11 (by decide) ?_
        refine k_icmp_ge (a := ((tn + k9 : Nat) : Int)) (b := 400) (tgt := 46) Fx dX7_append_14 (by decide) (by omega) (by omega) (fun c_14 => ?_) (fun c_14 => ?_)
        · exact absurd c_14 (by omega)
        · refine lv_aload_n Fx.1 Fx.2.1 dX7_append_17 rfl (lv_at hl 0 rfl) ?_
          refine gC_X7_9_2 Fx X dX7_append_18 ?_
          refine lv_aload_n Fx.1 Fx.2.1 dX7_append_21 rfl (lv_at hl 0 rfl) ?_
          refine gC_X7_15_2 (x := (iI (((tn + k9 : Nat) : Int)))) Fx X (hT9.1) dX7_append_22 ?_
          refine lv_iload_n Fx.1 Fx.2.1 dX7_append_25 rfl (lv_at hl 1 rfl) ?_
          refine lv_iload_n Fx.1 Fx.2.1 dX7_append_26 rfl (lv_at hl 2 rfl) ?_
          refine lv_ishr Fx.1 Fx.2.1 dX7_append_27 ?_
          refine lv_i2b Fx.1 Fx.2.1 dX7_append_28 rfl ?_
          refine stC_11 (z := ((tn + k9 : Nat) : Int)) (i := (tn + k9)) Fx X (rfl) (by omega) dX7_append_29 (fun H locs X => ?_)
          refine lv_aload_n Fx.1 Fx.2.1 dX7_append_30 rfl (lv_at hl 0 rfl) ?_
          refine lv_dup Fx.1 Fx.2.1 dX7_append_31 rfl ?_
          refine gC_X7_15_2 (x := (iI (((tn + k9 : Nat) : Int)))) Fx X (hT9.1) dX7_append_32 ?_
          refine k_iconst Fx dX7_append_35 ?_
          refine k_iadd Fx dX7_append_36 ?_
          refine pC_X7_15_2 Fx X dX7_append_37 (fun H locs X => ?_)
          refine k_iinc (k := 2) (a := (24 - 8 * ((k9 : Nat) : Int))) (lv' := [(2, .int (iI (((24 - 8 * ((k9 : Nat) : Int)) + (-8))))), (0, .ref (ad 2)), (1, .int (v))]) Fx dX7_append_40 hl rfl (by decide) rfl (fun ls hl => ?_)
          refine lv_goto (tgt := 3) Fx.1 Fx.2.1 dX7_append_43 (by decide) ?_
          have hl_1 := lv_rp hl 0 rfl (show (iI (((24 - 8 * ((k9 : Nat) : Int)) + (-8)))) = (iI ((24 - 8 * (((k9 + 1) : Nat) : Int)))) from congrArg iI (by omega))
          exact ih_3 (k9 + 1) ((updA f2 2 (upd (f2 2) 1 (iI ((((tn + k9 : Nat) : Int) + 1)))))) ((updA g2 11 (upd (g2 11) (tn + k9) (vp_nar .byte (((v) >>> ((iI ((24 - 8 * ((k9 : Nat) : Int)))) &&& 31)).toInt8.toInt32))))) (by omega) (by omega) (⟨rfl, tbA_s (sB_of _) hT9.2⟩) (fun o j h => (frF h).trans (hFr o j h)) (fun j h => (updA_n h).trans (hGr j h)) _ _ _ X (lv_sub hl_1 [1, 2, 0] rfl)
  have hl_2 := lv_rp hl 0 rfl (show (iI (24)) = (iI ((24 - 8 * ((0 : Nat) : Int)))) from congrArg iI (by omega))
  exact lp_3 _ (0) (f) (g) (Nat.lt_succ_self _) (by omega) (⟨hT.1, fun i => (hT.2 i).trans (by unfold tbA; rw [if_neg (by omega)])⟩) (fun _ _ _ => rfl) (fun _ _ => rfl) _ _ _ X (lv_sub hl_2 [1, 2, 0] rfl)

abbrev rm_X7_cut : Room := ({ frames := 0, cells := 0, slots := 0, locals := 0 } : Room)
set_option maxHeartbeats 4000000 in
set_option maxRecDepth 100000 in
theorem c_X7_cut {E : XX} (hE : XS E) (l : Launch) {Γ : GG} {ad : Nat → Nat} {ed : Nat} {f g : Nat → Nat → Int32} {tl : va_W} {tn : Nat} (hT : f 2 1 = iI tn) (hT2 : tn ≤ 400) {z : Int} (hz : -2147483648 ≤ z ∧ z < 2147483648) : Con E l yX7_cut cX7_cut 2 (some .boolean) rm_X7_cut Γ (wC Γ ad ed f g tl) [.ref (ad 2), .int (iI (z))] (fun v w2 => ((0 ≤ z ∧ z ≤ tn) ∧ v = some (.int (bI True)) ∧ w2 = (wC Γ ad ed (updA f 2 (upd (f 2) 1 (iI z))) g tl)) ∨ (¬ (0 ≤ z ∧ z ≤ tn) ∧ v = some (.int (bI False)) ∧ w2 = wC Γ ad ed f g tl)) := by
  refine Con_mk (by decide) (Nat.le_of_ble_eq_true rfl) ?_
  intro p e s₀ m args below meth c A Fx hr hlk hnm X ls hl
  have hl : lv_has ls 2 [(0, .ref (ad 2)), (1, .int (iI (z)))] := hl
  refine lv_iload_n Fx.1 Fx.2.1 dX7_cut_0 rfl (lv_at hl 1 rfl) ?_
  refine k_if_lt (a := z) (tgt := 12) Fx dX7_cut_1 (by decide) (by omega) (fun c_1 => ?_) (fun c_1 => ?_)
  · refine k_iconst Fx dX7_cut_12 ?_
    exact r_zret Fx hr hlk X (by decide) dX7_cut_13 rfl (Or.inr ⟨by omega, by rw [bI_f (fun h => h)]; rfl, rfl⟩)
  · refine lv_iload_n Fx.1 Fx.2.1 dX7_cut_4 rfl (lv_at hl 1 rfl) ?_
    refine lv_aload_n Fx.1 Fx.2.1 dX7_cut_5 rfl (lv_at hl 0 rfl) ?_
    refine gC_X7_15_2 (x := (iI (((tn : Nat) : Int)))) Fx X (hT) dX7_cut_6 ?_
    refine k_icmp_le (a := z) (b := ((tn : Nat) : Int)) (tgt := 14) Fx dX7_cut_9 (by decide) (by omega) (by omega) (fun c_9 => ?_) (fun c_9 => ?_)
    · refine lv_aload_n Fx.1 Fx.2.1 dX7_cut_14 rfl (lv_at hl 0 rfl) ?_
      refine lv_iload_n Fx.1 Fx.2.1 dX7_cut_15 rfl (lv_at hl 1 rfl) ?_
      refine pC_X7_15_2 Fx X dX7_cut_16 (fun H locs X => ?_)
      refine k_iconst Fx dX7_cut_19 ?_
      exact r_zret Fx hr hlk X (by decide) dX7_cut_20 rfl (Or.inl ⟨by omega, by rw [bI_t trivial]; rfl, rfl⟩)
    · refine k_iconst Fx dX7_cut_12 ?_
      exact r_zret Fx hr hlk X (by decide) dX7_cut_13 rfl (Or.inr ⟨by omega, by rw [bI_f (fun h => h)]; rfl, rfl⟩)

abbrev rm_X9_end : Room := ({ frames := 1, cells := 0, slots := 0, locals := 21 } : Room)
set_option maxHeartbeats 4000000 in
set_option maxRecDepth 100000 in
theorem c_X9_end {E : XX} (hE : XS E) (l : Launch) {Γ : GG} {ad : Nat → Nat} {ed : Nat} {f g : Nat → Nat → Int32} {tl : va_W} {tn : Nat} (hT : f 2 1 = iI tn) (hT2 : tn ≤ 400) {z : Int} (hz : -2147483648 ≤ z ∧ z < 2147483648) : Con E l yX9_end cX9_end 2 (some .boolean) rm_X9_end Γ (wC Γ ad ed f g tl) [.ref (ad 0), .int (iI (z))] (fun v w2 => ((0 ≤ z ∧ z ≤ tn) ∧ v = some (.int (bI True)) ∧ w2 = (wC Γ ad ed (updA f 2 (upd (f 2) 1 (iI z))) g tl)) ∨ (¬ (0 ≤ z ∧ z ≤ tn) ∧ v = some (.int (bI False)) ∧ w2 = wC Γ ad ed f g tl)) := by
  refine Con_mk (by decide) (Nat.le_of_ble_eq_true rfl) ?_
  intro p e s₀ m args below meth c A Fx hr hlk hnm X ls hl
  have hl : lv_has ls 2 [(0, .ref (ad 0)), (1, .int (iI (z)))] := hl
  refine lv_aload_n Fx.1 Fx.2.1 dX9_end_0 rfl (lv_at hl 0 rfl) ?_
  refine gC_X9_19_0 Fx X dX9_end_1 ?_
  refine lv_iload_n Fx.1 Fx.2.1 dX9_end_4 rfl (lv_at hl 1 rfl) ?_
  refine r_callV (As := [.int (iI (z))]) (rest := []) hE Fx X (c_X7_cut hE l (tn := tn) (hT) (by omega) (z := z) (by omega)) cV_X9_112 (recC_2 X) rfl rfl (Nat.le_of_ble_eq_true rfl) (by decide) hl.1 dX9_end_5 (fun v9 w9 H locs hq X => ?_)
  rcases hq with ⟨hz9, rfl, rfl⟩ | ⟨hz9, rfl, rfl⟩
  · exact r_zret Fx hr hlk X (by decide) dX9_end_8 (bI_nar _) (Or.inl ⟨by omega, rfl, rfl⟩)
  · exact r_zret Fx hr hlk X (by decide) dX9_end_8 (bI_nar _) (Or.inr ⟨by omega, rfl, rfl⟩)

abbrev rm_X9_feed : Room := ({ frames := 1, cells := 0, slots := 0, locals := 22 } : Room)
set_option maxHeartbeats 4000000 in
set_option maxRecDepth 100000 in
theorem c_X9_feed {E : XX} (hE : XS E) (l : Launch) {Γ : GG} {ad : Nat → Nat} {ed : Nat} {f g : Nat → Nat → Int32} {tl : va_W} {tn : Nat} {tb : Nat → Nat} (hT : TapC tn tb f g) (hTB : TapB tn tb) {a b c9 d e9 : Int32} : Con E l yX9_feed cX9_feed 6 (some .int) rm_X9_feed Γ (wC Γ ad ed f g tl) [.ref (ad 0), .int (a), .int (b), .int (c9), .int (d), .int (e9)] (fun v w2 => (tn ≤ 380 ∧ v = some (.int (iI ((tn + 20 : Nat) : Int))) ∧ ∃ f1 g1, w2 = wC Γ ad ed f1 g1 tl ∧ TapC (tn + 20) (tbF tb tn a b c9 d e9 20) f1 g1 ∧ (∀ o j, ¬ (o = 2 ∧ j = 1) → f1 o j = f o j) ∧ (∀ j, j ≠ 11 → g1 j = g j)) ∨ (¬ tn ≤ 380 ∧ v = some (.int (iI (-1))) ∧ w2 = wC Γ ad ed f g tl)) := by
  refine Con_mk (by decide) (Nat.le_of_ble_eq_true rfl) ?_
  intro p e s₀ m args below meth c A Fx hr hlk hnm X ls hl
  have hl : lv_has ls 6 [(0, .ref (ad 0)), (1, .int (a)), (2, .int (b)), (3, .int (c9)), (4, .int (d)), (5, .int (e9))] := hl
  have hT2 := hTB.1
  have hFr : (∀ o j, ¬ (o = 2 ∧ j = 1) → f o j = f o j) := fun _ _ _ => rfl
  have hGr : ∀ j, j ≠ 11 → g j = g j := fun _ _ => rfl
  refine lv_aload_n Fx.1 Fx.2.1 dX9_feed_0 rfl (lv_at hl 0 rfl) ?_
  refine gC_X9_19_0 Fx X dX9_feed_1 ?_
  refine gC_X9_104_2 (x := (iI (((tn : Nat) : Int)))) Fx X (hT.1) dX9_feed_4 ?_
  refine k_sipush Fx dX9_feed_7 (by decide) ?_
  refine k_icmp_le (a := ((tn : Nat) : Int)) (b := 380) (tgt := 15) Fx dX9_feed_10 (by decide) (by omega) (by omega) (fun c_10 => ?_) (fun c_10 => ?_)
  · refine lv_aload_n Fx.1 Fx.2.1 dX9_feed_15 rfl (lv_at hl 0 rfl) ?_
    refine gC_X9_19_0 Fx X dX9_feed_16 ?_
    refine lv_iload_n Fx.1 Fx.2.1 dX9_feed_19 rfl (lv_at hl 1 rfl) ?_
    refine r_callV (As := [.int (a)]) (rest := []) hE Fx X (c_X7_append hE l (by exact hT) (by omega)) cV_X9_108 (recC_2 X) rfl rfl (Nat.le_of_ble_eq_true rfl) (by decide) hl.1 dX9_feed_20 (fun v9 w9 H locs hq X => ?_)
    obtain ⟨rfl, f_1, g_2, rfl, hT, hFr1, hGr1⟩ := hq
    have hFr : (∀ o j, ¬ (o = 2 ∧ j = 1) → f_1 o j = f o j) := fun o j h => (hFr1 o j h).trans (hFr o j h)
    have hGr : ∀ j, j ≠ 11 → g_2 j = g j := fun j h => (hGr1 j h).trans (hGr j h)
    refine lv_aload_n Fx.1 Fx.2.1 dX9_feed_23 rfl (lv_at hl 0 rfl) ?_
    refine gC_X9_19_0 Fx X dX9_feed_24 ?_
    refine lv_iload_n Fx.1 Fx.2.1 dX9_feed_27 rfl (lv_at hl 2 rfl) ?_
    refine r_callV (As := [.int (b)]) (rest := []) hE Fx X (c_X7_append hE l (by exact hT) (by omega)) cV_X9_108 (recC_2 X) rfl rfl (Nat.le_of_ble_eq_true rfl) (by decide) hl.1 dX9_feed_28 (fun v9 w9 H locs hq X => ?_)
    obtain ⟨rfl, f_3, g_4, rfl, hT, hFr1, hGr1⟩ := hq
    have hFr : (∀ o j, ¬ (o = 2 ∧ j = 1) → f_3 o j = f o j) := fun o j h => (hFr1 o j h).trans (hFr o j h)
    have hGr : ∀ j, j ≠ 11 → g_4 j = g j := fun j h => (hGr1 j h).trans (hGr j h)
    refine lv_aload_n Fx.1 Fx.2.1 dX9_feed_31 rfl (lv_at hl 0 rfl) ?_
    refine gC_X9_19_0 Fx X dX9_feed_32 ?_
    refine lv_iload_n Fx.1 Fx.2.1 dX9_feed_35 rfl (lv_at hl 3 rfl) ?_
    refine r_callV (As := [.int (c9)]) (rest := []) hE Fx X (c_X7_append hE l (by exact hT) (by omega)) cV_X9_108 (recC_2 X) rfl rfl (Nat.le_of_ble_eq_true rfl) (by decide) hl.1 dX9_feed_36 (fun v9 w9 H locs hq X => ?_)
    obtain ⟨rfl, f_5, g_6, rfl, hT, hFr1, hGr1⟩ := hq
    have hFr : (∀ o j, ¬ (o = 2 ∧ j = 1) → f_5 o j = f o j) := fun o j h => (hFr1 o j h).trans (hFr o j h)
    have hGr : ∀ j, j ≠ 11 → g_6 j = g j := fun j h => (hGr1 j h).trans (hGr j h)
    refine lv_aload_n Fx.1 Fx.2.1 dX9_feed_39 rfl (lv_at hl 0 rfl) ?_
    refine gC_X9_19_0 Fx X dX9_feed_40 ?_
    refine lv_iload Fx.1 Fx.2.1 dX9_feed_43 (lv_at hl 4 rfl) ?_
    refine r_callV (As := [.int (d)]) (rest := []) hE Fx X (c_X7_append hE l (by exact hT) (by omega)) cV_X9_108 (recC_2 X) rfl rfl (Nat.le_of_ble_eq_true rfl) (by decide) hl.1 dX9_feed_45 (fun v9 w9 H locs hq X => ?_)
    obtain ⟨rfl, f_7, g_8, rfl, hT, hFr1, hGr1⟩ := hq
    have hFr : (∀ o j, ¬ (o = 2 ∧ j = 1) → f_7 o j = f o j) := fun o j h => (hFr1 o j h).trans (hFr o j h)
    have hGr : ∀ j, j ≠ 11 → g_8 j = g j := fun j h => (hGr1 j h).trans (hGr j h)
    refine lv_aload_n Fx.1 Fx.2.1 dX9_feed_48 rfl (lv_at hl 0 rfl) ?_
    refine gC_X9_19_0 Fx X dX9_feed_49 ?_
    refine lv_iload Fx.1 Fx.2.1 dX9_feed_52 (lv_at hl 5 rfl) ?_
    refine r_callV (As := [.int (e9)]) (rest := []) hE Fx X (c_X7_append hE l (by exact hT) (by omega)) cV_X9_108 (recC_2 X) rfl rfl (Nat.le_of_ble_eq_true rfl) (by decide) hl.1 dX9_feed_54 (fun v9 w9 H locs hq X => ?_)
    obtain ⟨rfl, f_9, g_10, rfl, hT, hFr1, hGr1⟩ := hq
    have hFr : (∀ o j, ¬ (o = 2 ∧ j = 1) → f_9 o j = f o j) := fun o j h => (hFr1 o j h).trans (hFr o j h)
    have hGr : ∀ j, j ≠ 11 → g_10 j = g j := fun j h => (hGr1 j h).trans (hGr j h)
    refine lv_aload_n Fx.1 Fx.2.1 dX9_feed_57 rfl (lv_at hl 0 rfl) ?_
    refine gC_X9_19_0 Fx X dX9_feed_58 ?_
    refine gC_X9_104_2 (x := (iI (((tn + 20 : Nat) : Int)))) Fx X (hT.1) dX9_feed_61 ?_
    exact r_iret Fx hr hlk X (by decide) dX9_feed_64 (Or.inl ⟨by omega, rfl, _, _, rfl, by rw [← tbA_5]; exact hT, hFr, hGr⟩)
  · refine k_iconst Fx dX9_feed_13 ?_
    exact r_iret Fx hr hlk X (by decide) dX9_feed_14 (Or.inr ⟨by omega, rfl, rfl⟩)

