theorem mlM_X5_52 : Cond.methodLink RX5 52 Lib.Math.min.name ∈ BG := by decide +kernel
def QuaP (q : Nat → Int) (f g : Nat → Nat → Int32) : Prop := f 8 5 = iI (q 0) ∧ f 8 6 = iI (q 1) ∧ (∀ n, n < 2 → g 25 n = iI (q (2 + n))) ∧ (∀ n, n < 2 → g 26 n = iI (q (4 + n))) ∧ (∀ n, n < 2 → g 27 n = iI (q (6 + n)))
def gN (q : Nat → Int) (n : Nat) (x : Int) : Int := (((q (2 + n) * x) * (q 6 + q 7)) - ((q (2 + n) * (q 0 - q 1)) * q (6 + n))) + (q (4 + n) * (q 6 + q 7))
def bgI (q : Nat → Int) (j : Nat) : Int := if aFb q j = -1 then 0 else aG q (aFb q j)
def JdC (q : Nat → Int) (j : Nat) (f : Nat → Nat → Int32) : Prop := f 8 1 = iI (aFn q j) ∧ f 8 2 = iI (aFf q j) ∧ f 8 3 = iI (aFl q j) ∧ f 8 4 = iI (aFb q j)
theorem jd_f {q : Nat → Int} {j : Nat} {f : Nat → Nat → Int32} (hg : ¬ 0 ≤ aG q (q 1 + j)) (h : JdC q j f) : JdC q (j + 1) f := by
  refine ⟨h.1.trans (congrArg iI (if_neg hg).symm), h.2.1.trans (congrArg iI (if_neg hg).symm), h.2.2.1.trans (congrArg iI (if_neg hg).symm), h.2.2.2.trans (congrArg iI (if_neg hg).symm)⟩
theorem bg_f {q : Nat → Int} {j : Nat} (hg : ¬ 0 ≤ aG q (q 1 + j)) : bgI q j = bgI q (j + 1) := by
  have e : aFb q (j + 1) = aFb q j := if_neg hg
  unfold bgI; rw [e]
theorem fb_n {q : Nat → Int} {j : Nat} (hg : 0 ≤ aG q (q 1 + j)) (h : aFb q j = -1 ∨ bgI q j < aG q (q 1 + j)) : aFb q (j + 1) = q 1 + j := by
  refine (if_pos hg).trans (if_pos ?_)
  by_cases c : aFb q j = -1
  · exact Or.inl c
  · refine Or.inr ?_
    rcases h with h | h
    · exact absurd h c
    · unfold bgI at h; rwa [if_neg c] at h
theorem fb_o {q : Nat → Int} {j : Nat} (hg : 0 ≤ aG q (q 1 + j)) (h : ¬ aFb q j = -1) (h2 : aG q (q 1 + j) ≤ bgI q j) : aFb q (j + 1) = aFb q j := by
  refine (if_pos hg).trans (if_neg ?_)
  unfold bgI at h2
  rw [if_neg h] at h2
  intro z
  rcases z with z | z
  · exact h z
  · omega
theorem bg_n {q : Nat → Int} {j : Nat} (h0 : 0 ≤ q 1) (h : aFb q (j + 1) = q 1 + j) : aG q (q 1 + j) = bgI q (j + 1) := by
  unfold bgI; rw [h, if_neg (by omega)]
theorem bg_o {q : Nat → Int} {j : Nat} (h : aFb q (j + 1) = aFb q j) : bgI q j = bgI q (j + 1) := by unfold bgI; rw [h]
theorem bg_b {q : Nat → Int} {j : Nat} (hq : qOk q) (hj : (j : Int) ≤ q 0 - q 1 + 1) : -10000000 ≤ bgI q j ∧ bgI q j ≤ 10000000 := by
  unfold bgI
  have h1 := hq.1; have h2 := hq.2.1
  have h := aFb_b q j
  split
  · omega
  · exact aG_b hq (by omega)

abbrev rm_X5_gainOf : Room := ({ frames := 0, cells := 0, slots := 0, locals := 0 } : Room)
set_option maxHeartbeats 4000000 in
set_option maxRecDepth 100000 in
theorem c_X5_gainOf {E : XX} (hE : XS E) (l : Launch) {Γ : GG} {ad : Nat → Nat} {ed : Nat} {f g : Nat → Nat → Int32} {tl : va_W} {q : Nat → Int} (hQ : QuaP q f g) {n : Nat} {x : Int} (hn : n < 2) : Con E l yX5_gainOf cX5_gainOf 4 (some .int) rm_X5_gainOf Γ (wC Γ ad ed f g tl) [.ref (ad 8), .int (iI (((n : Nat) : Int))), .int (iI (x))] (Qi (iI (gN q n x)) (wC Γ ad ed f g tl)) := by
  refine Con_mk (by decide) (Nat.le_of_ble_eq_true rfl) ?_
  intro p e s₀ m args below meth c A Fx hr hlk hnm X ls hl
  have hl : lv_has ls 4 [(0, .ref (ad 8)), (1, .int (iI (((n : Nat) : Int)))), (2, .int (iI (x)))] := hl
  refine lv_aload_n Fx.1 Fx.2.1 dX5_gainOf_0 rfl (lv_at hl 0 rfl) ?_
  refine gC_X5_41_8 Fx X dX5_gainOf_1 ?_
  refine k_iconst Fx dX5_gainOf_4 ?_
  refine ldC_27 (z := 0) (i := 0) (x := (iI (q (6 + 0)))) Fx X (rfl) (by omega) (hQ.2.2.2.2 0 (by omega)) dX5_gainOf_5 ?_
  refine lv_aload_n Fx.1 Fx.2.1 dX5_gainOf_6 rfl (lv_at hl 0 rfl) ?_
  refine gC_X5_41_8 Fx X dX5_gainOf_7 ?_
  refine k_iconst Fx dX5_gainOf_10 ?_
  refine ldC_27 (z := 1) (i := 1) (x := (iI (q (6 + 1)))) Fx X (rfl) (by omega) (hQ.2.2.2.2 1 (by omega)) dX5_gainOf_11 ?_
  refine k_iadd Fx dX5_gainOf_12 ?_
  refine lv_istore_n (lv' := [(3, .int (iI ((q (6 + 0) + q (6 + 1))))), (0, .ref (ad 8)), (1, .int (iI (((n : Nat) : Int)))), (2, .int (iI (x)))]) Fx.1 Fx.2.1 dX5_gainOf_13 rfl hl (by decide) rfl (fun ls hl => ?_)
  refine lv_aload_n Fx.1 Fx.2.1 dX5_gainOf_14 rfl (lv_at hl 1 rfl) ?_
  refine gC_X5_34_8 Fx X dX5_gainOf_15 ?_
  refine lv_iload_n Fx.1 Fx.2.1 dX5_gainOf_18 rfl (lv_at hl 2 rfl) ?_
  refine ldC_25 (z := ((n : Nat) : Int)) (i := n) (x := (iI (q (2 + n)))) Fx X (rfl) (by omega) (hQ.2.2.1 n (by omega)) dX5_gainOf_19 ?_
  refine lv_iload_n Fx.1 Fx.2.1 dX5_gainOf_20 rfl (lv_at hl 3 rfl) ?_
  refine k_imul Fx dX5_gainOf_21 ?_
  refine lv_iload_n Fx.1 Fx.2.1 dX5_gainOf_22 rfl (lv_at hl 0 rfl) ?_
  refine k_imul Fx dX5_gainOf_23 ?_
  refine lv_aload_n Fx.1 Fx.2.1 dX5_gainOf_24 rfl (lv_at hl 1 rfl) ?_
  refine gC_X5_34_8 Fx X dX5_gainOf_25 ?_
  refine lv_iload_n Fx.1 Fx.2.1 dX5_gainOf_28 rfl (lv_at hl 2 rfl) ?_
  refine ldC_25 (z := ((n : Nat) : Int)) (i := n) (x := (iI (q (2 + n)))) Fx X (rfl) (by omega) (hQ.2.2.1 n (by omega)) dX5_gainOf_29 ?_
  refine lv_aload_n Fx.1 Fx.2.1 dX5_gainOf_30 rfl (lv_at hl 1 rfl) ?_
  refine gC_X5_28_8 (x := (iI (q 0))) Fx X (hQ.1) dX5_gainOf_31 ?_
  refine lv_aload_n Fx.1 Fx.2.1 dX5_gainOf_34 rfl (lv_at hl 1 rfl) ?_
  refine gC_X5_31_8 (x := (iI (q 1))) Fx X (hQ.2.1) dX5_gainOf_35 ?_
  refine k_isub Fx dX5_gainOf_38 ?_
  refine k_imul Fx dX5_gainOf_39 ?_
  refine lv_aload_n Fx.1 Fx.2.1 dX5_gainOf_40 rfl (lv_at hl 1 rfl) ?_
  refine gC_X5_41_8 Fx X dX5_gainOf_41 ?_
  refine lv_iload_n Fx.1 Fx.2.1 dX5_gainOf_44 rfl (lv_at hl 2 rfl) ?_
  refine ldC_27 (z := ((n : Nat) : Int)) (i := n) (x := (iI (q (6 + n)))) Fx X (rfl) (by omega) (hQ.2.2.2.2 n (by omega)) dX5_gainOf_45 ?_
  refine k_imul Fx dX5_gainOf_46 ?_
  refine k_isub Fx dX5_gainOf_47 ?_
  refine lv_aload_n Fx.1 Fx.2.1 dX5_gainOf_48 rfl (lv_at hl 1 rfl) ?_
  refine gC_X5_38_8 Fx X dX5_gainOf_49 ?_
  refine lv_iload_n Fx.1 Fx.2.1 dX5_gainOf_52 rfl (lv_at hl 2 rfl) ?_
  refine ldC_26 (z := ((n : Nat) : Int)) (i := n) (x := (iI (q (4 + n)))) Fx X (rfl) (by omega) (hQ.2.2.2.1 n (by omega)) dX5_gainOf_53 ?_
  refine lv_iload_n Fx.1 Fx.2.1 dX5_gainOf_54 rfl (lv_at hl 0 rfl) ?_
  refine k_imul Fx dX5_gainOf_55 ?_
  refine k_iadd Fx dX5_gainOf_56 ?_
  exact r_iret Fx hr hlk X (by decide) dX5_gainOf_57 (Qi_mk rfl)

abbrev rm_X5_open : Room := ({ frames := 0, cells := 0, slots := 0, locals := 0 } : Room)
set_option maxHeartbeats 4000000 in
set_option maxRecDepth 100000 in
theorem c_X5_open {E : XX} (hE : XS E) (l : Launch) {Γ : GG} {ad : Nat → Nat} {ed : Nat} {f g : Nat → Nat → Int32} {tl : va_W} {a b : Int} : Con E l yX5_open cX5_open 3 none rm_X5_open Γ (wC Γ ad ed f g tl) [.ref (ad 8), .int (iI (a)), .int (iI (b))] (fun v w2 => v = none ∧ w2 = wC Γ ad ed (updA (updA (updA f 8 (upd (f 8) 0 (iI 1))) 8 (upd (updA f 8 (upd (f 8) 0 (iI 1)) 8) 5 (iI a))) 8 (upd (updA (updA f 8 (upd (f 8) 0 (iI 1))) 8 (upd (updA f 8 (upd (f 8) 0 (iI 1)) 8) 5 (iI a)) 8) 6 (iI b))) g tl) := by
  refine Con_mk (by decide) (Nat.le_of_ble_eq_true rfl) ?_
  intro p e s₀ m args below meth c A Fx hr hlk hnm X ls hl
  have hl : lv_has ls 3 [(0, .ref (ad 8)), (1, .int (iI (a))), (2, .int (iI (b)))] := hl
  refine lv_aload_n Fx.1 Fx.2.1 dX5_open_0 rfl (lv_at hl 0 rfl) ?_
  refine k_iconst Fx dX5_open_1 ?_
  refine pC_X5_9_8 Fx X rfl rfl dX5_open_2 (fun H locs X => ?_)
  refine lv_aload_n Fx.1 Fx.2.1 dX5_open_5 rfl (lv_at hl 0 rfl) ?_
  refine lv_iload_n Fx.1 Fx.2.1 dX5_open_6 rfl (lv_at hl 1 rfl) ?_
  refine pC_X5_28_8 Fx X dX5_open_7 (fun H locs X => ?_)
  refine lv_aload_n Fx.1 Fx.2.1 dX5_open_10 rfl (lv_at hl 0 rfl) ?_
  refine lv_iload_n Fx.1 Fx.2.1 dX5_open_11 rfl (lv_at hl 2 rfl) ?_
  refine pC_X5_31_8 Fx X dX5_open_12 (fun H locs X => ?_)
  exact r_vret Fx hr hlk X (by decide) dX5_open_15 (⟨rfl, rfl⟩)

abbrev rm_X5_setParty : Room := ({ frames := 0, cells := 0, slots := 0, locals := 0 } : Room)
set_option maxHeartbeats 4000000 in
set_option maxRecDepth 100000 in
theorem c_X5_setParty {E : XX} (hE : XS E) (l : Launch) {Γ : GG} {ad : Nat → Nat} {ed : Nat} {f g : Nat → Nat → Int32} {tl : va_W} {n : Nat} (hn : n < 2) {a b c9 : Int} : Con E l yX5_setParty cX5_setParty 5 none rm_X5_setParty Γ (wC Γ ad ed f g tl) [.ref (ad 8), .int (iI (((n : Nat) : Int))), .int (iI (a)), .int (iI (b)), .int (iI (c9))] (fun v w2 => v = none ∧ w2 = wC Γ ad ed f (updA (updA (updA g 25 (upd (g 25) n (iI (a)))) 26 (upd ((updA g 25 (upd (g 25) n (iI (a)))) 26) n (iI (b)))) 27 (upd ((updA (updA g 25 (upd (g 25) n (iI (a)))) 26 (upd ((updA g 25 (upd (g 25) n (iI (a)))) 26) n (iI (b)))) 27) n (iI (c9)))) tl) := by
  refine Con_mk (by decide) (Nat.le_of_ble_eq_true rfl) ?_
  intro p e s₀ m args below meth c A Fx hr hlk hnm X ls hl
  have hl : lv_has ls 5 [(0, .ref (ad 8)), (1, .int (iI (((n : Nat) : Int)))), (2, .int (iI (a))), (3, .int (iI (b))), (4, .int (iI (c9)))] := hl
  refine lv_aload_n Fx.1 Fx.2.1 dX5_setParty_0 rfl (lv_at hl 0 rfl) ?_
  refine gC_X5_34_8 Fx X dX5_setParty_1 ?_
  refine lv_iload_n Fx.1 Fx.2.1 dX5_setParty_4 rfl (lv_at hl 1 rfl) ?_
  refine lv_iload_n Fx.1 Fx.2.1 dX5_setParty_5 rfl (lv_at hl 2 rfl) ?_
  refine stC_25 (z := ((n : Nat) : Int)) (i := n) Fx X (rfl) (by omega) dX5_setParty_6 (fun H locs X => ?_)
  refine lv_aload_n Fx.1 Fx.2.1 dX5_setParty_7 rfl (lv_at hl 0 rfl) ?_
  refine gC_X5_38_8 Fx X dX5_setParty_8 ?_
  refine lv_iload_n Fx.1 Fx.2.1 dX5_setParty_11 rfl (lv_at hl 1 rfl) ?_
  refine lv_iload_n Fx.1 Fx.2.1 dX5_setParty_12 rfl (lv_at hl 3 rfl) ?_
  refine stC_26 (z := ((n : Nat) : Int)) (i := n) Fx X (rfl) (by omega) dX5_setParty_13 (fun H locs X => ?_)
  refine lv_aload_n Fx.1 Fx.2.1 dX5_setParty_14 rfl (lv_at hl 0 rfl) ?_
  refine gC_X5_41_8 Fx X dX5_setParty_15 ?_
  refine lv_iload_n Fx.1 Fx.2.1 dX5_setParty_18 rfl (lv_at hl 1 rfl) ?_
  refine lv_iload Fx.1 Fx.2.1 dX5_setParty_19 (lv_at hl 4 rfl) ?_
  refine stC_27 (z := ((n : Nat) : Int)) (i := n) Fx X (rfl) (by omega) dX5_setParty_21 (fun H locs X => ?_)
  exact r_vret Fx hr hlk X (by decide) dX5_setParty_22 (⟨rfl, rfl⟩)

abbrev rm_X5_judge : Room := ({ frames := 1, cells := 0, slots := 0, locals := 23 } : Room)
set_option maxHeartbeats 4000000 in
set_option maxRecDepth 100000 in
theorem c_X5_judge {E : XX} (hE : XS E) (l : Launch) {Γ : GG} {ad : Nat → Nat} {ed : Nat} {f g : Nat → Nat → Int32} {tl : va_W} {q : Nat → Int} (hQ : QuaP q f g) (hq : qOk q) : Con E l yX5_judge cX5_judge 4 none rm_X5_judge Γ (wC Γ ad ed f g tl) [.ref (ad 8)] (fun v w2 => v = none ∧ ∃ f1, w2 = wC Γ ad ed f1 g tl ∧ JdC q (q 0 - q 1 + 1).toNat f1 ∧ (∀ o k, ¬ (o = 8 ∧ 1 ≤ k ∧ k ≤ 4) → f1 o k = f o k)) := by
  refine Con_mk (by decide) (Nat.le_of_ble_eq_true rfl) ?_
  intro p e s₀ m args below meth c A Fx hr hlk hnm X ls hl
  have hl : lv_has ls 4 [(0, .ref (ad 8))] := hl
  have hq1 := hq.1
  have hq2 := hq.2.1
  have hq3 := hq.2.2.1
  refine lv_aload_n Fx.1 Fx.2.1 dX5_judge_0 rfl (lv_at hl 0 rfl) ?_
  refine k_iconst Fx dX5_judge_1 ?_
  refine pC_X5_15_8 Fx X dX5_judge_2 (fun H locs X => ?_)
  refine lv_aload_n Fx.1 Fx.2.1 dX5_judge_5 rfl (lv_at hl 0 rfl) ?_
  refine k_iconst Fx dX5_judge_6 ?_
  refine pC_X5_19_8 Fx X dX5_judge_7 (fun H locs X => ?_)
  refine lv_aload_n Fx.1 Fx.2.1 dX5_judge_10 rfl (lv_at hl 0 rfl) ?_
  refine k_iconst Fx dX5_judge_11 ?_
  refine pC_X5_22_8 Fx X dX5_judge_12 (fun H locs X => ?_)
  refine lv_aload_n Fx.1 Fx.2.1 dX5_judge_15 rfl (lv_at hl 0 rfl) ?_
  refine k_iconst Fx dX5_judge_16 ?_
  refine pC_X5_25_8 Fx X dX5_judge_17 (fun H locs X => ?_)
  refine k_iconst Fx dX5_judge_20 ?_
  refine lv_istore_n (lv' := [(1, .int (iI (0))), (0, .ref (ad 8))]) Fx.1 Fx.2.1 dX5_judge_21 rfl hl (by decide) rfl (fun ls hl => ?_)
  refine lv_aload_n Fx.1 Fx.2.1 dX5_judge_22 rfl (lv_at hl 1 rfl) ?_
  refine gC_X5_31_8 (x := (iI (q 1))) Fx X (hQ.2.1) dX5_judge_23 ?_
  refine lv_istore_n (lv' := [(2, .int (iI (q 1))), (1, .int (iI (0))), (0, .ref (ad 8))]) Fx.1 Fx.2.1 dX5_judge_26 rfl hl (by decide) rfl (fun ls hl => ?_)
  have lp_27 : ∀ (nn : Nat) (j : Nat) (f2 : Nat → Nat → Int32), (q 0 - q 1 + 1).toNat - j < nn → (((j : Nat) : Int) ≤ q 0 - q 1 + 1) → (QuaP q f2 g) → (JdC q j f2) → (∀ o k, ¬ (o = 8 ∧ 1 ≤ k ∧ k ≤ 4) → f2 o k = f o k) → ∀ (H : Heap) (locs : List Loc) (ls : Array Slot), Wd E Γ A s₀ H locs (wC Γ ad ed f2 g tl) → lv_has ls 4 [(0, .ref (ad 8)), (1, .int (iI (bgI q j))), (2, .int (iI ((q 1 + ((j : Nat) : Int)))))] → W p l e rm_X5_judge s₀ m args below meth c H locs (0) (0) (RQ below args s₀ Γ A (fun v w2 => v = none ∧ ∃ f1, w2 = wC Γ ad ed f1 g tl ∧ JdC q (q 0 - q 1 + 1).toNat f1 ∧ (∀ o k, ¬ (o = 8 ∧ 1 ≤ k ∧ k ≤ 4) → f1 o k = f o k)) rm_X5_judge) (F0 m 27 ls []) := by
    intro nn
    induction nn with
    | zero => intro j f2 hmu; exact absurd hmu (Nat.not_lt_zero _)
    | succ nn ih =>
      intro j f2 hmu hj hQ hJ hFr H locs ls X hl
      have ih_27 := ih
      refine lv_iload_n Fx.1 Fx.2.1 dX5_judge_27 rfl (lv_at hl 2 rfl) ?_
      refine lv_aload_n Fx.1 Fx.2.1 dX5_judge_28 rfl (lv_at hl 0 rfl) ?_
      refine gC_X5_28_8 (x := (iI (q 0))) Fx X (hQ.1) dX5_judge_29 ?_
      refine k_icmp_gt (a := (q 1 + ((j : Nat) : Int))) (b := q 0) (tgt := 126) Fx dX5_judge_32 (by decide) (by omega) (by omega) (fun c_32 => ?_) (fun c_32 => ?_)
      · exact r_vret Fx hr hlk X (by decide) dX5_judge_126 (⟨rfl, _, rfl, (show j = (q 0 - q 1 + 1).toNat by omega) ▸ hJ, hFr⟩)
      · have e1 := aFn_b q j
        have e2 := aFf_b q j
        have e4 := aFb_b q j
        have hbg := bg_b (j := j) hq hj
        refine lv_aload_n Fx.1 Fx.2.1 dX5_judge_35 rfl (lv_at hl 0 rfl) ?_
        refine k_iconst Fx dX5_judge_36 ?_
        refine lv_iload_n Fx.1 Fx.2.1 dX5_judge_37 rfl (lv_at hl 2 rfl) ?_
        refine lv_aload_n Fx.1 Fx.2.1 dX5_judge_38 rfl (lv_at hl 0 rfl) ?_
        refine gC_X5_31_8 (x := (iI (q 1))) Fx X (hQ.2.1) dX5_judge_39 ?_
        refine k_isub Fx dX5_judge_42 ?_
        refine r_callVi (As := [.int (iI (0)), .int (iI (((q 1 + ((j : Nat) : Int)) - q 1)))]) (rest := []) hE Fx X (c_X5_gainOf hE l (by exact hQ) (n := 0) (x := ((q 1 + ((j : Nat) : Int)) - q 1)) (by omega)) cV_X5_48 (recC_8 X) rfl rfl (Nat.le_of_ble_eq_true rfl) (by decide) hl.1 dX5_judge_43 (fun H locs X => ?_)
        have hg0 : gN q 0 (q 1 + ((j : Nat) : Int) - q 1) = aG0 q (q 1 + ((j : Nat) : Int)) := rfl
        have hgb0 := aG0_b hq (f := q 1 + ((j : Nat) : Int)) (by omega)
        refine lv_aload_n Fx.1 Fx.2.1 dX5_judge_46 rfl (lv_at hl 0 rfl) ?_
        refine k_iconst Fx dX5_judge_47 ?_
        refine lv_aload_n Fx.1 Fx.2.1 dX5_judge_48 rfl (lv_at hl 0 rfl) ?_
        refine gC_X5_28_8 (x := (iI (q 0))) Fx X (hQ.1) dX5_judge_49 ?_
        refine lv_iload_n Fx.1 Fx.2.1 dX5_judge_52 rfl (lv_at hl 2 rfl) ?_
        refine k_isub Fx dX5_judge_53 ?_
        refine r_callVi (As := [.int (iI (1)), .int (iI ((q 0 - (q 1 + ((j : Nat) : Int)))))]) (rest := [.int (iI (gN q 0 ((q 1 + ((j : Nat) : Int)) - q 1)))]) hE Fx X (c_X5_gainOf hE l (by exact hQ) (n := 1) (x := (q 0 - (q 1 + ((j : Nat) : Int)))) (by omega)) cV_X5_48 (recC_8 X) rfl rfl (Nat.le_of_ble_eq_true rfl) (by decide) hl.1 dX5_judge_54 (fun H locs X => ?_)
        have hg1 : gN q 1 (q 0 - (q 1 + ((j : Nat) : Int))) = aG1 q (q 1 + ((j : Nat) : Int)) := rfl
        have hgb1 := aG1_b hq (f := q 1 + ((j : Nat) : Int)) (by omega)
        refine r_min (a := gN q 0 ((q 1 + ((j : Nat) : Int)) - q 1)) (b := gN q 1 (q 0 - (q 1 + ((j : Nat) : Int)))) Fx mlM_X5_52 (by omega) (by omega) hl.1 (by decide) (Nat.le_of_ble_eq_true rfl) (by decide) (by decide) dX5_judge_57 ?_
        refine k_cg (show (iI ((if gN q 1 (q 0 - (q 1 + ((j : Nat) : Int))) < gN q 0 ((q 1 + ((j : Nat) : Int)) - q 1) then gN q 1 (q 0 - (q 1 + ((j : Nat) : Int))) else gN q 0 ((q 1 + ((j : Nat) : Int)) - q 1)))) = (iI (aG q (q 1 + ((j : Nat) : Int)))) from congrArg iI (show _ = aG q (q 1 + ((j : Nat) : Int)) by unfold aG; rw [hg0, hg1]; (repeat' split) <;> omega)) ?_
        have hgb := aG_b hq (f := q 1 + ((j : Nat) : Int)) (by omega)
        refine lv_istore_n (lv' := [(3, .int (iI (aG q (q 1 + ((j : Nat) : Int))))), (0, .ref (ad 8)), (1, .int (iI (bgI q j))), (2, .int (iI ((q 1 + ((j : Nat) : Int)))))]) Fx.1 Fx.2.1 dX5_judge_60 rfl hl (by decide) rfl (fun ls hl => ?_)
        refine lv_iload_n Fx.1 Fx.2.1 dX5_judge_61 rfl (lv_at hl 0 rfl) ?_
        refine k_if_lt (a := aG q (q 1 + ((j : Nat) : Int))) (tgt := 120) Fx dX5_judge_62 (by decide) (by omega) (fun c_62 => ?_) (fun c_62 => ?_)
        · refine k_iinc (k := 3) (a := (q 1 + ((j : Nat) : Int))) (lv' := [(2, .int (iI (((q 1 + ((j : Nat) : Int)) + 1)))), (3, .int (iI (aG q (q 1 + ((j : Nat) : Int))))), (0, .ref (ad 8)), (1, .int (iI (bgI q j)))]) Fx dX5_judge_120 hl rfl (by decide) rfl (fun ls hl => ?_)
          refine lv_goto (tgt := 27) Fx.1 Fx.2.1 dX5_judge_123 (by decide) ?_
          have hl_1 := lv_rp hl 3 rfl (show (iI (bgI q j)) = (iI (bgI q (j + 1))) from congrArg iI (bg_f (by omega)))
          have hl_2 := lv_rp hl_1 0 rfl (show (iI (((q 1 + ((j : Nat) : Int)) + 1))) = (iI ((q 1 + (((j + 1) : Nat) : Int)))) from congrArg iI (by omega))
          exact ih_27 (j + 1) (f2) (by omega) (by omega) (hQ) (jd_f (by omega) hJ) (hFr) _ _ _ X (lv_sub hl_2 [2, 3, 0] rfl)
        · refine lv_aload_n Fx.1 Fx.2.1 dX5_judge_65 rfl (lv_at hl 1 rfl) ?_
          refine lv_dup Fx.1 Fx.2.1 dX5_judge_66 rfl ?_
          refine gC_X5_15_8 (x := (iI (aFn q j))) Fx X (hJ.1) dX5_judge_67 ?_
          refine k_iconst Fx dX5_judge_70 ?_
          refine k_iadd Fx dX5_judge_71 ?_
          refine pC_X5_15_8 Fx X dX5_judge_72 (fun H locs X => ?_)
          refine lv_aload_n Fx.1 Fx.2.1 dX5_judge_75 rfl (lv_at hl 1 rfl) ?_
          refine lv_aload_n Fx.1 Fx.2.1 dX5_judge_76 rfl (lv_at hl 1 rfl) ?_
          refine gC_X5_19_8 (x := (iI (aFf q j))) Fx X (hJ.2.1) dX5_judge_77 ?_
          refine k_iconst Fx dX5_judge_80 ?_
          refine k_icmp_ne (a := aFf q j) (b := (-1)) (tgt := 88) Fx dX5_judge_81 (by decide) (by omega) (by omega) (fun c_81 => ?_) (fun c_81 => ?_)
          · refine lv_aload_n Fx.1 Fx.2.1 dX5_judge_88 rfl (lv_at hl 1 rfl) ?_
            refine gC_X5_19_8 (x := (iI (aFf q j))) Fx X (hJ.2.1) dX5_judge_89 ?_
            refine pC_X5_19_8 Fx X dX5_judge_92 (fun H locs X => ?_)
            refine lv_aload_n Fx.1 Fx.2.1 dX5_judge_95 rfl (lv_at hl 1 rfl) ?_
            refine lv_iload_n Fx.1 Fx.2.1 dX5_judge_96 rfl (lv_at hl 3 rfl) ?_
            refine pC_X5_22_8 Fx X dX5_judge_97 (fun H locs X => ?_)
            refine lv_aload_n Fx.1 Fx.2.1 dX5_judge_100 rfl (lv_at hl 1 rfl) ?_
            refine gC_X5_25_8 (x := (iI (aFb q j))) Fx X (hJ.2.2.2) dX5_judge_101 ?_
            refine k_iconst Fx dX5_judge_104 ?_
            refine k_icmp_eq (a := aFb q j) (b := (-1)) (tgt := 113) Fx dX5_judge_105 (by decide) (by omega) (by omega) (fun c_105 => ?_) (fun c_105 => ?_)
            · refine lv_iload_n Fx.1 Fx.2.1 dX5_judge_113 rfl (lv_at hl 0 rfl) ?_
              refine lv_istore_n (lv' := [(1, .int (iI (aG q (q 1 + ((j : Nat) : Int))))), (3, .int (iI (aG q (q 1 + ((j : Nat) : Int))))), (0, .ref (ad 8)), (2, .int (iI ((q 1 + ((j : Nat) : Int)))))]) Fx.1 Fx.2.1 dX5_judge_114 rfl hl (by decide) rfl (fun ls hl => ?_)
              refine lv_aload_n Fx.1 Fx.2.1 dX5_judge_115 rfl (lv_at hl 2 rfl) ?_
              refine lv_iload_n Fx.1 Fx.2.1 dX5_judge_116 rfl (lv_at hl 3 rfl) ?_
              refine pC_X5_25_8 Fx X dX5_judge_117 (fun H locs X => ?_)
              refine k_iinc (k := 3) (a := (q 1 + ((j : Nat) : Int))) (lv' := [(2, .int (iI (((q 1 + ((j : Nat) : Int)) + 1)))), (1, .int (iI (aG q (q 1 + ((j : Nat) : Int))))), (3, .int (iI (aG q (q 1 + ((j : Nat) : Int))))), (0, .ref (ad 8))]) Fx dX5_judge_120 hl rfl (by decide) rfl (fun ls hl => ?_)
              refine lv_goto (tgt := 27) Fx.1 Fx.2.1 dX5_judge_123 (by decide) ?_
              have hl_3 := lv_rp hl 1 rfl (show (iI (aG q (q 1 + ((j : Nat) : Int)))) = (iI (bgI q (j + 1))) from congrArg iI (bg_n (by omega) (fb_n c_62 (Or.inl c_105))))
              have hl_4 := lv_rp hl_3 0 rfl (show (iI (((q 1 + ((j : Nat) : Int)) + 1))) = (iI ((q 1 + (((j + 1) : Nat) : Int)))) from congrArg iI (by omega))
              exact ih_27 (j + 1) ((updA (updA (updA (updA f2 8 (upd (f2 8) 1 (iI ((aFn q j + 1))))) 8 (upd ((updA f2 8 (upd (f2 8) 1 (iI ((aFn q j + 1))))) 8) 2 (iI (aFf q j)))) 8 (upd ((updA (updA f2 8 (upd (f2 8) 1 (iI ((aFn q j + 1))))) 8 (upd ((updA f2 8 (upd (f2 8) 1 (iI ((aFn q j + 1))))) 8) 2 (iI (aFf q j)))) 8) 3 (iI ((q 1 + ((j : Nat) : Int)))))) 8 (upd ((updA (updA (updA f2 8 (upd (f2 8) 1 (iI ((aFn q j + 1))))) 8 (upd ((updA f2 8 (upd (f2 8) 1 (iI ((aFn q j + 1))))) 8) 2 (iI (aFf q j)))) 8 (upd ((updA (updA f2 8 (upd (f2 8) 1 (iI ((aFn q j + 1))))) 8 (upd ((updA f2 8 (upd (f2 8) 1 (iI ((aFn q j + 1))))) 8) 2 (iI (aFf q j)))) 8) 3 (iI ((q 1 + ((j : Nat) : Int)))))) 8) 4 (iI ((q 1 + ((j : Nat) : Int))))))) (by omega) (by omega) (hQ) (⟨congrArg iI (if_pos c_62).symm, congrArg iI ((if_pos c_62).trans (if_neg c_81)).symm, congrArg iI (if_pos c_62).symm, congrArg iI (fb_n c_62 (Or.inl c_105)).symm⟩) (fun o k h => ((((frF (by omega)).trans (frF (by omega))).trans (frF (by omega))).trans (frF (by omega))).trans (hFr o k h)) _ _ _ X (lv_sub hl_4 [3, 1, 0] rfl)
            · refine lv_iload_n Fx.1 Fx.2.1 dX5_judge_108 rfl (lv_at hl 0 rfl) ?_
              refine lv_iload_n Fx.1 Fx.2.1 dX5_judge_109 rfl (lv_at hl 2 rfl) ?_
              refine k_icmp_le (a := aG q (q 1 + ((j : Nat) : Int))) (b := bgI q j) (tgt := 120) Fx dX5_judge_110 (by decide) (by omega) (by omega) (fun c_110 => ?_) (fun c_110 => ?_)
              · refine k_iinc (k := 3) (a := (q 1 + ((j : Nat) : Int))) (lv' := [(2, .int (iI (((q 1 + ((j : Nat) : Int)) + 1)))), (3, .int (iI (aG q (q 1 + ((j : Nat) : Int))))), (0, .ref (ad 8)), (1, .int (iI (bgI q j)))]) Fx dX5_judge_120 hl rfl (by decide) rfl (fun ls hl => ?_)
                refine lv_goto (tgt := 27) Fx.1 Fx.2.1 dX5_judge_123 (by decide) ?_
                have hl_5 := lv_rp hl 3 rfl (show (iI (bgI q j)) = (iI (bgI q (j + 1))) from congrArg iI (bg_o (fb_o c_62 c_105 c_110)))
                have hl_6 := lv_rp hl_5 0 rfl (show (iI (((q 1 + ((j : Nat) : Int)) + 1))) = (iI ((q 1 + (((j + 1) : Nat) : Int)))) from congrArg iI (by omega))
                exact ih_27 (j + 1) ((updA (updA (updA f2 8 (upd (f2 8) 1 (iI ((aFn q j + 1))))) 8 (upd ((updA f2 8 (upd (f2 8) 1 (iI ((aFn q j + 1))))) 8) 2 (iI (aFf q j)))) 8 (upd ((updA (updA f2 8 (upd (f2 8) 1 (iI ((aFn q j + 1))))) 8 (upd ((updA f2 8 (upd (f2 8) 1 (iI ((aFn q j + 1))))) 8) 2 (iI (aFf q j)))) 8) 3 (iI ((q 1 + ((j : Nat) : Int))))))) (by omega) (by omega) (hQ) (⟨congrArg iI (if_pos c_62).symm, congrArg iI ((if_pos c_62).trans (if_neg c_81)).symm, congrArg iI (if_pos c_62).symm, hJ.2.2.2.trans (congrArg iI (fb_o c_62 c_105 c_110).symm)⟩) (fun o k h => (((frF (by omega)).trans (frF (by omega))).trans (frF (by omega))).trans (hFr o k h)) _ _ _ X (lv_sub hl_6 [2, 3, 0] rfl)
              · refine lv_iload_n Fx.1 Fx.2.1 dX5_judge_113 rfl (lv_at hl 0 rfl) ?_
                refine lv_istore_n (lv' := [(1, .int (iI (aG q (q 1 + ((j : Nat) : Int))))), (3, .int (iI (aG q (q 1 + ((j : Nat) : Int))))), (0, .ref (ad 8)), (2, .int (iI ((q 1 + ((j : Nat) : Int)))))]) Fx.1 Fx.2.1 dX5_judge_114 rfl hl (by decide) rfl (fun ls hl => ?_)
                refine lv_aload_n Fx.1 Fx.2.1 dX5_judge_115 rfl (lv_at hl 2 rfl) ?_
                refine lv_iload_n Fx.1 Fx.2.1 dX5_judge_116 rfl (lv_at hl 3 rfl) ?_
                refine pC_X5_25_8 Fx X dX5_judge_117 (fun H locs X => ?_)
                refine k_iinc (k := 3) (a := (q 1 + ((j : Nat) : Int))) (lv' := [(2, .int (iI (((q 1 + ((j : Nat) : Int)) + 1)))), (1, .int (iI (aG q (q 1 + ((j : Nat) : Int))))), (3, .int (iI (aG q (q 1 + ((j : Nat) : Int))))), (0, .ref (ad 8))]) Fx dX5_judge_120 hl rfl (by decide) rfl (fun ls hl => ?_)
                refine lv_goto (tgt := 27) Fx.1 Fx.2.1 dX5_judge_123 (by decide) ?_
                have hl_7 := lv_rp hl 1 rfl (show (iI (aG q (q 1 + ((j : Nat) : Int)))) = (iI (bgI q (j + 1))) from congrArg iI (bg_n (by omega) (fb_n c_62 (Or.inr c_110))))
                have hl_8 := lv_rp hl_7 0 rfl (show (iI (((q 1 + ((j : Nat) : Int)) + 1))) = (iI ((q 1 + (((j + 1) : Nat) : Int)))) from congrArg iI (by omega))
                exact ih_27 (j + 1) ((updA (updA (updA (updA f2 8 (upd (f2 8) 1 (iI ((aFn q j + 1))))) 8 (upd ((updA f2 8 (upd (f2 8) 1 (iI ((aFn q j + 1))))) 8) 2 (iI (aFf q j)))) 8 (upd ((updA (updA f2 8 (upd (f2 8) 1 (iI ((aFn q j + 1))))) 8 (upd ((updA f2 8 (upd (f2 8) 1 (iI ((aFn q j + 1))))) 8) 2 (iI (aFf q j)))) 8) 3 (iI ((q 1 + ((j : Nat) : Int)))))) 8 (upd ((updA (updA (updA f2 8 (upd (f2 8) 1 (iI ((aFn q j + 1))))) 8 (upd ((updA f2 8 (upd (f2 8) 1 (iI ((aFn q j + 1))))) 8) 2 (iI (aFf q j)))) 8 (upd ((updA (updA f2 8 (upd (f2 8) 1 (iI ((aFn q j + 1))))) 8 (upd ((updA f2 8 (upd (f2 8) 1 (iI ((aFn q j + 1))))) 8) 2 (iI (aFf q j)))) 8) 3 (iI ((q 1 + ((j : Nat) : Int)))))) 8) 4 (iI ((q 1 + ((j : Nat) : Int))))))) (by omega) (by omega) (hQ) (⟨congrArg iI (if_pos c_62).symm, congrArg iI ((if_pos c_62).trans (if_neg c_81)).symm, congrArg iI (if_pos c_62).symm, congrArg iI (fb_n c_62 (Or.inr c_110)).symm⟩) (fun o k h => ((((frF (by omega)).trans (frF (by omega))).trans (frF (by omega))).trans (frF (by omega))).trans (hFr o k h)) _ _ _ X (lv_sub hl_8 [3, 1, 0] rfl)
          · refine lv_iload_n Fx.1 Fx.2.1 dX5_judge_84 rfl (lv_at hl 3 rfl) ?_
            refine lv_goto (tgt := 92) Fx.1 Fx.2.1 dX5_judge_85 (by decide) ?_
            refine pC_X5_19_8 Fx X dX5_judge_92 (fun H locs X => ?_)
            refine lv_aload_n Fx.1 Fx.2.1 dX5_judge_95 rfl (lv_at hl 1 rfl) ?_
            refine lv_iload_n Fx.1 Fx.2.1 dX5_judge_96 rfl (lv_at hl 3 rfl) ?_
            refine pC_X5_22_8 Fx X dX5_judge_97 (fun H locs X => ?_)
            refine lv_aload_n Fx.1 Fx.2.1 dX5_judge_100 rfl (lv_at hl 1 rfl) ?_
            refine gC_X5_25_8 (x := (iI (aFb q j))) Fx X (hJ.2.2.2) dX5_judge_101 ?_
            refine k_iconst Fx dX5_judge_104 ?_
            refine k_icmp_eq (a := aFb q j) (b := (-1)) (tgt := 113) Fx dX5_judge_105 (by decide) (by omega) (by omega) (fun c_105 => ?_) (fun c_105 => ?_)
            · refine lv_iload_n Fx.1 Fx.2.1 dX5_judge_113 rfl (lv_at hl 0 rfl) ?_
              refine lv_istore_n (lv' := [(1, .int (iI (aG q (q 1 + ((j : Nat) : Int))))), (3, .int (iI (aG q (q 1 + ((j : Nat) : Int))))), (0, .ref (ad 8)), (2, .int (iI ((q 1 + ((j : Nat) : Int)))))]) Fx.1 Fx.2.1 dX5_judge_114 rfl hl (by decide) rfl (fun ls hl => ?_)
              refine lv_aload_n Fx.1 Fx.2.1 dX5_judge_115 rfl (lv_at hl 2 rfl) ?_
              refine lv_iload_n Fx.1 Fx.2.1 dX5_judge_116 rfl (lv_at hl 3 rfl) ?_
              refine pC_X5_25_8 Fx X dX5_judge_117 (fun H locs X => ?_)
              refine k_iinc (k := 3) (a := (q 1 + ((j : Nat) : Int))) (lv' := [(2, .int (iI (((q 1 + ((j : Nat) : Int)) + 1)))), (1, .int (iI (aG q (q 1 + ((j : Nat) : Int))))), (3, .int (iI (aG q (q 1 + ((j : Nat) : Int))))), (0, .ref (ad 8))]) Fx dX5_judge_120 hl rfl (by decide) rfl (fun ls hl => ?_)
              refine lv_goto (tgt := 27) Fx.1 Fx.2.1 dX5_judge_123 (by decide) ?_
              have hl_9 := lv_rp hl 1 rfl (show (iI (aG q (q 1 + ((j : Nat) : Int)))) = (iI (bgI q (j + 1))) from congrArg iI (bg_n (by omega) (fb_n c_62 (Or.inl c_105))))
              have hl_10 := lv_rp hl_9 0 rfl (show (iI (((q 1 + ((j : Nat) : Int)) + 1))) = (iI ((q 1 + (((j + 1) : Nat) : Int)))) from congrArg iI (by omega))
              exact ih_27 (j + 1) ((updA (updA (updA (updA f2 8 (upd (f2 8) 1 (iI ((aFn q j + 1))))) 8 (upd ((updA f2 8 (upd (f2 8) 1 (iI ((aFn q j + 1))))) 8) 2 (iI ((q 1 + ((j : Nat) : Int)))))) 8 (upd ((updA (updA f2 8 (upd (f2 8) 1 (iI ((aFn q j + 1))))) 8 (upd ((updA f2 8 (upd (f2 8) 1 (iI ((aFn q j + 1))))) 8) 2 (iI ((q 1 + ((j : Nat) : Int)))))) 8) 3 (iI ((q 1 + ((j : Nat) : Int)))))) 8 (upd ((updA (updA (updA f2 8 (upd (f2 8) 1 (iI ((aFn q j + 1))))) 8 (upd ((updA f2 8 (upd (f2 8) 1 (iI ((aFn q j + 1))))) 8) 2 (iI ((q 1 + ((j : Nat) : Int)))))) 8 (upd ((updA (updA f2 8 (upd (f2 8) 1 (iI ((aFn q j + 1))))) 8 (upd ((updA f2 8 (upd (f2 8) 1 (iI ((aFn q j + 1))))) 8) 2 (iI ((q 1 + ((j : Nat) : Int)))))) 8) 3 (iI ((q 1 + ((j : Nat) : Int)))))) 8) 4 (iI ((q 1 + ((j : Nat) : Int))))))) (by omega) (by omega) (hQ) (⟨congrArg iI (if_pos c_62).symm, congrArg iI ((if_pos c_62).trans (if_pos c_81)).symm, congrArg iI (if_pos c_62).symm, congrArg iI (fb_n c_62 (Or.inl c_105)).symm⟩) (fun o k h => ((((frF (by omega)).trans (frF (by omega))).trans (frF (by omega))).trans (frF (by omega))).trans (hFr o k h)) _ _ _ X (lv_sub hl_10 [3, 1, 0] rfl)
            · refine lv_iload_n Fx.1 Fx.2.1 dX5_judge_108 rfl (lv_at hl 0 rfl) ?_
              refine lv_iload_n Fx.1 Fx.2.1 dX5_judge_109 rfl (lv_at hl 2 rfl) ?_
              refine k_icmp_le (a := aG q (q 1 + ((j : Nat) : Int))) (b := bgI q j) (tgt := 120) Fx dX5_judge_110 (by decide) (by omega) (by omega) (fun c_110 => ?_) (fun c_110 => ?_)
              · refine k_iinc (k := 3) (a := (q 1 + ((j : Nat) : Int))) (lv' := [(2, .int (iI (((q 1 + ((j : Nat) : Int)) + 1)))), (3, .int (iI (aG q (q 1 + ((j : Nat) : Int))))), (0, .ref (ad 8)), (1, .int (iI (bgI q j)))]) Fx dX5_judge_120 hl rfl (by decide) rfl (fun ls hl => ?_)
                refine lv_goto (tgt := 27) Fx.1 Fx.2.1 dX5_judge_123 (by decide) ?_
                have hl_11 := lv_rp hl 3 rfl (show (iI (bgI q j)) = (iI (bgI q (j + 1))) from congrArg iI (bg_o (fb_o c_62 c_105 c_110)))
                have hl_12 := lv_rp hl_11 0 rfl (show (iI (((q 1 + ((j : Nat) : Int)) + 1))) = (iI ((q 1 + (((j + 1) : Nat) : Int)))) from congrArg iI (by omega))
                exact ih_27 (j + 1) ((updA (updA (updA f2 8 (upd (f2 8) 1 (iI ((aFn q j + 1))))) 8 (upd ((updA f2 8 (upd (f2 8) 1 (iI ((aFn q j + 1))))) 8) 2 (iI ((q 1 + ((j : Nat) : Int)))))) 8 (upd ((updA (updA f2 8 (upd (f2 8) 1 (iI ((aFn q j + 1))))) 8 (upd ((updA f2 8 (upd (f2 8) 1 (iI ((aFn q j + 1))))) 8) 2 (iI ((q 1 + ((j : Nat) : Int)))))) 8) 3 (iI ((q 1 + ((j : Nat) : Int))))))) (by omega) (by omega) (hQ) (⟨congrArg iI (if_pos c_62).symm, congrArg iI ((if_pos c_62).trans (if_pos c_81)).symm, congrArg iI (if_pos c_62).symm, hJ.2.2.2.trans (congrArg iI (fb_o c_62 c_105 c_110).symm)⟩) (fun o k h => (((frF (by omega)).trans (frF (by omega))).trans (frF (by omega))).trans (hFr o k h)) _ _ _ X (lv_sub hl_12 [2, 3, 0] rfl)
              · refine lv_iload_n Fx.1 Fx.2.1 dX5_judge_113 rfl (lv_at hl 0 rfl) ?_
                refine lv_istore_n (lv' := [(1, .int (iI (aG q (q 1 + ((j : Nat) : Int))))), (3, .int (iI (aG q (q 1 + ((j : Nat) : Int))))), (0, .ref (ad 8)), (2, .int (iI ((q 1 + ((j : Nat) : Int)))))]) Fx.1 Fx.2.1 dX5_judge_114 rfl hl (by decide) rfl (fun ls hl => ?_)
                refine lv_aload_n Fx.1 Fx.2.1 dX5_judge_115 rfl (lv_at hl 2 rfl) ?_
                refine lv_iload_n Fx.1 Fx.2.1 dX5_judge_116 rfl (lv_at hl 3 rfl) ?_
                refine pC_X5_25_8 Fx X dX5_judge_117 (fun H locs X => ?_)
                refine k_iinc (k := 3) (a := (q 1 + ((j : Nat) : Int))) (lv' := [(2, .int (iI (((q 1 + ((j : Nat) : Int)) + 1)))), (1, .int (iI (aG q (q 1 + ((j : Nat) : Int))))), (3, .int (iI (aG q (q 1 + ((j : Nat) : Int))))), (0, .ref (ad 8))]) Fx dX5_judge_120 hl rfl (by decide) rfl (fun ls hl => ?_)
                refine lv_goto (tgt := 27) Fx.1 Fx.2.1 dX5_judge_123 (by decide) ?_
                have hl_13 := lv_rp hl 1 rfl (show (iI (aG q (q 1 + ((j : Nat) : Int)))) = (iI (bgI q (j + 1))) from congrArg iI (bg_n (by omega) (fb_n c_62 (Or.inr c_110))))
                have hl_14 := lv_rp hl_13 0 rfl (show (iI (((q 1 + ((j : Nat) : Int)) + 1))) = (iI ((q 1 + (((j + 1) : Nat) : Int)))) from congrArg iI (by omega))
                exact ih_27 (j + 1) ((updA (updA (updA (updA f2 8 (upd (f2 8) 1 (iI ((aFn q j + 1))))) 8 (upd ((updA f2 8 (upd (f2 8) 1 (iI ((aFn q j + 1))))) 8) 2 (iI ((q 1 + ((j : Nat) : Int)))))) 8 (upd ((updA (updA f2 8 (upd (f2 8) 1 (iI ((aFn q j + 1))))) 8 (upd ((updA f2 8 (upd (f2 8) 1 (iI ((aFn q j + 1))))) 8) 2 (iI ((q 1 + ((j : Nat) : Int)))))) 8) 3 (iI ((q 1 + ((j : Nat) : Int)))))) 8 (upd ((updA (updA (updA f2 8 (upd (f2 8) 1 (iI ((aFn q j + 1))))) 8 (upd ((updA f2 8 (upd (f2 8) 1 (iI ((aFn q j + 1))))) 8) 2 (iI ((q 1 + ((j : Nat) : Int)))))) 8 (upd ((updA (updA f2 8 (upd (f2 8) 1 (iI ((aFn q j + 1))))) 8 (upd ((updA f2 8 (upd (f2 8) 1 (iI ((aFn q j + 1))))) 8) 2 (iI ((q 1 + ((j : Nat) : Int)))))) 8) 3 (iI ((q 1 + ((j : Nat) : Int)))))) 8) 4 (iI ((q 1 + ((j : Nat) : Int))))))) (by omega) (by omega) (hQ) (⟨congrArg iI (if_pos c_62).symm, congrArg iI ((if_pos c_62).trans (if_pos c_81)).symm, congrArg iI (if_pos c_62).symm, congrArg iI (fb_n c_62 (Or.inr c_110)).symm⟩) (fun o k h => ((((frF (by omega)).trans (frF (by omega))).trans (frF (by omega))).trans (frF (by omega))).trans (hFr o k h)) _ _ _ X (lv_sub hl_14 [3, 1, 0] rfl)
  have hl_15 := lv_rp hl 1 rfl (show (iI (0)) = (iI (bgI q 0)) from rfl)
  have hl_16 := lv_rp hl_15 0 rfl (show (iI (q 1)) = (iI ((q 1 + ((0 : Nat) : Int)))) from congrArg iI (by omega))
  exact lp_27 _ (0) ((updA (updA (updA (updA f 8 (upd (f 8) 1 (iI (0)))) 8 (upd ((updA f 8 (upd (f 8) 1 (iI (0)))) 8) 2 (iI ((-1))))) 8 (upd ((updA (updA f 8 (upd (f 8) 1 (iI (0)))) 8 (upd ((updA f 8 (upd (f 8) 1 (iI (0)))) 8) 2 (iI ((-1))))) 8) 3 (iI ((-1))))) 8 (upd ((updA (updA (updA f 8 (upd (f 8) 1 (iI (0)))) 8 (upd ((updA f 8 (upd (f 8) 1 (iI (0)))) 8) 2 (iI ((-1))))) 8 (upd ((updA (updA f 8 (upd (f 8) 1 (iI (0)))) 8 (upd ((updA f 8 (upd (f 8) 1 (iI (0)))) 8) 2 (iI ((-1))))) 8) 3 (iI ((-1))))) 8) 4 (iI ((-1)))))) (Nat.lt_succ_self _) (by omega) (hQ) (⟨rfl, rfl, rfl, rfl⟩) (fun o k h => (((frF (by omega)).trans (frF (by omega))).trans (frF (by omega))).trans (frF (by omega))) _ _ _ X (lv_sub hl_16 [2, 1, 0] rfl)

