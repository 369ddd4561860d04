/-! what the reference's cells say: sayings, the law -/
def SayM (n : Nat) (S : Nat → Nat → Nat) (f : Nat → Int32) (g : Nat → Nat → Int32) : Prop := f 0 = iI n ∧ (∀ i, g 3 i = iI (S 0 i)) ∧ (∀ i, g 4 i = iI (S 1 i)) ∧ (∀ i, g 5 i = iI (S 2 i)) ∧ (∀ i, g 6 i = iI (S 3 i)) ∧ (∀ i, g 7 i = iI (S 4 i)) ∧ (∀ i, g 8 i = iI (S 5 i)) ∧ (∀ i, g 9 i = iI (S 6 i))
def LawM (wt : Nat → Nat) (nw : Nat → Prop) (th ho be : Nat) (f : Nat → Int32) (g : Nat → Nat → Int32) : Prop := f 10 = iI th ∧ f 11 = iI ho ∧ f 12 = iI be ∧ (∀ k, k < 6 → g 13 k = iI (wt k)) ∧ (∀ k, k < 6 → g 14 k = bI (nw k))
theorem updA_s (g : Nat → Nat → Int32) (k : Nat) (x : Nat → Int32) : updA g k x k = x := if_pos rfl
theorem updA_n {g : Nat → Nat → Int32} {k j : Nat} {x : Nat → Int32} (h : j ≠ k) : updA g k x j = g j := if_neg h
theorem upd_s (f : Nat → Int32) (k : Nat) (x : Int32) : upd f k x k = x := if_pos rfl
theorem upd_n {f : Nat → Int32} {k j : Nat} {x : Int32} (h : j ≠ k) : upd f k x j = f j := if_neg h
theorem SayM_fr {n : Nat} {S : Nat → Nat → Nat} {f : Nat → Int32} {g g1 : Nat → Nat → Int32} (hF : ∀ k, k ≠ 27 → k ≠ 28 → g1 k = g k) (h : SayM n S f g) : SayM n S f g1 := by
  unfold SayM at *
  rw [hF 3 (by omega) (by omega), hF 4 (by omega) (by omega), hF 5 (by omega) (by omega), hF 6 (by omega) (by omega), hF 7 (by omega) (by omega), hF 8 (by omega) (by omega), hF 9 (by omega) (by omega)]
  exact h
theorem LawM_fr {wt : Nat → Nat} {nw : Nat → Prop} {th ho be : Nat} {f : Nat → Int32} {g g1 : Nat → Nat → Int32} (hF : ∀ k, k ≠ 27 → k ≠ 28 → g1 k = g k) (h : LawM wt nw th ho be f g) : LawM wt nw th ho be f g1 := by
  unfold LawM at *
  rw [hF 13 (by omega) (by omega), hF 14 (by omega) (by omega)]
  exact h
theorem tb_keep {g : Nat → Nat → Int32} {k i j : Nat} {x y : Int32} (h : j ≠ i) (hv : g k j = y) : updA g k (upd (g k) i x) k j = y := by rw [updA_s, upd_n h]; exact hv
theorem tb_new {g : Nat → Nat → Int32} {k b t : Nat} {F : Nat → Int32} (h : ∀ t', t' < t → g k (b + t') = F t') : ∀ t', t' < t + 1 → updA g k (upd (g k) (b + t) (F t)) k (b + t') = F t' := by
  intro t' ht
  rw [updA_s]
  by_cases e : t' = t
  · rw [e, upd_s]
  · rw [upd_n (by omega)]; exact h t' (by omega)
theorem tb_new0 {g : Nat → Nat → Int32} {k t : Nat} {F : Nat → Int32} (h : ∀ t', t' < t → g k t' = F t') : ∀ t', t' < t + 1 → updA g k (upd (g k) t (F t)) k t' = F t' := by
  intro t' ht
  rw [updA_s]
  by_cases e : t' = t
  · rw [e, upd_s]
  · rw [upd_n e]; exact h t' (by omega)
theorem fr_st {g g1 : Nat → Nat → Int32} {i : Nat} {x : Nat → Int32} (hi : i = 27 ∨ i = 28) (hF : ∀ k, k ≠ 27 → k ≠ 28 → g1 k = g k) : ∀ k, k ≠ 27 → k ≠ 28 → updA g1 i x k = g k := fun k h1 h2 => (updA_n (by omega)).trans (hF k h1 h2)
theorem tb_join {g : Nat → Nat → Int32} {F : Nat → Nat → Int32} {q t : Nat} (hC : ∀ s t, q + 1 ≤ s → s < 10 → t < 80 → g 27 (80 * s + t) = F s t) (hD : ∀ t1, t1 < t → g 27 (80 * q + t1) = F q t1) (ht : 80 ≤ t) : ∀ s t, q ≤ s → s < 10 → t < 80 → g 27 (80 * s + t) = F s t := by
  intro s t1 h1 h2 h3
  rcases Nat.lt_or_ge q s with h4 | h4
  · exact hC s t1 h4 h2 h3
  · have e : s = q := by omega
    subst e
    exact hD t1 (by omega)
theorem pp_eq {n : Nat} {S : Nat → Nat → Nat} {wt : Nat → Nat} {nw : Nat → Prop} {th be r u : Nat} (h : u = 80) : amN (aPr n S wt nw th be (aPp n S wt nw th be) r) u = aPp n S wt nw th be r := by
  rw [h]; exact (aPp_eq n S wt nw th be r).symm
def MowM (k : Nat) (M : Nat → Nat → Nat) (f : Nat → Int32) (g : Nat → Nat → Int32) : Prop := f 1 = iI k ∧ (∀ i, g 29 i = iI (M 0 i)) ∧ (∀ i, g 30 i = iI (M 1 i)) ∧ (∀ i, g 31 i = iI (M 2 i)) ∧ (∀ i, g 32 i = iI (M 3 i)) ∧ (∀ i, g 33 i = iI (M 4 i))
def ProM (k : Nat) (P : Nat → Nat → Nat) (f : Nat → Int32) (g : Nat → Nat → Int32) : Prop := f 2 = iI k ∧ (∀ i, g 34 i = iI (P 0 i)) ∧ (∀ i, g 35 i = iI (P 1 i))
def QuaM (o : Prop) (q : Nat → Int) (f : Nat → Int32) : Prop := f 41 = bI o ∧ f 42 = iI (q 0) ∧ f 43 = iI (q 1) ∧ f 44 = iI (q 2) ∧ f 45 = iI (q 3) ∧ f 46 = iI (q 4) ∧ f 47 = iI (q 5) ∧ f 48 = iI (q 6) ∧ f 49 = iI (q 7)
theorem row_put {g : Nat → Int32} {S S2 : Nat → Nat} {n : Nat} {z : Int} (h : ∀ i, g i = iI (S i : Nat)) (hz : 0 ≤ z) (h2 : ∀ i, S2 i = if i = n then z.toNat else S i) : ∀ i, upd g n (iI z) i = iI (S2 i : Nat) := by
  intro i
  rw [h2]
  by_cases e : i = n
  · rw [e, upd_s, if_pos rfl, Int.toNat_of_nonneg hz]
  · rw [upd_n e, if_neg e]; exact h i
/-- the reference's text: tn bytes tb on the tape -/
def TapM (tn : Nat) (tb : Nat → Nat) (f : Nat → Int32) (g : Nat → Nat → Int32) : Prop := f 17 = iI tn ∧ (∀ i, g 15 i = iI (tb i : Nat))
def TapB (tn : Nat) (tb : Nat → Nat) : Prop := tn ≤ 400 ∧ ∀ i, tb i < 256
/-- the reference stands at the token that is read from i on -/
def TokM (tn : Nat) (tb : Nat → Nat) (i : Nat) (f : Nat → Int32) : Prop := f 18 = iI (tkN tn tb i : Nat) ∧ f 19 = iI (tkT tn tb i) ∧ f 20 = iI (tkA tn tb i : Nat) ∧ (tkT tn tb i = 2 → f 21 = iI (tkV tn tb i))
