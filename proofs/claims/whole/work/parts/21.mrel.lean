/-! what the reference's cells say: sayings, the law -/
def SayM (n : Nat) (S : Nat → Nat → Nat) (f : Nat → Int32) (g : Nat → Nat → Int32) : Prop := f 0 = iI n ∧ (∀ i, g 3 i = iI (S 0 i)) ∧ (∀ i, g 4 i = iI (S 1 i)) ∧ (∀ i, g 5 i = iI (S 2 i)) ∧ (∀ i, g 6 i = iI (S 3 i)) ∧ (∀ i, g 7 i = iI (S 4 i)) ∧ (∀ i, g 8 i = iI (S 5 i)) ∧ (∀ i, g 9 i = iI (S 6 i))
def LawM (wt : Nat → Nat) (nw : Nat → Prop) (th ho be : Nat) (f : Nat → Int32) (g : Nat → Nat → Int32) : Prop := f 10 = iI th ∧ f 11 = iI ho ∧ f 12 = iI be ∧ (∀ k, g 13 k = iI (wt k)) ∧ (∀ k, g 14 k = bI (nw k))
theorem updA_s (g : Nat → Nat → Int32) (k : Nat) (x : Nat → Int32) : updA g k x k = x := if_pos rfl
theorem updA_n {g : Nat → Nat → Int32} {k j : Nat} {x : Nat → Int32} (h : j ≠ k) : updA g k x j = g j := if_neg h
theorem upd_s (f : Nat → Int32) (k : Nat) (x : Int32) : upd f k x k = x := if_pos rfl
theorem upd_n {f : Nat → Int32} {k j : Nat} {x : Int32} (h : j ≠ k) : upd f k x j = f j := if_neg h
theorem SayM_fr {n : Nat} {S : Nat → Nat → Nat} {f : Nat → Int32} {g g1 : Nat → Nat → Int32} (hF : ∀ k, k ≠ 27 → k ≠ 28 → g1 k = g k) (h : SayM n S f g) : SayM n S f g1 := by
  unfold SayM at *
  rw [hF 3 (by omega) (by omega), hF 4 (by omega) (by omega), hF 5 (by omega) (by omega), hF 6 (by omega) (by omega), hF 7 (by omega) (by omega), hF 8 (by omega) (by omega), hF 9 (by omega) (by omega)]
  exact h
theorem LawM_fr {wt : Nat → Nat} {nw : Nat → Prop} {th ho be : Nat} {f : Nat → Int32} {g g1 : Nat → Nat → Int32} (hF : ∀ k, k ≠ 27 → k ≠ 28 → g1 k = g k) (h : LawM wt nw th ho be f g) : LawM wt nw th ho be f g1 := by
  unfold LawM at *
  rw [hF 13 (by omega) (by omega), hF 14 (by omega) (by omega)]
  exact h
theorem tb_keep {g : Nat → Nat → Int32} {k i j : Nat} {x y : Int32} (h : j ≠ i) (hv : g k j = y) : updA g k (upd (g k) i x) k j = y := by rw [updA_s, upd_n h]; exact hv
theorem tb_new {g : Nat → Nat → Int32} {k b t : Nat} {F : Nat → Int32} (h : ∀ t', t' < t → g k (b + t') = F t') : ∀ t', t' < t + 1 → updA g k (upd (g k) (b + t) (F t)) k (b + t') = F t' := by
  intro t' ht
  rw [updA_s]
  by_cases e : t' = t
  · rw [e, upd_s]
  · rw [upd_n (by omega)]; exact h t' (by omega)
theorem tb_new0 {g : Nat → Nat → Int32} {k t : Nat} {F : Nat → Int32} (h : ∀ t', t' < t → g k t' = F t') : ∀ t', t' < t + 1 → updA g k (upd (g k) t (F t)) k t' = F t' := by
  intro t' ht
  rw [updA_s]
  by_cases e : t' = t
  · rw [e, upd_s]
  · rw [upd_n e]; exact h t' (by omega)
theorem fr_st {g g1 : Nat → Nat → Int32} {i : Nat} {x : Nat → Int32} (hi : i = 27 ∨ i = 28) (hF : ∀ k, k ≠ 27 → k ≠ 28 → g1 k = g k) : ∀ k, k ≠ 27 → k ≠ 28 → updA g1 i x k = g k := fun k h1 h2 => (updA_n (by omega)).trans (hF k h1 h2)
theorem tb_join {g : Nat → Nat → Int32} {F : Nat → Nat → Int32} {q t : Nat} (hC : ∀ s t, q + 1 ≤ s → s < 10 → t < 80 → g 27 (80 * s + t) = F s t) (hD : ∀ t1, t1 < t → g 27 (80 * q + t1) = F q t1) (ht : 80 ≤ t) : ∀ s t, q ≤ s → s < 10 → t < 80 → g 27 (80 * s + t) = F s t := by
  intro s t1 h1 h2 h3
  rcases Nat.lt_or_ge q s with h4 | h4
  · exact hC s t1 h4 h2 h3
  · have e : s = q := by omega
    subst e
    exact hD t1 (by omega)
theorem pp_eq {n : Nat} {S : Nat → Nat → Nat} {wt : Nat → Nat} {nw : Nat → Prop} {th be r u : Nat} (h : u = 80) : amN (aPr n S wt nw th be (aPp n S wt nw th be) r) u = aPp n S wt nw th be r := by
  rw [h]; exact (aPp_eq n S wt nw th be r).symm
