/-! what the class's cells say -/
def ProC (k : Nat) (P : Nat → Nat → Nat) (f g : Nat → Nat → Int32) : Prop := f 6 2 = iI k ∧ (∀ i, g 20 i = iI (P 0 i)) ∧ (∀ i, g 21 i = iI (P 1 i))
theorem frF {f : Nat → Nat → Int32} {o1 j1 o j : Nat} {x : Int32} (h : ¬ (o = o1 ∧ j = j1)) : updA f o1 (upd (f o1) j1 x) o j = f o j := by
  by_cases e : o = o1
  · subst e; rw [updA_s, upd_n (fun z => h ⟨rfl, z⟩)]
  · rw [updA_n e]
def MowC (k : Nat) (M : Nat → Nat → Nat) (f g : Nat → Nat → Int32) : Prop := f 5 0 = iI k ∧ (∀ i, g 15 i = iI (M 0 i)) ∧ (∀ i, g 16 i = iI (M 1 i)) ∧ (∀ i, g 17 i = iI (M 2 i)) ∧ (∀ i, g 18 i = iI (M 3 i)) ∧ (∀ i, g 19 i = iI (M 4 i))
/-- the years told of, each once, the earlier first -/
def YrC (yc : Nat) (Y : Nat → Nat) (f g : Nat → Nat → Int32) : Prop := f 5 2 = iI yc ∧ (∀ i, i < yc → g 14 i = iI (Y i))
def YrB (yc : Nat) (Y : Nat → Nat) : Prop := (∀ i j, i < j → j < yc → Y i < Y j) ∧ ∀ i, i < yc → Y i < 1000
def YrT (yc : Nat) (Y : Nat → Nat) (mn : Nat) (M : Nat → Nat → Nat) : Prop := ∀ y, (∃ i, i < yc ∧ Y i = y) ↔ ∃ k, k < mn ∧ M 4 k = y
def yIn (Y : Nat → Nat) (q y : Nat) : Nat → Nat := fun k => if k < q then Y k else if k = q then y else Y (k - 1)
theorem yIn_B {yc : Nat} {Y : Nat → Nat} {q y : Nat} (h : YrB yc Y) (hq : q ≤ yc) (hy : y < 1000) (h1 : ∀ i, i < q → Y i < y) (h2 : q < yc → y < Y q) : YrB (yc + 1) (yIn Y q y) := by
  have up : ∀ i, q ≤ i → i < yc → y < Y i := fun i a b => by
    rcases Nat.lt_or_ge q i with c | c
    · have := h.1 q i c b; have := h2 (by omega); omega
    · have e : i = q := by omega
      rw [e]; exact h2 (by omega)
  refine ⟨fun i j hij hj => ?_, fun i hi => ?_⟩
  · unfold yIn
    (repeat' split) <;> first | omega | skip
    all_goals first
      | exact h.1 _ _ (by omega) (by omega)
      | exact h1 _ (by omega)
      | exact up _ (by omega) (by omega)
      | (have a1 := h1 i (by omega); have a2 := up (j - 1) (by omega) (by omega); omega)
  · unfold yIn
    (repeat' split) <;> first | omega | exact h.2 _ (by omega)
theorem yIn_T {yc : Nat} {Y : Nat → Nat} {q y : Nat} (hq : q ≤ yc) : ∀ z, (∃ i, i < yc + 1 ∧ yIn Y q y i = z) ↔ (∃ i, i < yc ∧ Y i = z) ∨ z = y := by
  intro z
  constructor
  · rintro ⟨i, h1, h2⟩
    unfold yIn at h2
    (repeat' split at h2)
    · exact Or.inl ⟨i, by omega, h2⟩
    · exact Or.inr h2.symm
    · exact Or.inl ⟨i - 1, by omega, h2⟩
  · rintro (⟨i, h1, h2⟩ | h)
    · by_cases c : i < q
      · exact ⟨i, by omega, by unfold yIn; rw [if_pos c]; exact h2⟩
      · exact ⟨i + 1, by omega, by unfold yIn; rw [if_neg (by omega), if_neg (by omega)]; exact h2⟩
    · exact ⟨q, by omega, by unfold yIn; rw [if_neg (by omega), if_pos rfl]; exact h.symm⟩
theorem yr_same {yc : Nat} {Y : Nat → Nat} {q y : Nat} (hq : q < yc) (e : Y q = y) : ∀ z, (∃ i, i < yc ∧ Y i = z) ↔ (∃ i, i < yc ∧ Y i = z) ∨ z = y := fun z => ⟨fun h => Or.inl h, fun h => h.elim (fun x => x) (fun x => ⟨q, hq, e.trans x.symm⟩)⟩
theorem YrT_put {yc yc2 : Nat} {Y Y2 : Nat → Nat} {mn : Nat} {M : Nat → Nat → Nat} {n a b t y : Int} {z : Nat} (h : YrT yc Y mn M) (hy : y.toNat = z) (h2 : ∀ x, (∃ i, i < yc2 ∧ Y2 i = x) ↔ (∃ i, i < yc ∧ Y i = x) ∨ x = z) : YrT yc2 Y2 (mn + 1) (mPut M mn n a b t y) := by
  intro x
  rw [h2 x, h x]
  constructor
  · rintro (⟨k, h1, h3⟩ | h1)
    · exact ⟨k, by omega, by unfold mPut; rw [if_neg (by omega)]; exact h3⟩
    · exact ⟨mn, by omega, by unfold mPut; rw [if_pos rfl]; simp; omega⟩
  · rintro ⟨k, h1, h3⟩
    unfold mPut at h3
    by_cases e : k = mn
    · rw [if_pos e] at h3; simp at h3; exact Or.inr (by omega)
    · rw [if_neg e] at h3; exact Or.inl ⟨k, by omega, h3⟩
theorem sh_keep {g : Nat → Nat → Int32} {Y : Nat → Nat} {i yc : Nat} (hi : 1 ≤ i) (h1 : ∀ k, k < i → g 14 k = iI (Y k : Nat)) (h2 : ∀ k, i < k → k ≤ yc → g 14 k = iI (Y (k - 1) : Nat)) : (∀ k, k < i - 1 → updA g 14 (upd (g 14) i (iI (Y (i - 1) : Nat))) 14 k = iI (Y k : Nat)) ∧ (∀ k, i - 1 < k → k ≤ yc → updA g 14 (upd (g 14) i (iI (Y (i - 1) : Nat))) 14 k = iI (Y (k - 1) : Nat)) := by
  refine ⟨fun k hk => ?_, fun k a b => ?_⟩
  · rw [updA_s, upd_n (by omega)]; exact h1 k (by omega)
  · rw [updA_s]
    by_cases e : k = i
    · rw [e, upd_s]
    · rw [upd_n e]; exact h2 k (by omega) b
theorem sh_end {g : Nat → Nat → Int32} {Y : Nat → Nat} {q yc y : Nat} (h1 : ∀ k, k < q → g 14 k = iI (Y k : Nat)) (h2 : ∀ k, q < k → k ≤ yc → g 14 k = iI (Y (k - 1) : Nat)) : ∀ k, k < yc + 1 → updA g 14 (upd (g 14) q (iI (y : Nat))) 14 k = iI (yIn Y q y k : Nat) := by
  intro k hk
  rw [updA_s]
  unfold yIn
  by_cases e : k = q
  · rw [e, upd_s, if_neg (by omega), if_pos rfl]
  · rw [upd_n e]
    by_cases c : k < q
    · rw [if_pos c]; exact h1 k c
    · rw [if_neg c, if_neg e]; exact h2 k (by omega) (by omega)
