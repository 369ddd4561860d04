/-! what the class's cells say -/
def ProC (k : Nat) (P : Nat → Nat → Nat) (f g : Nat → Nat → Int32) : Prop := f 6 2 = iI k ∧ (∀ i, g 20 i = iI (P 0 i)) ∧ (∀ i, g 21 i = iI (P 1 i))
theorem frF {f : Nat → Nat → Int32} {o1 j1 o j : Nat} {x : Int32} (h : ¬ (o = o1 ∧ j = j1)) : updA f o1 (upd (f o1) j1 x) o j = f o j := by
  by_cases e : o = o1
  · subst e; rw [updA_s, upd_n (fun z => h ⟨rfl, z⟩)]
  · rw [updA_n e]
