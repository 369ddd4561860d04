/-! ===== mowings (M 0 who, 1 from, 2 to, 3 foot, 4 year), protests (P 0 station, 1 year), the quarrel ===== -/
def MowB (k : Nat) (M : Nat → Nat → Nat) : Prop := k ≤ 60 ∧ ∀ i, M 0 i < 2 ∧ M 1 i ≤ M 2 i ∧ M 2 i < 10 ∧ M 3 i < 80 ∧ M 4 i < 1000
def ProB (k : Nat) (P : Nat → Nat → Nat) : Prop := k ≤ 20 ∧ ∀ i, P 0 i < 10 ∧ P 1 i < 1000
/-- how far n mowed s in a year, of the first k that were told -/
def aMw (M : Nat → Nat → Nat) (n s y : Nat) : Nat → Int
  | 0 => -1
  | k + 1 => if M 0 k = n ∧ (M 1 k ≤ s ∧ s ≤ M 2 k) ∧ M 4 k = y then ((M 3 k : Nat) : Int) else aMw M n s y k
theorem aMw_b {K : Nat} {M : Nat → Nat → Nat} (h : MowB K M) (n s y : Nat) : ∀ k, -1 ≤ aMw M n s y k ∧ aMw M n s y k < 80
  | 0 => by show (-1 : Int) ≤ -1 ∧ (-1 : Int) < 80; omega
  | k + 1 => by
    have h1 := aMw_b h n s y k
    have h2 := h.2 k
    simp only [aMw]
    split <;> omega
theorem mw_t {M : Nat → Nat → Nat} {n s y k : Nat} (h : M 0 k = n ∧ (M 1 k ≤ s ∧ s ≤ M 2 k) ∧ M 4 k = y) : ((M 3 k : Nat) : Int) = aMw M n s y (k + 1) := (if_pos h).symm
theorem mw_f {M : Nat → Nat → Nat} {n s y k : Nat} (h : ¬ (M 0 k = n ∧ (M 1 k ≤ s ∧ s ≤ M 2 k) ∧ M 4 k = y)) : aMw M n s y k = aMw M n s y (k + 1) := (if_neg h).symm
def aPt (k : Nat) (P : Nat → Nat → Nat) (s y : Nat) : Prop := anyN (fun j => P 0 j = s ∧ P 1 j = y) k
def mOk (n a b t y : Int) : Prop := (0 ≤ n ∧ n ≤ 1) ∧ (0 ≤ a ∧ a ≤ b ∧ b ≤ 9) ∧ (0 ≤ t ∧ t ≤ 79) ∧ (0 ≤ y ∧ y ≤ 999)
def mPut (M : Nat → Nat → Nat) (k : Nat) (n a b t y : Int) : Nat → Nat → Nat := fun j i => if i = k then (if j = 0 then n.toNat else if j = 1 then a.toNat else if j = 2 then b.toNat else if j = 3 then t.toNat else y.toNat) else M j i
theorem mPut_B {k : Nat} {M : Nat → Nat → Nat} {n a b t y : Int} (hB : MowB k M) (hn : k < 60) (ho : mOk n a b t y) : MowB (k + 1) (mPut M k n a b t y) := by
  refine ⟨by omega, fun i => ?_⟩
  unfold mPut mOk at *
  by_cases e : i = k
  · simp only [e, if_true]
    refine ⟨?_, ?_, ?_, ?_, ?_⟩ <;> simp <;> omega
  · simp only [e, if_false]
    exact hB.2 i
def pPut (P : Nat → Nat → Nat) (k : Nat) (s y : Int) : Nat → Nat → Nat := fun j i => if i = k then (if j = 0 then s.toNat else y.toNat) else P j i
theorem pPut_B {k : Nat} {P : Nat → Nat → Nat} {s y : Int} (hB : ProB k P) (hn : k < 20) (h1 : 0 ≤ s ∧ s ≤ 9) (h2 : 0 ≤ y ∧ y ≤ 999) : ProB (k + 1) (pPut P k s y) := by
  refine ⟨by omega, fun i => ?_⟩
  unfold pPut
  by_cases e : i = k
  · simp only [e, if_true]
    refine ⟨?_, ?_⟩ <;> simp <;> omega
  · simp only [e, if_false]
    exact hB.2 i
noncomputable def aMowed (k : Nat) (M : Nat → Nat → Nat) (n s y : Int) : Int := if (0 ≤ n ∧ n ≤ 1) ∧ (0 ≤ s ∧ s ≤ 9) ∧ (0 ≤ y ∧ y ≤ 999) then aMw M n.toNat s.toNat y.toNat k else -1
/-! the quarrel: q 0, 1 the claims, 2, 3 the worths, 4, 5 the costs, 6, 7 p and q -/
def qOk (q : Nat → Int) : Prop := (0 ≤ q 0 ∧ q 0 ≤ 79) ∧ (0 ≤ q 1 ∧ q 1 ≤ 79) ∧ q 1 < q 0 ∧ (0 ≤ q 2 ∧ q 2 ≤ 99) ∧ (0 ≤ q 3 ∧ q 3 ≤ 99) ∧ (0 ≤ q 4 ∧ q 4 ≤ 999) ∧ (0 ≤ q 5 ∧ q 5 ≤ 999) ∧ (1 ≤ q 6 ∧ q 6 ≤ 99) ∧ (1 ≤ q 7 ∧ q 7 ≤ 99)
def aG0 (q : Nat → Int) (f : Int) : Int := (((q 2 * (f - q 1)) * (q 6 + q 7)) - ((q 2 * (q 0 - q 1)) * q 6)) + (q 4 * (q 6 + q 7))
def aG1 (q : Nat → Int) (f : Int) : Int := (((q 3 * (q 0 - f)) * (q 6 + q 7)) - ((q 3 * (q 0 - q 1)) * q 7)) + (q 5 * (q 6 + q 7))
def aG (q : Nat → Int) (f : Int) : Int := if aG0 q f < aG1 q f then aG0 q f else aG1 q f
theorem mul_b {a b A B : Int} (ha : 0 ≤ a ∧ a ≤ A) (hb : 0 ≤ b ∧ b ≤ B) : 0 ≤ a * b ∧ a * b ≤ A * B := ⟨Int.mul_nonneg ha.1 hb.1, Int.mul_le_mul ha.2 hb.2 hb.1 (Int.le_trans ha.1 ha.2)⟩
theorem aG0_b {q : Nat → Int} {f : Int} (h : qOk q) (hf : q 1 ≤ f ∧ f ≤ q 0) : -10000000 ≤ aG0 q f ∧ aG0 q f ≤ 10000000 := by
  obtain ⟨h0, h1, h2, h3, h4, h5, h6, h7, h8⟩ := h
  have a1 := mul_b (mul_b h3 (show 0 ≤ f - q 1 ∧ f - q 1 ≤ 79 by omega)) (show 0 ≤ q 6 + q 7 ∧ q 6 + q 7 ≤ 198 by omega)
  have a2 := mul_b (mul_b h3 (show 0 ≤ q 0 - q 1 ∧ q 0 - q 1 ≤ 79 by omega)) (show 0 ≤ q 6 ∧ q 6 ≤ 99 by omega)
  have a3 := mul_b h5 (show 0 ≤ q 6 + q 7 ∧ q 6 + q 7 ≤ 198 by omega)
  unfold aG0
  omega
theorem aG1_b {q : Nat → Int} {f : Int} (h : qOk q) (hf : q 1 ≤ f ∧ f ≤ q 0) : -10000000 ≤ aG1 q f ∧ aG1 q f ≤ 10000000 := by
  obtain ⟨h0, h1, h2, h3, h4, h5, h6, h7, h8⟩ := h
  have a1 := mul_b (mul_b h4 (show 0 ≤ q 0 - f ∧ q 0 - f ≤ 79 by omega)) (show 0 ≤ q 6 + q 7 ∧ q 6 + q 7 ≤ 198 by omega)
  have a2 := mul_b (mul_b h4 (show 0 ≤ q 0 - q 1 ∧ q 0 - q 1 ≤ 79 by omega)) (show 0 ≤ q 7 ∧ q 7 ≤ 99 by omega)
  have a3 := mul_b h6 (show 0 ≤ q 6 + q 7 ∧ q 6 + q 7 ≤ 198 by omega)
  unfold aG1
  omega
theorem aG_b {q : Nat → Int} {f : Int} (h : qOk q) (hf : q 1 ≤ f ∧ f ≤ q 0) : -10000000 ≤ aG q f ∧ aG q f ≤ 10000000 := by
  have h1 := aG0_b h hf
  have h2 := aG1_b h hf
  unfold aG
  split <;> omega
/-- of the first k feet from the lesser claim on: how many are fair, the first, the last, the fairest -/
def aFn (q : Nat → Int) : Nat → Int
  | 0 => 0
  | k + 1 => if 0 ≤ aG q (q 1 + k) then aFn q k + 1 else aFn q k
def aFf (q : Nat → Int) : Nat → Int
  | 0 => -1
  | k + 1 => if 0 ≤ aG q (q 1 + k) then (if aFf q k = -1 then q 1 + k else aFf q k) else aFf q k
def aFl (q : Nat → Int) : Nat → Int
  | 0 => -1
  | k + 1 => if 0 ≤ aG q (q 1 + k) then q 1 + k else aFl q k
def aFb (q : Nat → Int) : Nat → Int
  | 0 => -1
  | k + 1 => if 0 ≤ aG q (q 1 + k) then (if aFb q k = -1 ∨ aG q (aFb q k) < aG q (q 1 + k) then q 1 + k else aFb q k) else aFb q k
theorem aFn_b (q : Nat → Int) : ∀ k, 0 ≤ aFn q k ∧ aFn q k ≤ k
  | 0 => by show (0 : Int) ≤ 0 ∧ (0 : Int) ≤ ((0 : Nat) : Int); omega
  | k + 1 => by
    have h := aFn_b q k
    simp only [aFn]
    split <;> omega
theorem aFf_b (q : Nat → Int) : ∀ k, aFf q k = -1 ∨ (q 1 ≤ aFf q k ∧ aFf q k < q 1 + k)
  | 0 => Or.inl rfl
  | k + 1 => by
    have h := aFf_b q k
    simp only [aFf]
    split
    · split <;> omega
    · omega
theorem aFl_b (q : Nat → Int) : ∀ k, aFl q k = -1 ∨ (q 1 ≤ aFl q k ∧ aFl q k < q 1 + k)
  | 0 => Or.inl rfl
  | k + 1 => by
    have h := aFl_b q k
    simp only [aFl]
    split <;> omega
theorem aFb_b (q : Nat → Int) : ∀ k, aFb q k = -1 ∨ (q 1 ≤ aFb q k ∧ aFb q k < q 1 + k)
  | 0 => Or.inl rfl
  | k + 1 => by
    have h := aFb_b q k
    simp only [aFb]
    split
    · split <;> omega
    · omega
noncomputable def aSpl (o : Prop) (q : Nat → Int) (z : Int) : Int := @ite _ (o ∧ 0 ≤ z ∧ z ≤ 3) (Classical.propDecidable _) (if z = 0 then aFn q (q 0 - q 1 + 1).toNat else if z = 1 then aFf q (q 0 - q 1 + 1).toNat else if z = 2 then aFl q (q 0 - q 1 + 1).toNat else aFb q (q 0 - q 1 + 1).toNat) (-1)
noncomputable def aLook (n : Nat) (mn : Nat) (wt : Nat → Nat) (nw : Nat → Prop) (th ho be : Nat) (z : Int) : Int := if z = 0 then n else if z = 1 then th else if z = 2 then ho else if z = 3 then be else if z = 4 then mn else if 10 ≤ z ∧ z ≤ 15 then ((wt (z - 10).toNat : Nat) : Int) else if 20 ≤ z ∧ z ≤ 25 then (@ite _ (nw (z - 20).toNat) (Classical.propDecidable _) 1 0) else -1
def aFault (fk fp z : Int) : Int := if z = 0 then fk else if z = 1 then fp else -1
