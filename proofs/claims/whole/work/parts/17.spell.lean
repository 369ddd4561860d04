/-! ===== spells at a station: F n y how far n mowed in year y, B n y: it counts; hold ho, the paper line pf ===== -/
noncomputable def aRn (B : Nat → Nat → Prop) (n : Nat) : Nat → Nat
  | 0 => 0
  | y + 1 => @ite _ (B n y) (Classical.propDecidable _) (aRn B n y + 1) 0
noncomputable def aMy (B : Nat → Nat → Prop) (ho n : Nat) : Nat → Nat
  | 0 => 0
  | y + 1 => if ho ≤ aRn B n (y + 1) then aMy B ho n y + 1 else aMy B ho n y
def pick (n : Nat) (a b : Int) : Int := if n = 0 then (if b < a then b else a) else (if a < b then b else a)
def nrD (F : Nat → Nat → Int) (n y : Nat) : Nat → Int
  | 0 => F n y
  | d + 1 => pick n (nrD F n y d) (F n (y - (d + 1)))
def nrA (F : Nat → Nat → Int) (n y lo : Nat) : Nat → Int
  | 0 => F n y
  | c + 1 => pick n (nrA F n y lo c) (F n (lo + c))
noncomputable def aNr (F : Nat → Nat → Int) (ho n y : Nat) : Int := nrD F n y (ho - 1)
def byd (n : Nat) (a b : Int) : Prop := (n = 0 → b < a) ∧ (n ≠ 0 → a < b)
noncomputable def aTL (F : Nat → Nat → Int) (B : Nat → Nat → Prop) (ho : Nat) (pf : Int) : Nat → Int × Int
  | 0 => (pf, -1)
  | t + 1 => @ite _ (ho ≤ aRn B (t % 2) (t / 2 + 1) ∧ byd (t % 2) (aNr F ho (t % 2) (t / 2)) (aTL F B ho pf t).1) (Classical.propDecidable _) (aNr F ho (t % 2) (t / 2), ((t / 2 : Nat) : Int)) (aTL F B ho pf t)
theorem rn_t {B : Nat → Nat → Prop} {n y : Nat} (h : B n y) : aRn B n (y + 1) = aRn B n y + 1 := if_pos h
theorem rn_f {B : Nat → Nat → Prop} {n y : Nat} (h : ¬ B n y) : aRn B n (y + 1) = 0 := if_neg h
theorem rn_le (B : Nat → Nat → Prop) (n : Nat) : ∀ y, aRn B n y ≤ y
  | 0 => Nat.le_refl _
  | y + 1 => by
    have h := rn_le B n y
    by_cases c : B n y
    · rw [rn_t c]; omega
    · rw [rn_f c]; omega
theorem my_t {B : Nat → Nat → Prop} {ho n y : Nat} (h : ho ≤ aRn B n (y + 1)) : aMy B ho n (y + 1) = aMy B ho n y + 1 := if_pos h
theorem my_f {B : Nat → Nat → Prop} {ho n y : Nat} (h : ¬ ho ≤ aRn B n (y + 1)) : aMy B ho n (y + 1) = aMy B ho n y := if_neg h
theorem my_le (B : Nat → Nat → Prop) (ho n : Nat) : ∀ y, aMy B ho n y ≤ y
  | 0 => Nat.le_refl _
  | y + 1 => by
    have h := my_le B ho n y
    by_cases c : ho ≤ aRn B n (y + 1)
    · rw [my_t c]; omega
    · rw [my_f c]; omega
def leN (n : Nat) (a b : Int) : Prop := (n = 0 → a ≤ b) ∧ (n ≠ 0 → b ≤ a)
theorem pick_le (n : Nat) (a b : Int) : leN n (pick n a b) a ∧ leN n (pick n a b) b ∧ (pick n a b = a ∨ pick n a b = b) := by
  unfold pick leN
  by_cases h : n = 0
  · rw [if_pos h]
    split <;> refine ⟨⟨fun _ => by omega, fun z => absurd h z⟩, ⟨fun _ => by omega, fun z => absurd h z⟩, by omega⟩
  · rw [if_neg h]
    split <;> refine ⟨⟨fun z => absurd z h, fun _ => by omega⟩, ⟨fun z => absurd z h, fun _ => by omega⟩, by omega⟩
theorem leN_tr {n : Nat} {a b c : Int} (h1 : leN n a b) (h2 : leN n b c) : leN n a c := ⟨fun z => by have := h1.1 z; have := h2.1 z; omega, fun z => by have := h1.2 z; have := h2.2 z; omega⟩
theorem leN_an {n : Nat} {a b : Int} (h1 : leN n a b) (h2 : leN n b a) : a = b := by
  by_cases z : n = 0
  · have := h1.1 z; have := h2.1 z; omega
  · have := h1.2 z; have := h2.2 z; omega
theorem leN_rf (n : Nat) (a : Int) : leN n a a := ⟨fun _ => Int.le_refl _, fun _ => Int.le_refl _⟩
/-- x is the nearest of the years of S -/
def isN (F : Nat → Nat → Int) (n : Nat) (S : Nat → Prop) (x : Int) : Prop := (∃ y, S y ∧ x = F n y) ∧ ∀ y, S y → leN n x (F n y)
theorem isN_one {F : Nat → Nat → Int} {n : Nat} {S : Nat → Prop} {x z : Int} (h1 : isN F n S x) (h2 : isN F n S z) : x = z := by
  obtain ⟨⟨y1, s1, e1⟩, a1⟩ := h1
  obtain ⟨⟨y2, s2, e2⟩, a2⟩ := h2
  exact leN_an (e2 ▸ a1 y2 s2) (e1 ▸ a2 y1 s1)
theorem isN_add {F : Nat → Nat → Int} {n : Nat} {S S2 : Nat → Prop} {x : Int} {y0 : Nat} (h : isN F n S x) (hS : ∀ y, S2 y ↔ S y ∨ y = y0) : isN F n S2 (pick n x (F n y0)) := by
  obtain ⟨⟨y1, s1, e1⟩, a1⟩ := h
  have p := pick_le n x (F n y0)
  refine ⟨?_, fun y hy => ?_⟩
  · rcases p.2.2 with q | q
    · exact ⟨y1, (hS y1).mpr (Or.inl s1), q.trans e1⟩
    · exact ⟨y0, (hS y0).mpr (Or.inr rfl), q⟩
  · rcases (hS y).mp hy with q | q
    · exact leN_tr p.1 (a1 y q)
    · rw [q]; exact p.2.1
theorem nrD_is (F : Nat → Nat → Int) (n y : Nat) : ∀ d, d ≤ y → isN F n (fun q => y - d ≤ q ∧ q ≤ y) (nrD F n y d)
  | 0, _ => ⟨⟨y, ⟨by omega, by omega⟩, rfl⟩, fun q hq => (show q = y by omega) ▸ leN_rf _ _⟩
  | d + 1, h => isN_add (nrD_is F n y d (by omega)) (fun q => by omega)
theorem nrA_is (F : Nat → Nat → Int) (n y lo : Nat) : ∀ c, isN F n (fun q => (lo ≤ q ∧ q < lo + c) ∨ q = y) (nrA F n y lo c)
  | 0 => ⟨⟨y, Or.inr rfl, rfl⟩, fun q hq => (show q = y by omega) ▸ leN_rf _ _⟩
  | c + 1 => isN_add (nrA_is F n y lo c) (fun q => by omega)
theorem nr_eq {F : Nat → Nat → Int} {ho n y lo c : Nat} (h1 : 1 ≤ ho) (h2 : lo + ho = y + 1) (h3 : lo + c = y) : nrA F n y lo c = aNr F ho n y := by
  have a := nrA_is F n y lo c
  have b := nrD_is F n y (ho - 1) (by omega)
  have e : (fun q => (lo ≤ q ∧ q < lo + c) ∨ q = y) = (fun q => y - (ho - 1) ≤ q ∧ q ≤ y) := funext fun q => propext (by omega)
  rw [e] at a
  exact isN_one a b
theorem nrA_b {F : Nat → Nat → Int} (h : ∀ n y, -1 ≤ F n y ∧ F n y < 80) (n y lo c : Nat) : -1 ≤ nrA F n y lo c ∧ nrA F n y lo c < 80 := by
  obtain ⟨⟨q, -, e⟩, -⟩ := nrA_is F n y lo c
  rw [e]; exact h n q
theorem nrD_b {F : Nat → Nat → Int} (h : ∀ n y, -1 ≤ F n y ∧ F n y < 80) (n y : Nat) : ∀ d, -1 ≤ nrD F n y d ∧ nrD F n y d < 80
  | 0 => h n y
  | d + 1 => by
    have h1 := nrD_b h n y d
    have h2 := h n (y - (d + 1))
    rcases (pick_le n (nrD F n y d) (F n (y - (d + 1)))).2.2 with q | q
    · show -1 ≤ pick _ _ _ ∧ pick _ _ _ < 80; rw [q]; exact h1
    · show -1 ≤ pick _ _ _ ∧ pick _ _ _ < 80; rw [q]; exact h2
theorem tl_b {F : Nat → Nat → Int} {B : Nat → Nat → Prop} {ho : Nat} {pf : Int} (h : ∀ n y, -1 ≤ F n y ∧ F n y < 80) (hp : -1 ≤ pf ∧ pf < 80) : ∀ t, (-1 ≤ (aTL F B ho pf t).1 ∧ (aTL F B ho pf t).1 < 80) ∧ -1 ≤ (aTL F B ho pf t).2 ∧ (aTL F B ho pf t).2 ≤ t
  | 0 => ⟨hp, by show (-1 : Int) ≤ -1 ∧ (-1 : Int) ≤ ((0 : Nat) : Int); omega⟩
  | t + 1 => by
    have ih := tl_b (B := B) (ho := ho) h hp t
    simp only [aTL]
    split
    · exact ⟨nrD_b h _ _ _, by show (-1 : Int) ≤ ((t / 2 : Nat) : Int) ∧ ((t / 2 : Nat) : Int) ≤ ((t + 1 : Nat) : Int); omega⟩
    · refine ⟨ih.1, ?_⟩; have := ih.2; omega
theorem tl_t {F : Nat → Nat → Int} {B : Nat → Nat → Prop} {ho : Nat} {pf : Int} {t n y : Nat} (hn : t % 2 = n) (hy : t / 2 = y) (h1 : ho ≤ aRn B n (y + 1)) (h2 : byd n (aNr F ho n y) (aTL F B ho pf t).1) : aTL F B ho pf (t + 1) = (aNr F ho n y, (y : Int)) := by
  subst hn hy; exact if_pos ⟨h1, h2⟩
theorem tl_f {F : Nat → Nat → Int} {B : Nat → Nat → Prop} {ho : Nat} {pf : Int} {t n y : Nat} (hn : t % 2 = n) (hy : t / 2 = y) (h : ¬ (ho ≤ aRn B n (y + 1) ∧ byd n (aNr F ho n y) (aTL F B ho pf t).1)) : aTL F B ho pf (t + 1) = aTL F B ho pf t := by
  subst hn hy; exact if_neg h
/-- of the mowings and the protests -/
def spF (M : Nat → Nat → Nat) (mn s : Nat) : Nat → Nat → Int := fun n y => aMw M n s y mn
def spB (M : Nat → Nat → Nat) (mn : Nat) (P : Nat → Nat → Nat) (pn s : Nat) (pf : Int) : Nat → Nat → Prop := fun n y => (aMw M n s y mn ≠ -1 ∧ byd n (aMw M n s y mn) pf) ∧ ¬ aPt pn P s y
theorem spF_b {mn : Nat} {M : Nat → Nat → Nat} (h : MowB mn M) (s : Nat) : ∀ n y, -1 ≤ spF M mn s n y ∧ spF M mn s n y < 80 := fun n y => aMw_b h n s y mn
def kyT (t n : Nat) : Nat := if n = 0 then (t + 1) / 2 else t / 2
/-- the answers -/
noncomputable def aLine (F : Nat → Nat → Int) (B : Nat → Nat → Prop) (ho : Nat) (pf : Int) : Int := (aTL F B ho pf 2000).1
section SPEL
variable (n : Nat) (S : Nat → Nat → Nat) (wt : Nat → Nat) (nw : Nat → Prop) (th be ho mn : Nat) (M : Nat → Nat → Nat) (pn : Nat) (P : Nat → Nat → Nat)
noncomputable def aSpT (s t : Nat) : Int × Int := aTL (spF M mn s) (spB M mn P pn s ((aPp n S wt nw th be s : Nat) : Int)) ho ((aPp n S wt nw th be s : Nat) : Int) t
noncomputable def aSpN (s k : Nat) : Nat := aMy (spB M mn P pn s ((aPp n S wt nw th be s : Nat) : Int)) ho k 1000
noncomputable def aSpe (z u : Int) : Int := if (0 ≤ z ∧ z ≤ 9) ∧ (0 ≤ u ∧ u ≤ 2) then (if u = 2 then (aSpT n S wt nw th be ho mn M pn P z.toNat 2000).2 else ((aSpN n S wt nw th be ho mn M pn P z.toNat u.toNat : Nat) : Int)) else -1
noncomputable def aLin (z : Int) : Int := if 0 ≤ z ∧ z ≤ 9 then (aSpT n S wt nw th be ho mn M pn P z.toNat 2000).1 else -1
end SPEL
