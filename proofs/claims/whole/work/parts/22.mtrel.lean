/-! the reference's reading of lines -/
def FrT (f1 f : Nat → Int32) : Prop := ∀ k, (k < 18 ∨ k = 24 ∨ 25 < k) → f1 k = f k
def FrN (f1 f : Nat → Int32) : Prop := ∀ k, k ≠ 18 → k ≠ 19 → k ≠ 20 → k ≠ 21 → f1 k = f k
theorem FrN_T {f1 f : Nat → Int32} (h : FrN f1 f) : FrT f1 f := fun k hk => h k (by omega) (by omega) (by omega) (by omega)
theorem FrT_tr {f2 f1 f : Nat → Int32} (h2 : FrT f2 f1) (h1 : FrT f1 f) : FrT f2 f := fun k hk => (h2 k hk).trans (h1 k hk)
theorem FrT_r (f : Nat → Int32) : FrT f f := fun _ _ => rfl
theorem FrT_u {f1 f : Nat → Int32} {k : Nat} {x : Int32} (hk : k = 22 ∨ k = 23 ∨ k = 25) (h : FrT f1 f) : FrT (upd f1 k x) f := fun j hj => (upd_n (by omega)).trans (h j hj)
theorem TapM_fr {tn : Nat} {tb : Nat → Nat} {f f1 : Nat → Int32} {g g1 : Nat → Nat → Int32} (hF : f1 17 = f 17) (hG : g1 15 = g 15) (h : TapM tn tb f g) : TapM tn tb f1 g1 := ⟨hF.trans h.1, fun i => by rw [hG]; exact h.2 i⟩
section LNF
variable {tn : Nat} {tb : Nat → Nat} {j i : Nat}
abbrev lnR (tn : Nat) (tb : Nat → Nat) (i : Nat) : Prop := (if tkT tn tb i = 5 then 1 else 0) ≤ tkV tn tb (lnK tn tb i) ∧ tkV tn tb (lnK tn tb i) ≤ (if tkT tn tb i = 3 then 20 else if tkT tn tb i = 5 then 99 else 9)
theorem lnF_a (h : ¬ (3 ≤ tkT tn tb i ∧ tkT tn tb i ≤ 7)) : lnF tn tb j i = 1 ∧ lnP tn tb j i = tkA tn tb i := ⟨(if_pos h), (if_pos h)⟩
theorem lnF_b (h : 3 ≤ tkT tn tb i ∧ tkT tn tb i ≤ 7) (h2 : j = 20) : lnF tn tb j i = 3 ∧ lnP tn tb j i = tkA tn tb i := ⟨((if_neg (fun z => z h)).trans (if_pos h2)), ((if_neg (fun z => z h)).trans (if_pos h2))⟩
theorem lnF_c (h : 3 ≤ tkT tn tb i ∧ tkT tn tb i ≤ 7) (h2 : ¬ j = 20) (h3 : tkT tn tb i = 3 ∨ tkT tn tb i = 7) (h4 : ¬ (300 ≤ tkT tn tb (tkN tn tb i) ∧ tkT tn tb (tkN tn tb i) ≤ 305)) : lnF tn tb j i = 1 ∧ lnP tn tb j i = tkA tn tb (tkN tn tb i) := ⟨(((if_neg (fun z => z h)).trans (if_neg h2)).trans (if_pos ⟨h3, h4⟩)), (((if_neg (fun z => z h)).trans (if_neg h2)).trans (if_pos ⟨h3, h4⟩))⟩
theorem lnF_d (h : 3 ≤ tkT tn tb i ∧ tkT tn tb i ≤ 7) (h2 : ¬ j = 20) (h3 : (tkT tn tb i = 3 ∨ tkT tn tb i = 7) → (300 ≤ tkT tn tb (tkN tn tb i) ∧ tkT tn tb (tkN tn tb i) ≤ 305)) (h4 : tkT tn tb i ≠ 7) (h5 : tkT tn tb (lnK tn tb i) ≠ 2) : lnF tn tb j i = 1 ∧ lnP tn tb j i = tkA tn tb (lnK tn tb i) := ⟨((((if_neg (fun z => z h)).trans (if_neg h2)).trans (if_neg (fun z => z.2 (h3 z.1)))).trans (if_pos ⟨h4, h5⟩)), ((((if_neg (fun z => z h)).trans (if_neg h2)).trans (if_neg (fun z => z.2 (h3 z.1)))).trans (if_pos ⟨h4, h5⟩))⟩
theorem lnF_e (h : 3 ≤ tkT tn tb i ∧ tkT tn tb i ≤ 7) (h2 : ¬ j = 20) (h3 : (tkT tn tb i = 3 ∨ tkT tn tb i = 7) → (300 ≤ tkT tn tb (tkN tn tb i) ∧ tkT tn tb (tkN tn tb i) ≤ 305)) (h4 : tkT tn tb i ≠ 7) (h5 : tkT tn tb (lnK tn tb i) = 2) (h6 : ¬ lnR tn tb i) : lnF tn tb j i = 2 ∧ lnP tn tb j i = tkA tn tb (lnK tn tb i) := ⟨(((((if_neg (fun z => z h)).trans (if_neg h2)).trans (if_neg (fun z => z.2 (h3 z.1)))).trans (if_neg (fun z => z.2 h5))).trans (if_pos ⟨h4, h6⟩)), (((((if_neg (fun z => z h)).trans (if_neg h2)).trans (if_neg (fun z => z.2 (h3 z.1)))).trans (if_neg (fun z => z.2 h5))).trans (if_pos ⟨h4, h6⟩))⟩
theorem lnF_f (h : 3 ≤ tkT tn tb i ∧ tkT tn tb i ≤ 7) (h2 : ¬ j = 20) (h3 : (tkT tn tb i = 3 ∨ tkT tn tb i = 7) → (300 ≤ tkT tn tb (tkN tn tb i) ∧ tkT tn tb (tkN tn tb i) ≤ 305)) (h4 : tkT tn tb i ≠ 7 → tkT tn tb (lnK tn tb i) = 2 ∧ lnR tn tb i) (h5 : tkT tn tb (lnM tn tb i) ≠ 59) : lnF tn tb j i = 1 ∧ lnP tn tb j i = tkA tn tb (lnM tn tb i) := ⟨((((((if_neg (fun z => z h)).trans (if_neg h2)).trans (if_neg (fun z => z.2 (h3 z.1)))).trans (if_neg (fun z => z.2 (h4 z.1).1))).trans (if_neg (fun z => z.2 (h4 z.1).2))).trans (if_pos h5)), (((((if_neg (fun z => z h)).trans (if_neg h2)).trans (if_neg (fun z => z.2 (h3 z.1)))).trans (if_neg (fun z => z.2 (h4 z.1).1))).trans (if_neg (fun z => z.2 (h4 z.1).2)))⟩
theorem lnF_0 (h : 3 ≤ tkT tn tb i ∧ tkT tn tb i ≤ 7) (h2 : ¬ j = 20) (h3 : (tkT tn tb i = 3 ∨ tkT tn tb i = 7) → (300 ≤ tkT tn tb (tkN tn tb i) ∧ tkT tn tb (tkN tn tb i) ≤ 305)) (h4 : tkT tn tb i ≠ 7 → tkT tn tb (lnK tn tb i) = 2 ∧ lnR tn tb i) (h5 : tkT tn tb (lnM tn tb i) = 59) : lnF tn tb j i = 0 := ((((((if_neg (fun z => z h)).trans (if_neg h2)).trans (if_neg (fun z => z.2 (h3 z.1)))).trans (if_neg (fun z => z.2 (h4 z.1).1))).trans (if_neg (fun z => z.2 (h4 z.1).2))).trans (if_neg (fun z => z h5)))
theorem lnK_t (h : tkT tn tb i = 3 ∨ tkT tn tb i = 7) : lnK tn tb i = tkN tn tb (tkN tn tb i) := if_pos h
theorem lnK_f (h : ¬ (tkT tn tb i = 3 ∨ tkT tn tb i = 7)) : lnK tn tb i = tkN tn tb i := if_neg h
theorem lnM_t (h : tkT tn tb i = 7) : lnM tn tb i = lnK tn tb i := if_pos h
theorem lnM_f (h : ¬ tkT tn tb i = 7) : lnM tn tb i = tkN tn tb (lnK tn tb i) := if_neg h
theorem lnR_i {lo hi : Int} (h1 : lo = (if tkT tn tb i = 5 then 1 else 0)) (h2 : hi = (if tkT tn tb i = 3 then 20 else if tkT tn tb i = 5 then 99 else 9)) : lnR tn tb i ↔ (lo ≤ tkV tn tb (lnK tn tb i) ∧ tkV tn tb (lnK tn tb i) ≤ hi) := by rw [h1, h2]
end LNF
/-- what a line leaves in the reference's row of lines -/
def LnM (tn : Nat) (tb : Nat → Nat) (j i : Nat) (g : Nat → Nat → Int32) : Prop := g 16 (3 * j) = iI (tkT tn tb i) ∧ ((tkT tn tb i = 3 ∨ tkT tn tb i = 7) → g 16 (3 * j + 1) = iI (tkT tn tb (tkN tn tb i) - 300)) ∧ (tkT tn tb i ≠ 7 → g 16 (3 * j + 2) = iI (tkV tn tb (lnK tn tb i)))
theorem al_kn {tn : Nat} {tb : Nat → Nat} {i p : Nat} {lo hi : Int} (hp : lnK tn tb i = p) (h : tkT tn tb p = 2 ∧ lo ≤ tkV tn tb p ∧ tkV tn tb p ≤ hi) (h1 : lo = (if tkT tn tb i = 5 then 1 else 0)) (h2 : hi = (if tkT tn tb i = 3 then 20 else if tkT tn tb i = 5 then 99 else 9)) : tkT tn tb (lnK tn tb i) = 2 ∧ lnR tn tb i := by
  rw [lnR_i h1 h2, hp]; exact h
def LnPost (tn : Nat) (tb : Nat → Nat) (j i : Nat) (Γ : GG) (ad : Nat → Nat) (f : Nat → Int32) (g : Nat → Nat → Int32) : PT := fun v w2 => (lnF tn tb j i = 0 ∧ v = some (.int (bI True)) ∧ ∃ f1 g1, w2 = wM Γ ad f1 g1 ∧ TokM tn tb (lnN tn tb i) f1 ∧ f1 25 = iI ((j + 1 : Nat) : Int) ∧ f1 22 = f 22 ∧ FrT f1 f ∧ (∀ k, k ≠ 16 → g1 k = g k) ∧ LnM tn tb j i g1 ∧ (∀ q, q < 3 * j → g1 16 q = g 16 q)) ∨ (lnF tn tb j i ≠ 0 ∧ v = some (.int (bI False)) ∧ ∃ f1 g1, w2 = wM Γ ad f1 g1 ∧ f1 22 = iI (lnF tn tb j i) ∧ f1 23 = iI (lnP tn tb j i : Nat) ∧ FrT f1 f ∧ (∀ k, k ≠ 16 → g1 k = g k))
theorem al_nf {tn : Nat} {tb : Nat → Nat} {j i p : Nat} {Γ : GG} {ad : Nat → Nat} {f f1 : Nat → Int32} {g g1 : Nat → Nat → Int32} {lo hi : Int} (h : 3 ≤ tkT tn tb i ∧ tkT tn tb i ≤ 7) (h2 : ¬ j = 20) (h3 : (tkT tn tb i = 3 ∨ tkT tn tb i = 7) → (300 ≤ tkT tn tb (tkN tn tb i) ∧ tkT tn tb (tkN tn tb i) ≤ 305)) (h4 : tkT tn tb i ≠ 7) (hp : lnK tn tb i = p) (hn : ¬ (tkT tn tb p = 2 ∧ lo ≤ tkV tn tb p ∧ tkV tn tb p ≤ hi)) (e1 : lo = (if tkT tn tb i = 5 then 1 else 0)) (e2 : hi = (if tkT tn tb i = 3 then 20 else if tkT tn tb i = 5 then 99 else 9)) (h22 : f1 22 = iI (if tkT tn tb p = 2 then 2 else 1)) (h23 : f1 23 = iI (tkA tn tb p : Nat)) (hF : FrT f1 f) (hv : (0 : Int32) = bI False) (hg : ∀ k, k ≠ 16 → g1 k = g k) : LnPost tn tb j i Γ ad f g (some (.int (iI 0))) (wM Γ ad f1 g1) := by
  subst hp
  by_cases c : tkT tn tb (lnK tn tb i) = 2
  · have h6 : ¬ lnR tn tb i := fun z => hn ⟨c, (lnR_i e1 e2).mp z⟩
    have L := lnF_e (j := j) h h2 h3 h4 c h6
    rw [if_pos c] at h22
    refine Or.inr ⟨by rw [L.1]; decide, by rw [← hv]; rfl, f1, g1, rfl, by rw [L.1]; exact h22, by rw [L.2]; exact h23, hF, hg⟩
  · have L := lnF_d (j := j) h h2 h3 h4 c
    rw [if_neg c] at h22
    refine Or.inr ⟨by rw [L.1]; decide, by rw [← hv]; rfl, f1, g1, rfl, by rw [L.1]; exact h22, by rw [L.2]; exact h23, hF, hg⟩
