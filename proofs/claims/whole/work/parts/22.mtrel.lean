/-! the reference's reading of lines -/
def FrT (f1 f : Nat → Int32) : Prop := ∀ k, (k < 18 ∨ k = 24 ∨ 25 < k) → f1 k = f k
def FrN (f1 f : Nat → Int32) : Prop := ∀ k, k ≠ 18 → k ≠ 19 → k ≠ 20 → k ≠ 21 → f1 k = f k
theorem FrN_T {f1 f : Nat → Int32} (h : FrN f1 f) : FrT f1 f := fun k hk => h k (by omega) (by omega) (by omega) (by omega)
theorem FrT_tr {f2 f1 f : Nat → Int32} (h2 : FrT f2 f1) (h1 : FrT f1 f) : FrT f2 f := fun k hk => (h2 k hk).trans (h1 k hk)
theorem FrT_r (f : Nat → Int32) : FrT f f := fun _ _ => rfl
theorem FrT_u {f1 f : Nat → Int32} {k : Nat} {x : Int32} (hk : k = 22 ∨ k = 23 ∨ k = 25) (h : FrT f1 f) : FrT (upd f1 k x) f := fun j hj => (upd_n (by omega)).trans (h j hj)
theorem TapM_fr {tn : Nat} {tb : Nat → Nat} {f f1 : Nat → Int32} {g g1 : Nat → Nat → Int32} (hF : f1 17 = f 17) (hG : g1 15 = g 15) (h : TapM tn tb f g) : TapM tn tb f1 g1 := ⟨hF.trans h.1, fun i => by rw [hG]; exact h.2 i⟩
section LNF
variable {tn : Nat} {tb : Nat → Nat} {j i : Nat}
abbrev lnR (tn : Nat) (tb : Nat → Nat) (i : Nat) : Prop := (if tkT tn tb i = 5 then 1 else 0) ≤ tkV tn tb (lnK tn tb i) ∧ tkV tn tb (lnK tn tb i) ≤ (if tkT tn tb i = 3 then 20 else if tkT tn tb i = 5 then 99 else 9)
theorem lnF_a (h : ¬ (3 ≤ tkT tn tb i ∧ tkT tn tb i ≤ 7)) : lnF tn tb j i = 1 ∧ lnP tn tb j i = tkA tn tb i := ⟨(if_pos h), (if_pos h)⟩
theorem lnF_b (h : 3 ≤ tkT tn tb i ∧ tkT tn tb i ≤ 7) (h2 : j = 20) : lnF tn tb j i = 3 ∧ lnP tn tb j i = tkA tn tb i := ⟨((if_neg (fun z => z h)).trans (if_pos h2)), ((if_neg (fun z => z h)).trans (if_pos h2))⟩
theorem lnF_c (h : 3 ≤ tkT tn tb i ∧ tkT tn tb i ≤ 7) (h2 : ¬ j = 20) (h3 : tkT tn tb i = 3 ∨ tkT tn tb i = 7) (h4 : ¬ (300 ≤ tkT tn tb (tkN tn tb i) ∧ tkT tn tb (tkN tn tb i) ≤ 305)) : lnF tn tb j i = 1 ∧ lnP tn tb j i = tkA tn tb (tkN tn tb i) := ⟨(((if_neg (fun z => z h)).trans (if_neg h2)).trans (if_pos ⟨h3, h4⟩)), (((if_neg (fun z => z h)).trans (if_neg h2)).trans (if_pos ⟨h3, h4⟩))⟩
theorem lnF_d (h : 3 ≤ tkT tn tb i ∧ tkT tn tb i ≤ 7) (h2 : ¬ j = 20) (h3 : (tkT tn tb i = 3 ∨ tkT tn tb i = 7) → (300 ≤ tkT tn tb (tkN tn tb i) ∧ tkT tn tb (tkN tn tb i) ≤ 305)) (h4 : tkT tn tb i ≠ 7) (h5 : tkT tn tb (lnK tn tb i) ≠ 2) : lnF tn tb j i = 1 ∧ lnP tn tb j i = tkA tn tb (lnK tn tb i) := ⟨((((if_neg (fun z => z h)).trans (if_neg h2)).trans (if_neg (fun z => z.2 (h3 z.1)))).trans (if_pos ⟨h4, h5⟩)), ((((if_neg (fun z => z h)).trans (if_neg h2)).trans (if_neg (fun z => z.2 (h3 z.1)))).trans (if_pos ⟨h4, h5⟩))⟩
theorem lnF_e (h : 3 ≤ tkT tn tb i ∧ tkT tn tb i ≤ 7) (h2 : ¬ j = 20) (h3 : (tkT tn tb i = 3 ∨ tkT tn tb i = 7) → (300 ≤ tkT tn tb (tkN tn tb i) ∧ tkT tn tb (tkN tn tb i) ≤ 305)) (h4 : tkT tn tb i ≠ 7) (h5 : tkT tn tb (lnK tn tb i) = 2) (h6 : ¬ lnR tn tb i) : lnF tn tb j i = 2 ∧ lnP tn tb j i = tkA tn tb (lnK tn tb i) := ⟨(((((if_neg (fun z => z h)).trans (if_neg h2)).trans (if_neg (fun z => z.2 (h3 z.1)))).trans (if_neg (fun z => z.2 h5))).trans (if_pos ⟨h4, h6⟩)), (((((if_neg (fun z => z h)).trans (if_neg h2)).trans (if_neg (fun z => z.2 (h3 z.1)))).trans (if_neg (fun z => z.2 h5))).trans (if_pos ⟨h4, h6⟩))⟩
theorem lnF_f (h : 3 ≤ tkT tn tb i ∧ tkT tn tb i ≤ 7) (h2 : ¬ j = 20) (h3 : (tkT tn tb i = 3 ∨ tkT tn tb i = 7) → (300 ≤ tkT tn tb (tkN tn tb i) ∧ tkT tn tb (tkN tn tb i) ≤ 305)) (h4 : tkT tn tb i ≠ 7 → tkT tn tb (lnK tn tb i) = 2 ∧ lnR tn tb i) (h5 : tkT tn tb (lnM tn tb i) ≠ 59) : lnF tn tb j i = 1 ∧ lnP tn tb j i = tkA tn tb (lnM tn tb i) := ⟨((((((if_neg (fun z => z h)).trans (if_neg h2)).trans (if_neg (fun z => z.2 (h3 z.1)))).trans (if_neg (fun z => z.2 (h4 z.1).1))).trans (if_neg (fun z => z.2 (h4 z.1).2))).trans (if_pos h5)), (((((if_neg (fun z => z h)).trans (if_neg h2)).trans (if_neg (fun z => z.2 (h3 z.1)))).trans (if_neg (fun z => z.2 (h4 z.1).1))).trans (if_neg (fun z => z.2 (h4 z.1).2)))⟩
theorem lnF_0 (h : 3 ≤ tkT tn tb i ∧ tkT tn tb i ≤ 7) (h2 : ¬ j = 20) (h3 : (tkT tn tb i = 3 ∨ tkT tn tb i = 7) → (300 ≤ tkT tn tb (tkN tn tb i) ∧ tkT tn tb (tkN tn tb i) ≤ 305)) (h4 : tkT tn tb i ≠ 7 → tkT tn tb (lnK tn tb i) = 2 ∧ lnR tn tb i) (h5 : tkT tn tb (lnM tn tb i) = 59) : lnF tn tb j i = 0 := ((((((if_neg (fun z => z h)).trans (if_neg h2)).trans (if_neg (fun z => z.2 (h3 z.1)))).trans (if_neg (fun z => z.2 (h4 z.1).1))).trans (if_neg (fun z => z.2 (h4 z.1).2))).trans (if_neg (fun z => z h5)))
theorem lnK_t (h : tkT tn tb i = 3 ∨ tkT tn tb i = 7) : lnK tn tb i = tkN tn tb (tkN tn tb i) := if_pos h
theorem lnK_f (h : ¬ (tkT tn tb i = 3 ∨ tkT tn tb i = 7)) : lnK tn tb i = tkN tn tb i := if_neg h
theorem lnM_t (h : tkT tn tb i = 7) : lnM tn tb i = lnK tn tb i := if_pos h
theorem lnM_f (h : ¬ tkT tn tb i = 7) : lnM tn tb i = tkN tn tb (lnK tn tb i) := if_neg h
theorem lnR_i {lo hi : Int} (h1 : lo = (if tkT tn tb i = 5 then 1 else 0)) (h2 : hi = (if tkT tn tb i = 3 then 20 else if tkT tn tb i = 5 then 99 else 9)) : lnR tn tb i ↔ (lo ≤ tkV tn tb (lnK tn tb i) ∧ tkV tn tb (lnK tn tb i) ≤ hi) := by rw [h1, h2]
end LNF
/-- what a line leaves in the reference's row of lines -/
def LnM (tn : Nat) (tb : Nat → Nat) (j i : Nat) (g : Nat → Nat → Int32) : Prop := g 16 (3 * j) = iI (tkT tn tb i) ∧ ((tkT tn tb i = 3 ∨ tkT tn tb i = 7) → g 16 (3 * j + 1) = iI (tkT tn tb (tkN tn tb i) - 300)) ∧ (tkT tn tb i ≠ 7 → g 16 (3 * j + 2) = iI (tkV tn tb (lnK tn tb i)))
theorem al_kn {tn : Nat} {tb : Nat → Nat} {i p : Nat} {lo hi : Int} (hp : lnK tn tb i = p) (h : tkT tn tb p = 2 ∧ lo ≤ tkV tn tb p ∧ tkV tn tb p ≤ hi) (h1 : lo = (if tkT tn tb i = 5 then 1 else 0)) (h2 : hi = (if tkT tn tb i = 3 then 20 else if tkT tn tb i = 5 then 99 else 9)) : tkT tn tb (lnK tn tb i) = 2 ∧ lnR tn tb i := by
  rw [lnR_i h1 h2, hp]; exact h
def LnPost (tn : Nat) (tb : Nat → Nat) (j i : Nat) (Γ : GG) (ad : Nat → Nat) (f : Nat → Int32) (g : Nat → Nat → Int32) : PT := fun v w2 => (lnF tn tb j i = 0 ∧ v = some (.int (bI True)) ∧ ∃ f1 g1, w2 = wM Γ ad f1 g1 ∧ TokM tn tb (lnN tn tb i) f1 ∧ f1 25 = iI ((j + 1 : Nat) : Int) ∧ f1 22 = f 22 ∧ FrT f1 f ∧ (∀ k, k ≠ 16 → g1 k = g k) ∧ LnM tn tb j i g1 ∧ (∀ q, q < 3 * j → g1 16 q = g 16 q)) ∨ (lnF tn tb j i ≠ 0 ∧ v = some (.int (bI False)) ∧ ∃ f1 g1, w2 = wM Γ ad f1 g1 ∧ f1 22 = iI (lnF tn tb j i) ∧ f1 23 = iI (lnP tn tb j i : Nat) ∧ FrT f1 f ∧ (∀ k, k ≠ 16 → g1 k = g k))
theorem al_nf {tn : Nat} {tb : Nat → Nat} {j i p : Nat} {Γ : GG} {ad : Nat → Nat} {f f1 : Nat → Int32} {g g1 : Nat → Nat → Int32} {lo hi : Int} (h : 3 ≤ tkT tn tb i ∧ tkT tn tb i ≤ 7) (h2 : ¬ j = 20) (h3 : (tkT tn tb i = 3 ∨ tkT tn tb i = 7) → (300 ≤ tkT tn tb (tkN tn tb i) ∧ tkT tn tb (tkN tn tb i) ≤ 305)) (h4 : tkT tn tb i ≠ 7) (hp : lnK tn tb i = p) (hn : ¬ (tkT tn tb p = 2 ∧ lo ≤ tkV tn tb p ∧ tkV tn tb p ≤ hi)) (e1 : lo = (if tkT tn tb i = 5 then 1 else 0)) (e2 : hi = (if tkT tn tb i = 3 then 20 else if tkT tn tb i = 5 then 99 else 9)) (h22 : f1 22 = iI (if tkT tn tb p = 2 then 2 else 1)) (h23 : f1 23 = iI (tkA tn tb p : Nat)) (hF : FrT f1 f) (hv : (0 : Int32) = bI False) (hg : ∀ k, k ≠ 16 → g1 k = g k) : LnPost tn tb j i Γ ad f g (some (.int (iI 0))) (wM Γ ad f1 g1) := by
  subst hp
  by_cases c : tkT tn tb (lnK tn tb i) = 2
  · have h6 : ¬ lnR tn tb i := fun z => hn ⟨c, (lnR_i e1 e2).mp z⟩
    have L := lnF_e (j := j) h h2 h3 h4 c h6
    rw [if_pos c] at h22
    refine Or.inr ⟨by rw [L.1]; decide, by rw [← hv]; rfl, f1, g1, rfl, by rw [L.1]; exact h22, by rw [L.2]; exact h23, hF, hg⟩
  · have L := lnF_d (j := j) h h2 h3 h4 c
    rw [if_neg c] at h22
    refine Or.inr ⟨by rw [L.1]; decide, by rw [← hv]; rfl, f1, g1, rfl, by rw [L.1]; exact h22, by rw [L.2]; exact h23, hF, hg⟩
theorem lnF_20 (tn : Nat) (tb : Nat → Nat) (i : Nat) : ¬ lnF tn tb 20 i = 0 := by
  by_cases h : 3 ≤ tkT tn tb i ∧ tkT tn tb i ≤ 7
  · rw [(lnF_b h rfl).1]; decide
  · rw [(lnF_a h).1]; decide
def LawT (x : LWT) (f : Nat → Int32) (g : Nat → Nat → Int32) : Prop := LawM x.1 x.2.1 x.2.2.1 x.2.2.2.1 x.2.2.2.2 f g
theorem lnA_3 {x : LWT} {u k v : Int} (h : u = 3) : lnA x u k v = (fun q => if q = k.toNat then v.toNat else x.1 q, x.2.1, x.2.2.1, x.2.2.2.1, x.2.2.2.2) := if_pos h
theorem lnA_4 {x : LWT} {u k v : Int} (h : u = 4) : lnA x u k v = (x.1, x.2.1, v.toNat, x.2.2.2.1, x.2.2.2.2) := (if_neg (by omega)).trans (if_pos h)
theorem lnA_5 {x : LWT} {u k v : Int} (h : u = 5) : lnA x u k v = (x.1, x.2.1, x.2.2.1, v.toNat, x.2.2.2.2) := (if_neg (by omega)).trans ((if_neg (by omega)).trans (if_pos h))
theorem lnA_6 {x : LWT} {u k v : Int} (h : u = 6) : lnA x u k v = (x.1, x.2.1, x.2.2.1, x.2.2.2.1, v.toNat) := (if_neg (by omega)).trans ((if_neg (by omega)).trans ((if_neg (by omega)).trans (if_pos h)))
theorem lnA_7 {x : LWT} {u k v : Int} (h : u = 7) : lnA x u k v = (x.1, fun q => q = k.toNat ∨ x.2.1 q, x.2.2.1, x.2.2.2.1, x.2.2.2.2) := (if_neg (by omega)).trans ((if_neg (by omega)).trans ((if_neg (by omega)).trans (if_neg (by omega))))
theorem te_3 {x : LWT} {u k v : Int} {f : Nat → Int32} {g : Nat → Nat → Int32} (h : u = 3) (hk : 0 ≤ k) (hv : 0 ≤ v) (hL : LawT x f g) : LawT (lnA x u k v) f (updA g 13 (upd (g 13) k.toNat (iI v))) := by
  rw [lnA_3 h]
  refine ⟨hL.1, hL.2.1, hL.2.2.1, fun q hq => ?_, hL.2.2.2.2⟩
  rw [updA_s]
  by_cases e : q = k.toNat
  · rw [e, upd_s]; show _ = iI ((if _ then _ else _ : Nat) : Int); rw [if_pos rfl, Int.toNat_of_nonneg hv]
  · rw [upd_n e]; show _ = iI ((if _ then _ else _ : Nat) : Int); rw [if_neg e]; exact hL.2.2.2.1 q hq
theorem te_4 {x : LWT} {u k v : Int} {f : Nat → Int32} {g : Nat → Nat → Int32} (h : u = 4) (hv : 0 ≤ v) (hL : LawT x f g) : LawT (lnA x u k v) (upd f 10 (iI v)) g := by
  rw [lnA_4 h]
  exact ⟨by show iI v = iI ((v.toNat : Nat) : Int); rw [Int.toNat_of_nonneg hv], hL.2⟩
theorem te_5 {x : LWT} {u k v : Int} {f : Nat → Int32} {g : Nat → Nat → Int32} (h : u = 5) (hv : 0 ≤ v) (hL : LawT x f g) : LawT (lnA x u k v) (upd f 11 (iI v)) g := by
  rw [lnA_5 h]
  exact ⟨hL.1, by show iI v = iI ((v.toNat : Nat) : Int); rw [Int.toNat_of_nonneg hv], hL.2.2⟩
theorem te_6 {x : LWT} {u k v : Int} {f : Nat → Int32} {g : Nat → Nat → Int32} (h : u = 6) (hv : 0 ≤ v) (hL : LawT x f g) : LawT (lnA x u k v) (upd f 12 (iI v)) g := by
  rw [lnA_6 h]
  exact ⟨hL.1, hL.2.1, by show iI v = iI ((v.toNat : Nat) : Int); rw [Int.toNat_of_nonneg hv], hL.2.2.2⟩
theorem te_7 {x : LWT} {u k v : Int} {f : Nat → Int32} {g : Nat → Nat → Int32} (h : u = 7) (hL : LawT x f g) : LawT (lnA x u k v) f (updA g 14 (upd (g 14) k.toNat (vp_nar .boolean (iI 1)))) := by
  rw [lnA_7 h]
  refine ⟨hL.1, hL.2.1, hL.2.2.1, hL.2.2.2.1, fun q hq => ?_⟩
  rw [updA_s]
  by_cases e : q = k.toNat
  · rw [e, upd_s]; exact bI_1 (P := _ ∨ _) (Or.inl rfl)
  · rw [upd_n e, hL.2.2.2.2 q hq]; exact bI_c ⟨fun z => Or.inr z, fun z => z.elim (fun y => absurd y e) (fun y => y)⟩
def FrL (f1 f : Nat → Int32) (g1 g : Nat → Nat → Int32) : Prop := (∀ k, k ≠ 10 → k ≠ 11 → k ≠ 12 → f1 k = f k) ∧ (∀ k, k ≠ 13 → k ≠ 14 → g1 k = g k)
theorem FrL_f {f : Nat → Int32} {g : Nat → Nat → Int32} {k : Nat} {x : Int32} (hk : k = 10 ∨ k = 11 ∨ k = 12) : FrL (upd f k x) f g g := ⟨fun j h1 h2 h3 => upd_n (by omega), fun _ _ _ => rfl⟩
theorem FrL_g {f : Nat → Int32} {g : Nat → Nat → Int32} {k : Nat} {x : Nat → Int32} (hk : k = 13 ∨ k = 14) : FrL f f (updA g k x) g := ⟨fun _ _ _ _ => rfl, fun j h1 h2 => updA_n (by omega)⟩
theorem FrL_tr {f2 f1 f : Nat → Int32} {g2 g1 g : Nat → Nat → Int32} (h2 : FrL f2 f1 g2 g1) (h1 : FrL f1 f g1 g) : FrL f2 f g2 g := ⟨fun k a b c => (h2.1 k a b c).trans (h1.1 k a b c), fun k a b => (h2.2 k a b).trans (h1.2 k a b)⟩
theorem law_0 {f : Nat → Int32} {g : Nat → Nat → Int32} (h1 : f 10 = iI 0) (h2 : f 11 = iI 12) (h3 : f 12 = iI 1) (h4 : ∀ k, k < 6 → g 13 k = iI 1 ∧ g 14 k = bI False) : LawT lw0 f g := ⟨h1, h2, h3, fun k hk => (h4 k hk).1, fun k hk => (h4 k hk).2⟩
def RuPost (tn : Nat) (tb : Nat → Nat) (Γ : GG) (ad : Nat → Nat) (f : Nat → Int32) (g : Nat → Nat → Int32) : PT := fun v w2 => ∃ f1 g1, w2 = wM Γ ad f1 g1 ∧ f1 17 = iI 0 ∧ (∀ k, k ≠ 13 → k ≠ 14 → k ≠ 16 → g1 k = g k) ∧ (∀ k, k ≠ 10 → k ≠ 11 → k ≠ 12 → (k < 17 ∨ 26 < k) → f1 k = f k) ∧
  ((tkT tn tb (lnI tn tb (lnJ tn tb)) = 0 ∧ v = some (.int (iI (lnJ tn tb : Nat))) ∧ f1 24 = iI 0 ∧ f1 26 = iI (-1) ∧ LawT (lnL tn tb (lnJ tn tb)) f1 g1) ∨
   (¬ tkT tn tb (lnI tn tb (lnJ tn tb)) = 0 ∧ v = some (.int (iI (-1))) ∧ f1 24 = iI (lnF tn tb (lnJ tn tb) (lnI tn tb (lnJ tn tb))) ∧ f1 26 = iI (lnP tn tb (lnJ tn tb) (lnI tn tb (lnJ tn tb)) : Nat) ∧ f1 10 = f 10 ∧ f1 11 = f 11 ∧ f1 12 = f 12 ∧ g1 13 = g 13 ∧ g1 14 = g 14))
/-- the reference's walk over the years: t steps of it are done -/
def SpM (F : Nat → Nat → Int) (B : Nat → Nat → Prop) (ho : Nat) (pf : Int) (t : Nat) (f : Nat → Int32) (g : Nat → Nat → Int32) : Prop := f 39 = iI (aTL F B ho pf t).1 ∧ f 40 = iI (aTL F B ho pf t).2 ∧ (∀ n, n < 2 → g 36 n = iI (aMy B ho n (kyT t n) : Nat)) ∧ (∀ n, n < 2 → g 37 n = iI (aRn B n (kyT t n) : Nat)) ∧ (∀ n, n < 2 → ∀ r, kyT t n ≤ r + aRn B n (kyT t n) → r < kyT t n → g 38 (1000 * n + r) = iI (F n r))
theorem ky_n {t n y : Nat} (ht : t = 2 * y + n) (hn : n < 2) : kyT t n = y ∧ kyT (t + 1) n = y + 1 ∧ t % 2 = n ∧ t / 2 = y := by
  unfold kyT; (repeat' split) <;> omega
theorem ky_o {t n y k : Nat} (ht : t = 2 * y + n) (hn : n < 2) (hk : k < 2) (h : k ≠ n) : kyT (t + 1) k = kyT t k := by
  unfold kyT; (repeat' split) <;> omega
section SPM
variable {F : Nat → Nat → Int} {B : Nat → Nat → Prop} {ho : Nat} {pf : Int} {t n y : Nat} {f : Nat → Int32} {g : Nat → Nat → Int32}
/-- a year that does not count -/
theorem sp_0 (h : SpM F B ho pf t f g) (ht : t = 2 * y + n) (hn : n < 2) (hh : 1 ≤ ho) (hB : ¬ B n y) : SpM F B ho pf (t + 1) f (updA g 37 (upd (g 37) n (iI 0))) := by
  obtain ⟨k1, k2, k3, k4⟩ := ky_n ht hn
  have hr := rn_f hB
  obtain ⟨h1, h2, h3, h4, h5⟩ := h
  have e := tl_f (F := F) (pf := pf) (B := B) (ho := ho) k3 k4 (fun z => absurd z.1 (by rw [hr]; omega))
  refine ⟨by rw [e]; exact h1, by rw [e]; exact h2, fun k hk => ?_, fun k hk => ?_, fun k hk => ?_⟩
  · by_cases c : k = n
    · subst c
      have h6 := h3 k hk
      rw [k1] at h6
      rw [k2, my_f (by rw [hr]; omega)]; exact h6
    · rw [ky_o ht hn hk c]; exact h3 k hk
  · rw [updA_s]
    by_cases c : k = n
    · subst c; rw [upd_s, k2, hr]; rfl
    · rw [upd_n c, ky_o ht hn hk c]; exact h4 k hk
  · intro r r1 r2
    by_cases c : k = n
    · subst c; rw [k2, hr] at r1; rw [k2] at r2; omega
    · rw [ky_o ht hn hk c] at r1 r2; exact h5 k hk r r1 r2
/-- the cells behind a year that counts -/
def spG (g : Nat → Nat → Int32) (n i : Nat) (x z : Int32) : Nat → Nat → Int32 := updA (updA g 38 (upd (g 38) i x)) 37 (upd (updA g 38 (upd (g 38) i x) 37) n z)
theorem sp_1 (h : SpM F B ho pf t f g) (ht : t = 2 * y + n) (hn : n < 2) (hy : y < 1000) (hB : B n y) : (∀ k, k < 2 → spG g n (1000 * n + y) (iI (F n y)) (iI (((aRn B n y : Nat) : Int) + 1)) 37 k = iI (aRn B k (kyT (t + 1) k) : Nat)) ∧ (∀ k, k < 2 → ∀ r, kyT (t + 1) k ≤ r + aRn B k (kyT (t + 1) k) → r < kyT (t + 1) k → spG g n (1000 * n + y) (iI (F n y)) (iI (((aRn B n y : Nat) : Int) + 1)) 38 (1000 * k + r) = iI (F k r)) := by
  obtain ⟨k1, k2, k3, k4⟩ := ky_n ht hn
  have hr := rn_t hB
  obtain ⟨h1, h2, h3, h4, h5⟩ := h
  refine ⟨fun k hk => ?_, fun k hk r r1 r2 => ?_⟩
  · unfold spG
    rw [updA_s]
    by_cases c : k = n
    · subst c; rw [upd_s, k2, hr]; rfl
    · rw [upd_n c, ky_o ht hn hk c, updA_n (by decide)]; exact h4 k hk
  · unfold spG
    rw [updA_n (by decide), updA_s]
    by_cases c : k = n
    · subst c
      rw [k2, hr] at r1
      rw [k2] at r2
      by_cases d : r = y
      · rw [d, upd_s]
      · rw [upd_n (by omega)]
        exact h5 k hk r (by rw [k1]; omega) (by rw [k1]; omega)
    · rw [ky_o ht hn hk c] at r1 r2
      have hkl : kyT t k ≤ 1000 := by unfold kyT; split <;> omega
      rw [upd_n (by omega)]
      exact h5 k hk r r1 r2
theorem sp_3 (h : SpM F B ho pf t f g) (ht : t = 2 * y + n) (hn : n < 2) (hl : ¬ ho ≤ aRn B n (y + 1)) : ∀ k, k < 2 → g 36 k = iI (aMy B ho k (kyT (t + 1) k) : Nat) := by
  obtain ⟨k1, k2, k3, k4⟩ := ky_n ht hn
  intro k hk
  by_cases c : k = n
  · subst c
    have h6 := h.2.2.1 k hk
    rw [k1] at h6
    rw [k2, my_f hl]; exact h6
  · rw [ky_o ht hn hk c]; exact h.2.2.1 k hk
theorem sp_4 (h : SpM F B ho pf t f g) (ht : t = 2 * y + n) (hn : n < 2) (hl : ho ≤ aRn B n (y + 1)) : ∀ k, k < 2 → upd (g 36) n (iI (((aMy B ho n y : Nat) : Int) + 1)) k = iI (aMy B ho k (kyT (t + 1) k) : Nat) := by
  obtain ⟨k1, k2, k3, k4⟩ := ky_n ht hn
  intro k hk
  by_cases c : k = n
  · subst c; rw [upd_s, k2, my_t hl]; rfl
  · rw [upd_n c, ky_o ht hn hk c]; exact h.2.2.1 k hk
theorem sp_5 (h : SpM F B ho pf t f g) (ht : t = 2 * y + n) (hn : n < 2) (hy : y < 1000) (hB : B n y) (hl : ¬ ho ≤ aRn B n y + 1) : SpM F B ho pf (t + 1) f (spG g n (1000 * n + y) (iI (F n y)) (iI (((aRn B n y : Nat) : Int) + 1))) := by
  obtain ⟨k1, k2, k3, k4⟩ := ky_n ht hn
  have hl2 : ¬ ho ≤ aRn B n (y + 1) := by rw [rn_t hB]; exact hl
  have e := tl_f (F := F) (pf := pf) (B := B) (ho := ho) k3 k4 (fun z => hl2 z.1)
  have q := sp_1 h ht hn hy hB
  exact ⟨by rw [e]; exact h.1, by rw [e]; exact h.2.1, fun k hk => (show g 36 k = _ from sp_3 h ht hn hl2 k hk), q.1, q.2⟩
def spH (g : Nat → Nat → Int32) (n : Nat) (x : Int32) : Nat → Nat → Int32 := updA g 36 (upd (g 36) n x)
theorem sp_6 (h : SpM F B ho pf t f g) (ht : t = 2 * y + n) (hn : n < 2) (hy : y < 1000) (hB : B n y) (hl : ho ≤ aRn B n y + 1) (hb : ¬ byd n (aNr F ho n y) (aTL F B ho pf t).1) : SpM F B ho pf (t + 1) f (spH (spG g n (1000 * n + y) (iI (F n y)) (iI (((aRn B n y : Nat) : Int) + 1))) n (iI (((aMy B ho n y : Nat) : Int) + 1))) := by
  obtain ⟨k1, k2, k3, k4⟩ := ky_n ht hn
  have hl2 : ho ≤ aRn B n (y + 1) := by rw [rn_t hB]; exact hl
  have e := tl_f (F := F) (pf := pf) (B := B) (ho := ho) k3 k4 (fun z => hb z.2)
  have q := sp_1 h ht hn hy hB
  exact ⟨by rw [e]; exact h.1, by rw [e]; exact h.2.1, fun k hk => by unfold spH; rw [updA_s]; exact sp_4 h ht hn hl2 k hk, q.1, q.2⟩
theorem sp_7 (h : SpM F B ho pf t f g) (ht : t = 2 * y + n) (hn : n < 2) (hy : y < 1000) (hB : B n y) (hl : ho ≤ aRn B n y + 1) (hb : byd n (aNr F ho n y) (aTL F B ho pf t).1) : SpM F B ho pf (t + 1) (upd (upd f 39 (iI (aNr F ho n y))) 40 (iI (y : Nat))) (spH (spG g n (1000 * n + y) (iI (F n y)) (iI (((aRn B n y : Nat) : Int) + 1))) n (iI (((aMy B ho n y : Nat) : Int) + 1))) := by
  obtain ⟨k1, k2, k3, k4⟩ := ky_n ht hn
  have hl2 : ho ≤ aRn B n (y + 1) := by rw [rn_t hB]; exact hl
  have e := tl_t (F := F) (pf := pf) (B := B) (ho := ho) k3 k4 hl2 hb
  have q := sp_1 h ht hn hy hB
  exact ⟨by rw [e]; rfl, by rw [e]; rfl, fun k hk => by unfold spH; rw [updA_s]; exact sp_4 h ht hn hl2 k hk, q.1, q.2⟩
theorem sp_ft (h : SpM F B ho pf t f g) (ht : t = 2 * y + n) (hn : n < 2) (hy : y < 1000) (hB : B n y) : ∀ r, y ≤ r + aRn B n y → r < y + 1 → spG g n (1000 * n + y) (iI (F n y)) (iI (((aRn B n y : Nat) : Int) + 1)) 38 (1000 * n + r) = iI (F n r) := by
  obtain ⟨k1, k2, k3, k4⟩ := ky_n ht hn
  have q := (sp_1 h ht hn hy hB).2 n hn
  rw [k2, rn_t hB] at q
  exact fun r r1 r2 => q r (by omega) r2
theorem sp_rn (h : SpM F B ho pf t f g) (ht : t = 2 * y + n) (hn : n < 2) : g 37 n = iI (aRn B n y : Nat) ∧ g 36 n = iI (aMy B ho n y : Nat) := by
  obtain ⟨k1, k2, k3, k4⟩ := ky_n ht hn
  have q1 := h.2.2.2.1 n hn
  have q2 := h.2.2.1 n hn
  rw [k1] at q1 q2
  exact ⟨q1, q2⟩
theorem pick_a {m : Nat} {a b : Int} (h : (m = 0 ∧ a ≤ b) ∨ (m ≠ 0 ∧ b ≤ a)) : a = pick m a b := by
  unfold pick; (repeat' split) <;> omega
theorem pick_b {m : Nat} {a b : Int} (h : (m = 0 ∧ b < a) ∨ (m ≠ 0 ∧ a < b)) : b = pick m a b := by
  unfold pick; (repeat' split) <;> omega
end SPM
