theorem wdT_c (x : Int64) : wdT x = 1 ∨ (3 ≤ wdT x ∧ wdT x ≤ 7) ∨ (300 ≤ wdT x ∧ wdT x ≤ 305) := by
  unfold wdT
  (repeat' split) <;> omega
theorem tkT_c (tn : Nat) (tb : Nat → Nat) (i : Nat) : (0 ≤ tkT tn tb i ∧ tkT tn tb i ≤ 7) ∨ tkT tn tb i = 59 ∨ (300 ≤ tkT tn tb i ∧ tkT tn tb i ≤ 305) := by
  have h := wdT_c (pkW tn tb (tkA tn tb i) (spn (tLe tb) tn (tkA tn tb i) - tkA tn tb i))
  unfold tkT
  (repeat' split) <;> omega
theorem ct_i (tn : Nat) (tb : Nat → Nat) (i : Nat) : (ctT tn tb i = 3 ↔ tkT tn tb i = 59) ∧ (ctT tn tb i = 2 ↔ tkT tn tb i = 2) ∧ (tkT tn tb i = 2 → ctV tn tb i = tkV tn tb i) ∧ ((ctT tn tb i = 1 ∧ ctV tn tb i < 6) ↔ (300 ≤ tkT tn tb i ∧ tkT tn tb i ≤ 305)) ∧ (300 ≤ tkT tn tb i → ctV tn tb i = tkT tn tb i - 300) ∧ (6 ≤ vbI tn tb i ↔ (3 ≤ tkT tn tb i ∧ tkT tn tb i ≤ 7)) ∧ (6 ≤ vbI tn tb i → vbI tn tb i = tkT tn tb i + 3) ∧ vbI tn tb i ≤ 10 ∧ (ctT tn tb i = 0 ↔ tkT tn tb i = 0) := by
  have h := tkT_c tn tb i
  have h2 := tkV_b tn tb i
  unfold vbI ctT ctV
  refine ⟨?_, ?_, ?_, ?_, ?_, ?_, ?_, ?_, ?_⟩ <;> (repeat' split) <;> omega
theorem lnF_z {tn : Nat} {tb : Nat → Nat} {j i : Nat} (h : lnF tn tb j i = 0) : (3 ≤ tkT tn tb i ∧ tkT tn tb i ≤ 7) ∧ ¬ j = 20 ∧ ((tkT tn tb i = 3 ∨ tkT tn tb i = 7) → (300 ≤ tkT tn tb (tkN tn tb i) ∧ tkT tn tb (tkN tn tb i) ≤ 305)) ∧ (tkT tn tb i ≠ 7 → tkT tn tb (lnK tn tb i) = 2 ∧ lnR tn tb i) := by
  have a : 3 ≤ tkT tn tb i ∧ tkT tn tb i ≤ 7 := Classical.byContradiction fun c => absurd ((lnF_a c).1.symm.trans h) (by decide)
  have b : ¬ j = 20 := fun c => absurd ((lnF_b a c).1.symm.trans h) (by decide)
  have c : (tkT tn tb i = 3 ∨ tkT tn tb i = 7) → (300 ≤ tkT tn tb (tkN tn tb i) ∧ tkT tn tb (tkN tn tb i) ≤ 305) := fun z => Classical.byContradiction fun q => absurd ((lnF_c a b z q).1.symm.trans h) (by decide)
  refine ⟨a, b, c, fun z => ?_⟩
  by_cases q : tkT tn tb (lnK tn tb i) = 2
  · by_cases r : lnR tn tb i
    · exact ⟨q, r⟩
    · exact absurd ((lnF_e a b c z q r).1.symm.trans h) (by decide)
  · exact absurd ((lnF_d a b c z q).1.symm.trans h) (by decide)
theorem ft_i {tn : Nat} {tb : Nat → Nat} {i q : Nat} (hq : lnK tn tb i = q) (h : 3 ≤ tkT tn tb i ∧ tkT tn tb i ≤ 7) (h7 : tkT tn tb i ≠ 7) (hn : tkT tn tb q = 2) : ftI (vbI tn tb i) (ctV tn tb q) ↔ lnR tn tb i := by
  have a := ct_i tn tb i
  have b := ct_i tn tb q
  have e1 := a.2.2.2.2.2.2.1 (a.2.2.2.2.2.1.mpr h)
  have e2 := b.2.2.1 hn
  have v := tkV_b tn tb q
  rw [e1, e2]
  unfold lnR ftI
  rw [hq]
  (repeat' split) <;> omega
section RL
variable {tn : Nat} {tb : Nat → Nat} {i j : Nat} {fp : Int}
noncomputable abbrev rF1 (tn : Nat) (tb : Nat → Nat) (i j : Nat) : Int := dmF (((j : Nat) : Int) < 20) (dmF (6 ≤ vbI tn tb i) 0 1) 3
noncomputable abbrev rQ1 (tn : Nat) (tb : Nat → Nat) (i j : Nat) (fp : Int) : Int := dmP (((j : Nat) : Int) < 20) (dmF (6 ≤ vbI tn tb i) 0 1) (dmP (6 ≤ vbI tn tb i) 0 fp ((tkA tn tb i : Nat) : Int)) ((tkA tn tb i : Nat) : Int)
theorem rl_1 (hj : j ≤ 20) : (¬ (3 ≤ tkT tn tb i ∧ tkT tn tb i ≤ 7) ∧ rF1 tn tb i j = 1 ∧ rQ1 tn tb i j fp = ((tkA tn tb i : Nat) : Int)) ∨ ((3 ≤ tkT tn tb i ∧ tkT tn tb i ≤ 7) ∧ j = 20 ∧ rF1 tn tb i j = 3 ∧ rQ1 tn tb i j fp = ((tkA tn tb i : Nat) : Int)) ∨ ((3 ≤ tkT tn tb i ∧ tkT tn tb i ≤ 7) ∧ ¬ j = 20 ∧ rF1 tn tb i j = 0 ∧ rQ1 tn tb i j fp = fp) := by
  have a := (ct_i tn tb i).2.2.2.2.2.1
  unfold rF1 rQ1
  by_cases c : 6 ≤ vbI tn tb i
  · have e := dm_t (P := 6 ≤ vbI tn tb i) (fk := 0) (fp := fp) (k := 1) (a := ((tkA tn tb i : Nat) : Int)) c
    rw [e.1, e.2]
    by_cases d : j = 20
    · exact Or.inr (Or.inl ⟨a.mp c, d, (dm_f (fp := fp) (a := ((tkA tn tb i : Nat) : Int)) (by omega) rfl).1, (dm_f (k := 3) (by omega) rfl).2⟩)
    · exact Or.inr (Or.inr ⟨a.mp c, d, (dm_t (fp := fp) (a := ((tkA tn tb i : Nat) : Int)) (by omega)).1, (dm_t (k := 3) (by omega)).2⟩)
  · have e := dm_f (P := 6 ≤ vbI tn tb i) (fk := 0) (fp := fp) (k := 1) (a := ((tkA tn tb i : Nat) : Int)) c rfl
    rw [e.1, e.2]
    exact Or.inl ⟨fun z => c (a.mpr z), (dm_n (fp := fp) (a := ((tkA tn tb i : Nat) : Int)) (by decide)).1, (dm_n (k := 3) (by decide)).2⟩
/-- a chain of demands behind a fault keeps it -/
theorem dm_k {P : Prop} {F Q k a F0 Q0 : Int} (hF : F = F0) (hQ : Q = Q0) (h : F0 ≠ 0) : dmF P F k = F0 ∧ dmP P F Q a = Q0 := by
  subst hF; subst hQ; exact dm_n h
theorem dm_ok {P : Prop} {F Q k a Q0 : Int} (hF : F = 0) (hQ : Q = Q0) (h : P) : dmF P F k = 0 ∧ dmP P F Q a = Q0 := by
  subst hF; subst hQ; exact dm_t h
theorem dm_bad {P : Prop} {F Q k a : Int} (hF : F = 0) (h : ¬ P) : dmF P F k = k ∧ dmP P F Q a = a := dm_f h hF
/-- the last demand: the semicolon at q -/
theorem rl_e {q : Nat} {F Q : Int} (hq : lnM tn tb i = q) (h : 3 ≤ tkT tn tb i ∧ tkT tn tb i ≤ 7) (h2 : ¬ j = 20) (h3 : (tkT tn tb i = 3 ∨ tkT tn tb i = 7) → (300 ≤ tkT tn tb (tkN tn tb i) ∧ tkT tn tb (tkN tn tb i) ≤ 305)) (h4 : tkT tn tb i ≠ 7 → tkT tn tb (lnK tn tb i) = 2 ∧ lnR tn tb i) (hF : F = 0) (hQ : Q = fp) : dmF (ctT tn tb q = 3) F 1 = lnF tn tb j i ∧ (lnF tn tb j i = 0 → dmP (ctT tn tb q = 3) F Q ((tkA tn tb q : Nat) : Int) = fp) ∧ (lnF tn tb j i ≠ 0 → dmP (ctT tn tb q = 3) F Q ((tkA tn tb q : Nat) : Int) = ((lnP tn tb j i : Nat) : Int)) := by
  have a := (ct_i tn tb q).1
  by_cases c : ctT tn tb q = 3
  · have e := lnF_0 (j := j) h h2 h3 h4 (by rw [hq]; exact a.mp c)
    have d := dm_ok (k := 1) (a := ((tkA tn tb q : Nat) : Int)) hF hQ c
    exact ⟨d.1.trans e.symm, fun _ => d.2, fun z => absurd e z⟩
  · have e := lnF_f (j := j) h h2 h3 h4 (by rw [hq]; exact fun z => c (a.mpr z))
    have d := dm_bad (Q := Q) (k := 1) (a := ((tkA tn tb q : Nat) : Int)) hF c
    exact ⟨d.1.trans e.1.symm, fun z => absurd (e.1.symm.trans z) (by decide), fun _ => d.2.trans (by rw [e.2, hq])⟩
theorem rl_b {q : Nat} {F Q F0 : Int} {P0 : Nat} (hL : lnF tn tb j i = F0 ∧ lnP tn tb j i = P0) (h0 : F0 ≠ 0) (hF : F = F0) (hQ : Q = ((P0 : Nat) : Int)) : dmF (ctT tn tb q = 3) F 1 = lnF tn tb j i ∧ (lnF tn tb j i = 0 → dmP (ctT tn tb q = 3) F Q ((tkA tn tb q : Nat) : Int) = fp) ∧ (lnF tn tb j i ≠ 0 → dmP (ctT tn tb q = 3) F Q ((tkA tn tb q : Nat) : Int) = ((lnP tn tb j i : Nat) : Int)) := by
  have d := dm_k (P := ctT tn tb q = 3) (k := 1) (a := ((tkA tn tb q : Nat) : Int)) hF hQ h0
  rw [hL.1, hL.2]
  exact ⟨d.1, fun z => absurd z h0, fun _ => d.2⟩
/-- the number at q -/
theorem rl_n {q : Nat} {F Q : Int} (hq : lnK tn tb i = q) (h7 : tkT tn tb i ≠ 7) (h : 3 ≤ tkT tn tb i ∧ tkT tn tb i ≤ 7) (h2 : ¬ j = 20) (h3 : (tkT tn tb i = 3 ∨ tkT tn tb i = 7) → (300 ≤ tkT tn tb (tkN tn tb i) ∧ tkT tn tb (tkN tn tb i) ≤ 305)) (hF : F = 0) (hQ : Q = fp) :
    dmF (ctT tn tb (tkN tn tb q) = 3) (dmF (ftI (vbI tn tb i) (ctV tn tb q)) (dmF (ctT tn tb q = 2) F 1) 2) 1 = lnF tn tb j i ∧ (lnF tn tb j i = 0 → dmP (ctT tn tb (tkN tn tb q) = 3) (dmF (ftI (vbI tn tb i) (ctV tn tb q)) (dmF (ctT tn tb q = 2) F 1) 2) (dmP (ftI (vbI tn tb i) (ctV tn tb q)) (dmF (ctT tn tb q = 2) F 1) (dmP (ctT tn tb q = 2) F Q ((tkA tn tb q : Nat) : Int)) ((tkA tn tb q : Nat) : Int)) ((tkA tn tb (tkN tn tb q) : Nat) : Int) = fp) ∧ (lnF tn tb j i ≠ 0 → dmP (ctT tn tb (tkN tn tb q) = 3) (dmF (ftI (vbI tn tb i) (ctV tn tb q)) (dmF (ctT tn tb q = 2) F 1) 2) (dmP (ftI (vbI tn tb i) (ctV tn tb q)) (dmF (ctT tn tb q = 2) F 1) (dmP (ctT tn tb q = 2) F Q ((tkA tn tb q : Nat) : Int)) ((tkA tn tb q : Nat) : Int)) ((tkA tn tb (tkN tn tb q) : Nat) : Int) = ((lnP tn tb j i : Nat) : Int)) := by
  have a := (ct_i tn tb q).2.1
  by_cases c : ctT tn tb q = 2
  · have d1 := dm_ok (k := 1) (a := ((tkA tn tb q : Nat) : Int)) hF hQ c
    have ft := ft_i hq h h7 (a.mp c)
    by_cases e : ftI (vbI tn tb i) (ctV tn tb q)
    · have d2 := dm_ok (k := 2) (a := ((tkA tn tb q : Nat) : Int)) d1.1 d1.2 e
      exact rl_e (by rw [lnM_f h7, hq]) h h2 h3 (fun _ => ⟨by rw [hq]; exact a.mp c, ft.mp e⟩) d2.1 d2.2
    · have d2 := dm_bad (Q := dmP (ctT tn tb q = 2) F Q ((tkA tn tb q : Nat) : Int)) (k := 2) (a := ((tkA tn tb q : Nat) : Int)) d1.1 e
      have L := lnF_e (j := j) h h2 h3 h7 (by rw [hq]; exact a.mp c) (fun z => e (ft.mpr z))
      rw [hq] at L
      exact rl_b L (by decide) d2.1 d2.2
  · have d1 := dm_bad (Q := Q) (k := 1) (a := ((tkA tn tb q : Nat) : Int)) hF c
    have d2 := dm_k (P := ftI (vbI tn tb i) (ctV tn tb q)) (k := 2) (a := ((tkA tn tb q : Nat) : Int)) d1.1 d1.2 (by decide)
    have L := lnF_d (j := j) h h2 h3 h7 (by rw [hq]; exact fun z => c (a.mpr z))
    rw [hq] at L
    exact rl_b L (by decide) d2.1 d2.2
/-- a number demanded behind a fault -/
theorem rl_nb {q : Nat} {F Q F0 : Int} {P0 : Nat} (hL : lnF tn tb j i = F0 ∧ lnP tn tb j i = P0) (h0 : F0 ≠ 0) (hF : F = F0) (hQ : Q = ((P0 : Nat) : Int)) :
    dmF (ctT tn tb (tkN tn tb q) = 3) (dmF (ftI (vbI tn tb i) (ctV tn tb q)) (dmF (ctT tn tb q = 2) F 1) 2) 1 = lnF tn tb j i ∧ (lnF tn tb j i = 0 → dmP (ctT tn tb (tkN tn tb q) = 3) (dmF (ftI (vbI tn tb i) (ctV tn tb q)) (dmF (ctT tn tb q = 2) F 1) 2) (dmP (ftI (vbI tn tb i) (ctV tn tb q)) (dmF (ctT tn tb q = 2) F 1) (dmP (ctT tn tb q = 2) F Q ((tkA tn tb q : Nat) : Int)) ((tkA tn tb q : Nat) : Int)) ((tkA tn tb (tkN tn tb q) : Nat) : Int) = fp) ∧ (lnF tn tb j i ≠ 0 → dmP (ctT tn tb (tkN tn tb q) = 3) (dmF (ftI (vbI tn tb i) (ctV tn tb q)) (dmF (ctT tn tb q = 2) F 1) 2) (dmP (ftI (vbI tn tb i) (ctV tn tb q)) (dmF (ctT tn tb q = 2) F 1) (dmP (ctT tn tb q = 2) F Q ((tkA tn tb q : Nat) : Int)) ((tkA tn tb q : Nat) : Int)) ((tkA tn tb (tkN tn tb q) : Nat) : Int) = ((lnP tn tb j i : Nat) : Int)) := by
  have d1 := dm_k (P := ctT tn tb q = 2) (k := 1) (a := ((tkA tn tb q : Nat) : Int)) hF hQ h0
  have d2 := dm_k (P := ftI (vbI tn tb i) (ctV tn tb q)) (k := 2) (a := ((tkA tn tb q : Nat) : Int)) d1.1 d1.2 h0
  exact rl_b hL h0 d2.1 d2.2
theorem vb_k (h : ¬ vbI tn tb i = 6) (h2 : ¬ vbI tn tb i = 10) : ¬ (tkT tn tb i = 3 ∨ tkT tn tb i = 7) := by
  have a := ct_i tn tb i
  intro z
  have := a.2.2.2.2.2.2.1 (a.2.2.2.2.2.1.mpr (by omega))
  omega
/-- other verbs -/
theorem rl_o (hj : j ≤ 20) (h6 : ¬ vbI tn tb i = 6) (h10 : ¬ vbI tn tb i = 10) :
    dmF (ctT tn tb (tkN tn tb (tkN tn tb i)) = 3) (dmF (ftI (vbI tn tb i) (ctV tn tb (tkN tn tb i))) (dmF (ctT tn tb (tkN tn tb i) = 2) (rF1 tn tb i j) 1) 2) 1 = lnF tn tb j i ∧ (lnF tn tb j i = 0 → dmP (ctT tn tb (tkN tn tb (tkN tn tb i)) = 3) (dmF (ftI (vbI tn tb i) (ctV tn tb (tkN tn tb i))) (dmF (ctT tn tb (tkN tn tb i) = 2) (rF1 tn tb i j) 1) 2) (dmP (ftI (vbI tn tb i) (ctV tn tb (tkN tn tb i))) (dmF (ctT tn tb (tkN tn tb i) = 2) (rF1 tn tb i j) 1) (dmP (ctT tn tb (tkN tn tb i) = 2) (rF1 tn tb i j) (rQ1 tn tb i j fp) ((tkA tn tb (tkN tn tb i) : Nat) : Int)) ((tkA tn tb (tkN tn tb i) : Nat) : Int)) ((tkA tn tb (tkN tn tb (tkN tn tb i)) : Nat) : Int) = fp) ∧ (lnF tn tb j i ≠ 0 → dmP (ctT tn tb (tkN tn tb (tkN tn tb i)) = 3) (dmF (ftI (vbI tn tb i) (ctV tn tb (tkN tn tb i))) (dmF (ctT tn tb (tkN tn tb i) = 2) (rF1 tn tb i j) 1) 2) (dmP (ftI (vbI tn tb i) (ctV tn tb (tkN tn tb i))) (dmF (ctT tn tb (tkN tn tb i) = 2) (rF1 tn tb i j) 1) (dmP (ctT tn tb (tkN tn tb i) = 2) (rF1 tn tb i j) (rQ1 tn tb i j fp) ((tkA tn tb (tkN tn tb i) : Nat) : Int)) ((tkA tn tb (tkN tn tb i) : Nat) : Int)) ((tkA tn tb (tkN tn tb (tkN tn tb i)) : Nat) : Int) = ((lnP tn tb j i : Nat) : Int)) := by
  have hk := vb_k h6 h10
  rcases rl_1 (tn := tn) (tb := tb) (i := i) (fp := fp) hj with ⟨a, b, c⟩ | ⟨a, a2, b, c⟩ | ⟨a, a2, b, c⟩
  · exact rl_nb (lnF_a a) (by decide) b c
  · exact rl_nb (lnF_b a a2) (by decide) b c
  · exact rl_n (lnK_f hk) (by omega) a a2 (fun z => absurd z hk) b c
theorem vb_w (h : vbI tn tb i = 6 ∨ vbI tn tb i = 10) : 3 ≤ tkT tn tb i ∧ tkT tn tb i ≤ 7 ∧ vbI tn tb i = tkT tn tb i + 3 := by
  have a := ct_i tn tb i
  have b := a.2.2.2.2.2.1.mp (by omega)
  exact ⟨b.1, b.2, a.2.2.2.2.2.2.1 (by omega)⟩
/-- the kind -/
theorem rl_k (hj : j ≤ 20) (h : vbI tn tb i = 6 ∨ vbI tn tb i = 10) : (∃ F0 : Int, ∃ P0 : Nat, (lnF tn tb j i = F0 ∧ lnP tn tb j i = P0) ∧ F0 ≠ 0 ∧ dmF (ctT tn tb (tkN tn tb i) = 1 ∧ ctV tn tb (tkN tn tb i) < 6) (rF1 tn tb i j) 1 = F0 ∧ dmP (ctT tn tb (tkN tn tb i) = 1 ∧ ctV tn tb (tkN tn tb i) < 6) (rF1 tn tb i j) (rQ1 tn tb i j fp) ((tkA tn tb (tkN tn tb i) : Nat) : Int) = ((P0 : Nat) : Int)) ∨ (¬ j = 20 ∧ (300 ≤ tkT tn tb (tkN tn tb i) ∧ tkT tn tb (tkN tn tb i) ≤ 305) ∧ dmF (ctT tn tb (tkN tn tb i) = 1 ∧ ctV tn tb (tkN tn tb i) < 6) (rF1 tn tb i j) 1 = 0 ∧ dmP (ctT tn tb (tkN tn tb i) = 1 ∧ ctV tn tb (tkN tn tb i) < 6) (rF1 tn tb i j) (rQ1 tn tb i j fp) ((tkA tn tb (tkN tn tb i) : Nat) : Int) = fp) := by
  have w := vb_w h
  have k := (ct_i tn tb (tkN tn tb i)).2.2.2.1
  rcases rl_1 (tn := tn) (tb := tb) (i := i) (fp := fp) hj with ⟨a, b, c⟩ | ⟨a, a2, b, c⟩ | ⟨a, a2, b, c⟩
  · exact absurd ⟨w.1, w.2.1⟩ a
  · have d := dm_k (P := ctT tn tb (tkN tn tb i) = 1 ∧ ctV tn tb (tkN tn tb i) < 6) (k := 1) (a := ((tkA tn tb (tkN tn tb i) : Nat) : Int)) b c (by decide)
    exact Or.inl ⟨_, _, lnF_b a a2, by decide, d.1, d.2⟩
  · by_cases e : ctT tn tb (tkN tn tb i) = 1 ∧ ctV tn tb (tkN tn tb i) < 6
    · have d := dm_ok (k := 1) (a := ((tkA tn tb (tkN tn tb i) : Nat) : Int)) b c e
      exact Or.inr ⟨a2, k.mp e, d.1, d.2⟩
    · have d := dm_bad (Q := rQ1 tn tb i j fp) (k := 1) (a := ((tkA tn tb (tkN tn tb i) : Nat) : Int)) b e
      exact Or.inl ⟨_, _, lnF_c a a2 (by omega) (fun z => e (k.mpr z)), by decide, d.1, d.2⟩
end RL

section RL2
variable {tn : Nat} {tb : Nat → Nat} {i j : Nat} {fp : Int}
theorem rl_w (hj : j ≤ 20) (h : vbI tn tb i = 6) : (dmF (ctT tn tb (tkN tn tb (tkN tn tb (tkN tn tb i))) = 3) (dmF (ftI (vbI tn tb i) (ctV tn tb (tkN tn tb (tkN tn tb i)))) (dmF (ctT tn tb (tkN tn tb (tkN tn tb i)) = 2) (dmF (ctT tn tb (tkN tn tb i) = 1 ∧ ctV tn tb (tkN tn tb i) < 6) (rF1 tn tb i j) 1) 1) 2) 1) = lnF tn tb j i ∧ (lnF tn tb j i = 0 → (dmP (ctT tn tb (tkN tn tb (tkN tn tb (tkN tn tb i))) = 3) (dmF (ftI (vbI tn tb i) (ctV tn tb (tkN tn tb (tkN tn tb i)))) (dmF (ctT tn tb (tkN tn tb (tkN tn tb i)) = 2) (dmF (ctT tn tb (tkN tn tb i) = 1 ∧ ctV tn tb (tkN tn tb i) < 6) (rF1 tn tb i j) 1) 1) 2) (dmP (ftI (vbI tn tb i) (ctV tn tb (tkN tn tb (tkN tn tb i)))) (dmF (ctT tn tb (tkN tn tb (tkN tn tb i)) = 2) (dmF (ctT tn tb (tkN tn tb i) = 1 ∧ ctV tn tb (tkN tn tb i) < 6) (rF1 tn tb i j) 1) 1) (dmP (ctT tn tb (tkN tn tb (tkN tn tb i)) = 2) (dmF (ctT tn tb (tkN tn tb i) = 1 ∧ ctV tn tb (tkN tn tb i) < 6) (rF1 tn tb i j) 1) (dmP (ctT tn tb (tkN tn tb i) = 1 ∧ ctV tn tb (tkN tn tb i) < 6) (rF1 tn tb i j) (rQ1 tn tb i j fp) ((tkA tn tb (tkN tn tb i) : Nat) : Int)) ((tkA tn tb (tkN tn tb (tkN tn tb i)) : Nat) : Int)) ((tkA tn tb (tkN tn tb (tkN tn tb i)) : Nat) : Int)) ((tkA tn tb (tkN tn tb (tkN tn tb (tkN tn tb i))) : Nat) : Int)) = fp) ∧ (lnF tn tb j i ≠ 0 → (dmP (ctT tn tb (tkN tn tb (tkN tn tb (tkN tn tb i))) = 3) (dmF (ftI (vbI tn tb i) (ctV tn tb (tkN tn tb (tkN tn tb i)))) (dmF (ctT tn tb (tkN tn tb (tkN tn tb i)) = 2) (dmF (ctT tn tb (tkN tn tb i) = 1 ∧ ctV tn tb (tkN tn tb i) < 6) (rF1 tn tb i j) 1) 1) 2) (dmP (ftI (vbI tn tb i) (ctV tn tb (tkN tn tb (tkN tn tb i)))) (dmF (ctT tn tb (tkN tn tb (tkN tn tb i)) = 2) (dmF (ctT tn tb (tkN tn tb i) = 1 ∧ ctV tn tb (tkN tn tb i) < 6) (rF1 tn tb i j) 1) 1) (dmP (ctT tn tb (tkN tn tb (tkN tn tb i)) = 2) (dmF (ctT tn tb (tkN tn tb i) = 1 ∧ ctV tn tb (tkN tn tb i) < 6) (rF1 tn tb i j) 1) (dmP (ctT tn tb (tkN tn tb i) = 1 ∧ ctV tn tb (tkN tn tb i) < 6) (rF1 tn tb i j) (rQ1 tn tb i j fp) ((tkA tn tb (tkN tn tb i) : Nat) : Int)) ((tkA tn tb (tkN tn tb (tkN tn tb i)) : Nat) : Int)) ((tkA tn tb (tkN tn tb (tkN tn tb i)) : Nat) : Int)) ((tkA tn tb (tkN tn tb (tkN tn tb (tkN tn tb i))) : Nat) : Int)) = ((lnP tn tb j i : Nat) : Int)) := by
  have w := vb_w (Or.inl h)
  rcases rl_k (tn := tn) (tb := tb) (i := i) (fp := fp) hj (Or.inl h) with ⟨F0, P0, hL, h0, hF, hQ⟩ | ⟨a, b, hF, hQ⟩
  · exact rl_nb hL h0 hF hQ
  · exact rl_n (lnK_t (by omega)) (by omega) ⟨w.1, w.2.1⟩ a (fun _ => b) hF hQ
theorem rl_nw (hj : j ≤ 20) (h : vbI tn tb i = 10) : (dmF (ctT tn tb (tkN tn tb (tkN tn tb i)) = 3) (dmF (ctT tn tb (tkN tn tb i) = 1 ∧ ctV tn tb (tkN tn tb i) < 6) (rF1 tn tb i j) 1) 1) = lnF tn tb j i ∧ (lnF tn tb j i = 0 → (dmP (ctT tn tb (tkN tn tb (tkN tn tb i)) = 3) (dmF (ctT tn tb (tkN tn tb i) = 1 ∧ ctV tn tb (tkN tn tb i) < 6) (rF1 tn tb i j) 1) (dmP (ctT tn tb (tkN tn tb i) = 1 ∧ ctV tn tb (tkN tn tb i) < 6) (rF1 tn tb i j) (rQ1 tn tb i j fp) ((tkA tn tb (tkN tn tb i) : Nat) : Int)) ((tkA tn tb (tkN tn tb (tkN tn tb i)) : Nat) : Int)) = fp) ∧ (lnF tn tb j i ≠ 0 → (dmP (ctT tn tb (tkN tn tb (tkN tn tb i)) = 3) (dmF (ctT tn tb (tkN tn tb i) = 1 ∧ ctV tn tb (tkN tn tb i) < 6) (rF1 tn tb i j) 1) (dmP (ctT tn tb (tkN tn tb i) = 1 ∧ ctV tn tb (tkN tn tb i) < 6) (rF1 tn tb i j) (rQ1 tn tb i j fp) ((tkA tn tb (tkN tn tb i) : Nat) : Int)) ((tkA tn tb (tkN tn tb (tkN tn tb i)) : Nat) : Int)) = ((lnP tn tb j i : Nat) : Int)) := by
  have w := vb_w (Or.inr h)
  rcases rl_k (tn := tn) (tb := tb) (i := i) (fp := fp) hj (Or.inr h) with ⟨F0, P0, hL, h0, hF, hQ⟩ | ⟨a, b, hF, hQ⟩
  · exact rl_b hL h0 hF hQ
  · exact rl_e (by rw [lnM_t (by omega), lnK_t (by omega)]) ⟨w.1, w.2.1⟩ a (fun _ => b) (fun z => absurd (show tkT tn tb i = 7 by omega) z) hF hQ
end RL2
theorem lnA_k {x : LWT} {u k k2 v : Int} (h4 : 4 ≤ u ∧ u ≤ 6) : lnA x u k v = lnA x u k2 v := by unfold lnA; (repeat' split) <;> first | rfl | (exfalso; omega)
theorem lnA_v {x : LWT} {u k v v2 : Int} (h7 : u = 7) : lnA x u k v = lnA x u k v2 := by rw [lnA_7 h7, lnA_7 h7]
def RlPost (tn : Nat) (tb : Nat → Nat) (j i : Nat) (x : LWT) (fp : Int) (Γ : GG) (ad : Nat → Nat) (ed : Nat) (f g : Nat → Nat → Int32) (tl : va_W) : PT := fun v w2 => v = none ∧ ∃ f1 g1, w2 = wC Γ ad ed f1 g1 tl ∧ FrE f1 f g1 g ∧ ((lnF tn tb j i = 0 ∧ TokC tn tb (lnN tn tb i) f1 ∧ f1 3 0 = iI 0 ∧ f1 3 1 = iI fp ∧ f1 3 2 = iI ((j + 1 : Nat) : Int) ∧ LawD (lnA x (tkT tn tb i) (tkT tn tb (tkN tn tb i) - 300) (tkV tn tb (lnK tn tb i))) f1 g1) ∨ (lnF tn tb j i ≠ 0 ∧ f1 3 0 = iI (lnF tn tb j i) ∧ f1 3 1 = iI ((lnP tn tb j i : Nat) : Int)))

theorem TokC_e {tn : Nat} {tb : Nat → Nat} {i : Nat} {f1 f : Nat → Nat → Int32} {x : Int32} (h : ∀ o j, o ≠ 10 → f1 o j = updA f 3 (upd (f 3) 2 x) o j) (hK : TokC tn tb i f) : TokC tn tb i f1 := ⟨(h 3 4 (by omega)).trans hK.1, (h 3 5 (by omega)).trans hK.2.1, (h 3 6 (by omega)).trans hK.2.2.1, (h 3 7 (by omega)).trans hK.2.2.2⟩

theorem LawD_k {x : LWT} {f1 f g : Nat → Nat → Int32} (h : FrR f1 f) (hL : LawD x f g) : LawD x f1 g := ⟨(h 10 2 (by omega)).trans hL.1, (h 10 3 (by omega)).trans hL.2.1, (h 10 4 (by omega)).trans hL.2.2.1, hL.2.2.2⟩

abbrev rm_X1_readLine : Room := ({ frames := 7, cells := 0, slots := 0, locals := 148 } : Room)
set_option maxHeartbeats 4000000 in
set_option maxRecDepth 100000 in
theorem c_X1_readLine {E : XX} (hE : XS E) (l : Launch) {Γ : GG} {κ : KK} (hN : EN E κ)  {ad : Nat → Nat} {ed : Nat} {f g : Nat → Nat → Int32} {tl : va_W} {tn : Nat} {tb : Nat → Nat} (hT : TapC tn tb f g) (hTB : TapB tn tb) {i j : Nat} {fp : Int} {x : LWT} (hi : i ≤ tn) (hj : j ≤ 20) (h0 : f 3 0 = iI 0) (h1 : f 3 1 = iI fp) (h2 : f 3 2 = iI (j : Nat)) (hK : TokC tn tb i f) (hL : LawD x f g) : Con E l yX1_readLine cX1_readLine 5 none rm_X1_readLine Γ (wC Γ ad ed f g tl) [.ref (ad 3), .ref (ad 10)] (RlPost tn tb j i x fp Γ ad ed f g tl) := by
  refine Con_mk (by decide) (Nat.le_of_ble_eq_true rfl) ?_
  intro p e s₀ m args below meth c A Fx hr hlk hnm X ls hl
  have hl : lv_has ls 5 [(0, .ref (ad 3)), (1, .ref (ad 10))] := hl
  have hFx : FrR f f := fun _ _ _ => rfl
  have hcb := ct_b tn tb i
  have hfb : (0 : Int) ≤ 0 ∧ (0 : Int) ≤ 3 := by omega
  have hvb0 := vb_b tn tb i
  have jn_16 : ∀ (H : Heap) (locs : List Loc) (ls : Array Slot), Wd E Γ A s₀ H locs (wC Γ ad ed f g tl) → lv_has ls 5 [(0, .ref (ad 3)), (1, .ref (ad 10))] → W p l e rm_X1_readLine s₀ m args below meth c H locs (0) (0) (RQ below args s₀ Γ A (RlPost tn tb j i x fp Γ ad ed f g tl) rm_X1_readLine) (F0 m 16 ls [.int (iI (vbI tn tb i))]) := by
    intro H locs ls X hl
    refine lv_istore_n (lv' := [(2, .int (iI (vbI tn tb i))), (0, .ref (ad 3)), (1, .ref (ad 10))]) Fx.1 Fx.2.1 dX1_readLine_16 rfl hl (by decide) rfl (fun ls hl => ?_)
    refine lv_aload_n Fx.1 Fx.2.1 dX1_readLine_17 rfl (lv_at hl 1 rfl) ?_
    have jn_29 : ∀ (H : Heap) (locs : List Loc) (ls : Array Slot), Wd E Γ A s₀ H locs (wC Γ ad ed f g tl) → lv_has ls 5 [(2, .int (iI (vbI tn tb i))), (0, .ref (ad 3)), (1, .ref (ad 10))] → W p l e rm_X1_readLine s₀ m args below meth c H locs (0) (0) (RQ below args s₀ Γ A (RlPost tn tb j i x fp Γ ad ed f g tl) rm_X1_readLine) (F0 m 29 ls [.int (bI (6 ≤ vbI tn tb i)), .ref (ad 3)]) := by
      intro H locs ls X hl
      refine k_iconst Fx dX1_readLine_29 ?_
      refine r_callV (As := [.int (bI (6 ≤ vbI tn tb i)), .int (iI (1))]) (rest := []) hE Fx X (c_X1_demand hE l (P := 6 ≤ vbI tn tb i) (fk := 0) (fp := fp) (k := 1) (a0 := ((tkA tn tb i : Nat) : Int)) hfb (by exact h0) (by exact h1) (by exact hK.2.2.1)) cV_X1_49 (recC_3 X) rfl rfl (Nat.le_of_ble_eq_true rfl) (by decide) hl.1 dX1_readLine_30 (fun v9 w9 H locs hq X => ?_)
      obtain ⟨rfl, f_1, rfl, h0, h1, hFd⟩ := hq
      have hfb := dm_b (P := 6 ≤ vbI tn tb i) hfb (show (1 : Int) ≤ 1 ∧ (1 : Int) ≤ 3 by omega)
      have hK := TokC_d hFd hK
      have hT := TapC_d hFd hT
      have h2 : f_1 3 2 = _ := (hFd 3 2 (by omega)).trans h2
      have hFx : FrR f_1 f := fun o j h => (hFd o j (by omega)).trans (hFx o j h)
      refine lv_aload_n Fx.1 Fx.2.1 dX1_readLine_33 rfl (lv_at hl 1 rfl) ?_
      have jn_48 : ∀ (H : Heap) (locs : List Loc) (ls : Array Slot), Wd E Γ A s₀ H locs (wC Γ ad ed f_1 g tl) → lv_has ls 5 [(2, .int (iI (vbI tn tb i))), (0, .ref (ad 3)), (1, .ref (ad 10))] → W p l e rm_X1_readLine s₀ m args below meth c H locs (0) (0) (RQ below args s₀ Γ A (RlPost tn tb j i x fp Γ ad ed f g tl) rm_X1_readLine) (F0 m 48 ls [.int (bI (((j : Nat) : Int) < 20)), .ref (ad 3)]) := by
        intro H locs ls X hl
        refine k_iconst Fx dX1_readLine_48 ?_
        refine r_callV (As := [.int (bI (((j : Nat) : Int) < 20)), .int (iI (3))]) (rest := []) hE Fx X (c_X1_demand hE l (P := ((j : Nat) : Int) < 20) (fk := dmF (6 ≤ vbI tn tb i) (0) 1) (fp := dmP (6 ≤ vbI tn tb i) (0) (fp) ((tkA tn tb i : Nat) : Int)) (k := 3) (a0 := ((tkA tn tb i : Nat) : Int)) hfb (by exact h0) (by exact h1) (by exact hK.2.2.1)) cV_X1_49 (recC_3 X) rfl rfl (Nat.le_of_ble_eq_true rfl) (by decide) hl.1 dX1_readLine_49 (fun v9 w9 H locs hq X => ?_)
        obtain ⟨rfl, f_2, rfl, h0, h1, hFd⟩ := hq
        have hfb := dm_b (P := ((j : Nat) : Int) < 20) hfb (show (1 : Int) ≤ 3 ∧ (3 : Int) ≤ 3 by omega)
        have hK := TokC_d hFd hK
        have hT := TapC_d hFd hT
        have h2 : f_2 3 2 = _ := (hFd 3 2 (by omega)).trans h2
        have hFx : FrR f_2 f := fun o j h => (hFd o j (by omega)).trans (hFx o j h)
        refine lv_aload_n Fx.1 Fx.2.1 dX1_readLine_52 rfl (lv_at hl 1 rfl) ?_
        have hi := tkN_le (tb := tb) hi
        refine r_callV (As := []) (rest := []) hE Fx X (c_X1_advance hE l hN (by exact hT) hTB (i := tkN tn tb i) hi (by exact hK.1)) cV_X1_42 (recC_3 X) rfl rfl (Nat.le_of_ble_eq_true rfl) (by decide) hl.1 dX1_readLine_53 (fun v9 w9 H locs hq X => ?_)
        obtain ⟨rfl, f_3, rfl, hK, hFk⟩ := hq
        have hT := TapC_k hFk hT
        have h0 := (hFk 3 0 (by omega)).trans h0
        have h1 := (hFk 3 1 (by omega)).trans h1
        have hcb := ct_b tn tb (tkN tn tb i)
        have h2 : f_3 3 2 = _ := (hFk 3 2 (by omega)).trans h2
        have hFx : FrR f_3 f := fun o j h => (hFk o j (by omega)).trans (hFx o j h)
        refine k_iconst Fx dX1_readLine_56 ?_
        refine lv_istore_n (lv' := [(3, .int (iI ((-1)))), (2, .int (iI (vbI tn tb i))), (0, .ref (ad 3)), (1, .ref (ad 10))]) Fx.1 Fx.2.1 dX1_readLine_57 rfl hl (by decide) rfl (fun ls hl => ?_)
        refine k_iconst Fx dX1_readLine_58 ?_
        refine lv_istore (lv' := [(4, .int (iI ((-1)))), (3, .int (iI ((-1)))), (2, .int (iI (vbI tn tb i))), (0, .ref (ad 3)), (1, .ref (ad 10))]) Fx.1 Fx.2.1 dX1_readLine_59 hl (by decide) rfl (fun ls hl => ?_)
        refine lv_iload_n Fx.1 Fx.2.1 dX1_readLine_61 rfl (lv_at hl 2 rfl) ?_
        refine k_bipush Fx dX1_readLine_62 (by decide) ?_
        refine k_icmp_eq (a := vbI tn tb i) (b := 6) (tgt := 73) Fx dX1_readLine_64 (by decide) (by omega) (by omega) (fun c_64 => ?_) (fun c_64 => ?_)
        · refine lv_aload_n Fx.1 Fx.2.1 dX1_readLine_73 rfl (lv_at hl 3 rfl) ?_
          refine r_callV (As := []) (rest := []) hE Fx X (c_X1_kindHere hE l hN (by exact hT) hTB (i := tkN tn tb i) (j := j) (fk := dmF (((j : Nat) : Int) < 20) (dmF (6 ≤ vbI tn tb i) (0) 1) 3) (fp := dmP (((j : Nat) : Int) < 20) (dmF (6 ≤ vbI tn tb i) (0) 1) (dmP (6 ≤ vbI tn tb i) (0) (fp) ((tkA tn tb i : Nat) : Int)) ((tkA tn tb i : Nat) : Int)) hi hfb (by exact h0) (by exact h1) (by exact h2) (by exact hK)) cV_X1_53 (recC_3 X) rfl rfl (Nat.le_of_ble_eq_true rfl) (by decide) hl.1 dX1_readLine_74 (fun v9 w9 H locs hq X => ?_)
          obtain ⟨rfl, f_4, rfl, h0, h1, hFd⟩ := hq
          have hfb := dm_b (P := ctT tn tb (tkN tn tb i) = 1 ∧ ctV tn tb (tkN tn tb i) < 6) hfb (show (1 : Int) ≤ 1 ∧ (1 : Int) ≤ 3 by omega)
          have hK := TokC_d hFd hK
          have hT := TapC_d hFd hT
          have h2 : f_4 3 2 = _ := (hFd 3 2 (by omega)).trans h2
          have hFx : FrR f_4 f := fun o j h => (hFd o j (by omega)).trans (hFx o j h)
          refine lv_istore_n (lv' := [(3, .int (iI (ctV tn tb (tkN tn tb i)))), (4, .int (iI ((-1)))), (2, .int (iI (vbI tn tb i))), (0, .ref (ad 3)), (1, .ref (ad 10))]) Fx.1 Fx.2.1 dX1_readLine_77 rfl hl (by decide) rfl (fun ls hl => ?_)
          refine lv_aload_n Fx.1 Fx.2.1 dX1_readLine_78 rfl (lv_at hl 3 rfl) ?_
          have hi := tkN_le (tb := tb) hi
          refine r_callV (As := []) (rest := []) hE Fx X (c_X1_advance hE l hN (by exact hT) hTB (i := tkN tn tb (tkN tn tb i)) hi (by exact hK.1)) cV_X1_42 (recC_3 X) rfl rfl (Nat.le_of_ble_eq_true rfl) (by decide) hl.1 dX1_readLine_79 (fun v9 w9 H locs hq X => ?_)
          obtain ⟨rfl, f_5, rfl, hK, hFk⟩ := hq
          have hT := TapC_k hFk hT
          have h0 := (hFk 3 0 (by omega)).trans h0
          have h1 := (hFk 3 1 (by omega)).trans h1
          have hcb := ct_b tn tb (tkN tn tb (tkN tn tb i))
          have h2 : f_5 3 2 = _ := (hFk 3 2 (by omega)).trans h2
          have hFx : FrR f_5 f := fun o j h => (hFk o j (by omega)).trans (hFx o j h)
          refine lv_iload_n Fx.1 Fx.2.1 dX1_readLine_82 rfl (lv_at hl 2 rfl) ?_
          refine k_bipush Fx dX1_readLine_83 (by decide) ?_
          refine k_icmp_eq (a := vbI tn tb i) (b := 10) (tgt := 99) Fx dX1_readLine_85 (by decide) (by omega) (by omega) (fun c_85 => ?_) (fun c_85 => ?_)
          · exact absurd c_85 (by omega)
          · refine lv_aload_n Fx.1 Fx.2.1 dX1_readLine_88 rfl (lv_at hl 3 rfl) ?_
            refine lv_iload_n Fx.1 Fx.2.1 dX1_readLine_89 rfl (lv_at hl 2 rfl) ?_
            refine r_callV (As := [.int (iI (vbI tn tb i))]) (rest := []) hE Fx X (c_X1_numberHere hE l hN (by exact hT) hTB (i := tkN tn tb (tkN tn tb i)) (j := j) (fk := dmF (ctT tn tb (tkN tn tb i) = 1 ∧ ctV tn tb (tkN tn tb i) < 6) (dmF (((j : Nat) : Int) < 20) (dmF (6 ≤ vbI tn tb i) (0) 1) 3) 1) (fp := dmP (ctT tn tb (tkN tn tb i) = 1 ∧ ctV tn tb (tkN tn tb i) < 6) (dmF (((j : Nat) : Int) < 20) (dmF (6 ≤ vbI tn tb i) (0) 1) 3) (dmP (((j : Nat) : Int) < 20) (dmF (6 ≤ vbI tn tb i) (0) 1) (dmP (6 ≤ vbI tn tb i) (0) (fp) ((tkA tn tb i : Nat) : Int)) ((tkA tn tb i : Nat) : Int)) ((tkA tn tb (tkN tn tb i) : Nat) : Int)) hi hfb (by exact h0) (by exact h1) (by exact h2) (by exact hK) (u := vbI tn tb i) (by omega)) cV_X1_57 (recC_3 X) rfl rfl (Nat.le_of_ble_eq_true rfl) (by decide) hl.1 dX1_readLine_90 (fun v9 w9 H locs hq X => ?_)
            obtain ⟨rfl, f_6, rfl, h0, h1, hFd⟩ := hq
            have hfb := dm_b (P := ftI (vbI tn tb i) (ctV tn tb (tkN tn tb (tkN tn tb i)))) (dm_b (P := ctT tn tb (tkN tn tb (tkN tn tb i)) = 2) hfb (show (1 : Int) ≤ 1 ∧ (1 : Int) ≤ 3 by omega)) (show (1 : Int) ≤ 2 ∧ (2 : Int) ≤ 3 by omega)
            have hK := TokC_d hFd hK
            have hT := TapC_d hFd hT
            have h2 : f_6 3 2 = _ := (hFd 3 2 (by omega)).trans h2
            have hFx : FrR f_6 f := fun o j h => (hFd o j (by omega)).trans (hFx o j h)
            refine lv_istore (lv' := [(4, .int (iI (ctV tn tb (tkN tn tb (tkN tn tb i))))), (3, .int (iI (ctV tn tb (tkN tn tb i)))), (2, .int (iI (vbI tn tb i))), (0, .ref (ad 3)), (1, .ref (ad 10))]) Fx.1 Fx.2.1 dX1_readLine_93 hl (by decide) rfl (fun ls hl => ?_)
            refine lv_aload_n Fx.1 Fx.2.1 dX1_readLine_95 rfl (lv_at hl 3 rfl) ?_
            have hi := tkN_le (tb := tb) hi
            refine r_callV (As := []) (rest := []) hE Fx X (c_X1_advance hE l hN (by exact hT) hTB (i := tkN tn tb (tkN tn tb (tkN tn tb i))) hi (by exact hK.1)) cV_X1_42 (recC_3 X) rfl rfl (Nat.le_of_ble_eq_true rfl) (by decide) hl.1 dX1_readLine_96 (fun v9 w9 H locs hq X => ?_)
            obtain ⟨rfl, f_7, rfl, hK, hFk⟩ := hq
            have hT := TapC_k hFk hT
            have h0 := (hFk 3 0 (by omega)).trans h0
            have h1 := (hFk 3 1 (by omega)).trans h1
            have hcb := ct_b tn tb (tkN tn tb (tkN tn tb (tkN tn tb i)))
            have h2 : f_7 3 2 = _ := (hFk 3 2 (by omega)).trans h2
            have hFx : FrR f_7 f := fun o j h => (hFk o j (by omega)).trans (hFx o j h)
            refine lv_aload_n Fx.1 Fx.2.1 dX1_readLine_99 rfl (lv_at hl 3 rfl) ?_
            have jn_113 : ∀ (H : Heap) (locs : List Loc) (ls : Array Slot), Wd E Γ A s₀ H locs (wC Γ ad ed f_7 g tl) → lv_has ls 5 [(4, .int (iI (ctV tn tb (tkN tn tb (tkN tn tb i))))), (3, .int (iI (ctV tn tb (tkN tn tb i)))), (2, .int (iI (vbI tn tb i))), (0, .ref (ad 3)), (1, .ref (ad 10))] → W p l e rm_X1_readLine s₀ m args below meth c H locs (0) (0) (RQ below args s₀ Γ A (RlPost tn tb j i x fp Γ ad ed f g tl) rm_X1_readLine) (F0 m 113 ls [.int (bI (ctT tn tb (tkN tn tb (tkN tn tb (tkN tn tb i))) = 3)), .ref (ad 3)]) := by
              intro H locs ls X hl
              refine k_iconst Fx dX1_readLine_113 ?_
              refine r_callV (As := [.int (bI (ctT tn tb (tkN tn tb (tkN tn tb (tkN tn tb i))) = 3)), .int (iI (1))]) (rest := []) hE Fx X (c_X1_demand hE l (P := ctT tn tb (tkN tn tb (tkN tn tb (tkN tn tb i))) = 3) (fk := dmF (ftI (vbI tn tb i) (ctV tn tb (tkN tn tb (tkN tn tb i)))) (dmF (ctT tn tb (tkN tn tb (tkN tn tb i)) = 2) (dmF (ctT tn tb (tkN tn tb i) = 1 ∧ ctV tn tb (tkN tn tb i) < 6) (dmF (((j : Nat) : Int) < 20) (dmF (6 ≤ vbI tn tb i) (0) 1) 3) 1) 1) 2) (fp := dmP (ftI (vbI tn tb i) (ctV tn tb (tkN tn tb (tkN tn tb i)))) (dmF (ctT tn tb (tkN tn tb (tkN tn tb i)) = 2) (dmF (ctT tn tb (tkN tn tb i) = 1 ∧ ctV tn tb (tkN tn tb i) < 6) (dmF (((j : Nat) : Int) < 20) (dmF (6 ≤ vbI tn tb i) (0) 1) 3) 1) 1) (dmP (ctT tn tb (tkN tn tb (tkN tn tb i)) = 2) (dmF (ctT tn tb (tkN tn tb i) = 1 ∧ ctV tn tb (tkN tn tb i) < 6) (dmF (((j : Nat) : Int) < 20) (dmF (6 ≤ vbI tn tb i) (0) 1) 3) 1) (dmP (ctT tn tb (tkN tn tb i) = 1 ∧ ctV tn tb (tkN tn tb i) < 6) (dmF (((j : Nat) : Int) < 20) (dmF (6 ≤ vbI tn tb i) (0) 1) 3) (dmP (((j : Nat) : Int) < 20) (dmF (6 ≤ vbI tn tb i) (0) 1) (dmP (6 ≤ vbI tn tb i) (0) (fp) ((tkA tn tb i : Nat) : Int)) ((tkA tn tb i : Nat) : Int)) ((tkA tn tb (tkN tn tb i) : Nat) : Int)) ((tkA tn tb (tkN tn tb (tkN tn tb i)) : Nat) : Int)) ((tkA tn tb (tkN tn tb (tkN tn tb i)) : Nat) : Int)) (k := 1) (a0 := ((tkA tn tb (tkN tn tb (tkN tn tb (tkN tn tb i))) : Nat) : Int)) hfb (by exact h0) (by exact h1) (by exact hK.2.2.1)) cV_X1_49 (recC_3 X) rfl rfl (Nat.le_of_ble_eq_true rfl) (by decide) hl.1 dX1_readLine_114 (fun v9 w9 H locs hq X => ?_)
              obtain ⟨rfl, f_8, rfl, h0, h1, hFd⟩ := hq
              have hfb := dm_b (P := ctT tn tb (tkN tn tb (tkN tn tb (tkN tn tb i))) = 3) hfb (show (1 : Int) ≤ 1 ∧ (1 : Int) ≤ 3 by omega)
              have hK := TokC_d hFd hK
              have hT := TapC_d hFd hT
              have h2 : f_8 3 2 = _ := (hFd 3 2 (by omega)).trans h2
              have hFx : FrR f_8 f := fun o j h => (hFd o j (by omega)).trans (hFx o j h)
              refine lv_aload_n Fx.1 Fx.2.1 dX1_readLine_117 rfl (lv_at hl 3 rfl) ?_
              have hi := tkN_le (tb := tb) hi
              refine r_callV (As := []) (rest := []) hE Fx X (c_X1_advance hE l hN (by exact hT) hTB (i := tkN tn tb (tkN tn tb (tkN tn tb (tkN tn tb i)))) hi (by exact hK.1)) cV_X1_42 (recC_3 X) rfl rfl (Nat.le_of_ble_eq_true rfl) (by decide) hl.1 dX1_readLine_118 (fun v9 w9 H locs hq X => ?_)
              obtain ⟨rfl, f_9, rfl, hK, hFk⟩ := hq
              have hT := TapC_k hFk hT
              have h0 := (hFk 3 0 (by omega)).trans h0
              have h1 := (hFk 3 1 (by omega)).trans h1
              have hcb := ct_b tn tb (tkN tn tb (tkN tn tb (tkN tn tb (tkN tn tb i))))
              have h2 : f_9 3 2 = _ := (hFk 3 2 (by omega)).trans h2
              have hFx : FrR f_9 f := fun o j h => (hFk o j (by omega)).trans (hFx o j h)
              refine lv_aload_n Fx.1 Fx.2.1 dX1_readLine_121 rfl (lv_at hl 3 rfl) ?_
              refine gC_X1_9_3 (x := (iI (dmF (ctT tn tb (tkN tn tb (tkN tn tb (tkN tn tb i))) = 3) (dmF (ftI (vbI tn tb i) (ctV tn tb (tkN tn tb (tkN tn tb i)))) (dmF (ctT tn tb (tkN tn tb (tkN tn tb i)) = 2) (dmF (ctT tn tb (tkN tn tb i) = 1 ∧ ctV tn tb (tkN tn tb i) < 6) (dmF (((j : Nat) : Int) < 20) (dmF (6 ≤ vbI tn tb i) (0) 1) 3) 1) 1) 2) 1))) Fx X (h0) dX1_readLine_122 ?_
              refine k_if_ne (a := dmF (ctT tn tb (tkN tn tb (tkN tn tb (tkN tn tb i))) = 3) (dmF (ftI (vbI tn tb i) (ctV tn tb (tkN tn tb (tkN tn tb i)))) (dmF (ctT tn tb (tkN tn tb (tkN tn tb i)) = 2) (dmF (ctT tn tb (tkN tn tb i) = 1 ∧ ctV tn tb (tkN tn tb i) < 6) (dmF (((j : Nat) : Int) < 20) (dmF (6 ≤ vbI tn tb i) (0) 1) 3) 1) 1) 2) 1) (tgt := 146) Fx dX1_readLine_125 (by decide) (by omega) (fun c_125 => ?_) (fun c_125 => ?_)
              · exact r_vret Fx hr hlk X (by decide) dX1_readLine_146 (⟨rfl, _, _, rfl, ⟨fun o k h1 h2 => hFx o k h1, fun _ _ _ => rfl⟩, Or.inr ⟨fun z => c_125 ((rl_w (fp := fp) hj c_64).1.trans z), h0.trans (congrArg iI (rl_w (fp := fp) hj c_64).1), h1.trans (congrArg iI ((rl_w (fp := fp) hj c_64).2.2 (fun z => c_125 ((rl_w (fp := fp) hj c_64).1.trans z))))⟩⟩)
              · have hL : LawD x _ g := LawD_k hFx hL
                refine lv_aload_n Fx.1 Fx.2.1 dX1_readLine_128 rfl (lv_at hl 3 rfl) ?_
                refine lv_dup Fx.1 Fx.2.1 dX1_readLine_129 rfl ?_
                refine gC_X1_18_3 (x := (iI (((j : Nat) : Int)))) Fx X (h2) dX1_readLine_130 ?_
                refine k_iconst Fx dX1_readLine_133 ?_
                refine k_iadd Fx dX1_readLine_134 ?_
                refine pC_X1_18_3 Fx X dX1_readLine_135 (fun H locs X => ?_)
                refine lv_aload_n Fx.1 Fx.2.1 dX1_readLine_138 rfl (lv_at hl 4 rfl) ?_
                refine lv_iload_n Fx.1 Fx.2.1 dX1_readLine_139 rfl (lv_at hl 2 rfl) ?_
                refine lv_iload_n Fx.1 Fx.2.1 dX1_readLine_140 rfl (lv_at hl 1 rfl) ?_
                refine lv_iload Fx.1 Fx.2.1 dX1_readLine_141 (lv_at hl 0 rfl) ?_
                have hR := rl_w (fp := fp) hj c_64
                have hz := hR.1.symm.trans c_125
                have hZ := lnF_z hz
                have hci0 := ct_i tn tb i
                have hci1 := ct_i tn tb (tkN tn tb i)
                have hvb := hci0.2.2.2.2.2.2.1 (hci0.2.2.2.2.2.1.mpr hZ.1)
                have hkk := hZ.2.2.1 (by omega)
                have hck := hci1.2.2.2.2.1 hkk.1
                have hK9 : lnK tn tb i = tkN tn tb (tkN tn tb i) := lnK_t (by omega)
                have hnn := hZ.2.2.2 (by omega)
                rw [hK9] at hnn
                have hcv := (ct_i tn tb _).2.2.1 hnn.1
                have hvr := tkV_b tn tb (lnK tn tb i)
                rw [hK9] at hvr
                refine r_callS (As := [.ref (ad 10), .int (iI (vbI tn tb i)), .int (iI (ctV tn tb (tkN tn tb i))), .int (iI (ctV tn tb (tkN tn tb (tkN tn tb i))))]) (rest := []) hE Fx X (c_X1_enact hE l (x := x) (by exact hL) (u := vbI tn tb i) (k := ctV tn tb (tkN tn tb i)) (v := ctV tn tb (tkN tn tb (tkN tn tb i))) (by omega) (by omega) (fun z => by omega) (fun z => by omega)) cS_X1_61 rfl rfl (Nat.le_of_ble_eq_true rfl) (by decide) hl.1 dX1_readLine_143 (fun v9 w9 H locs hq X => ?_)
                obtain ⟨rfl, f_10, g_11, rfl, hLe, hFe, hGe⟩ := hq
                exact r_vret Fx hr hlk X (by decide) dX1_readLine_146 (⟨rfl, _, _, rfl, ⟨fun o k h1 h2 => (hFe o k h2).trans ((frF (by omega)).trans (hFx o k h1)), hGe⟩, Or.inl ⟨hz, (show lnN tn tb i = _ from by unfold lnN; rw [lnM_f (by omega), hK9]) ▸ TokC_e hFe hK, (hFe 3 0 (by omega)).trans (h0.trans (congrArg iI c_125)), (hFe 3 1 (by omega)).trans (h1.trans (congrArg iI (hR.2.1 hz))), (hFe 3 2 (by omega)).trans (congrArg iI (by omega)), by rw [hK9]; rw [(show vbI tn tb i - 3 = tkT tn tb i by omega), hck, hcv] at hLe; exact hLe⟩⟩)
            refine lv_aload_n Fx.1 Fx.2.1 dX1_readLine_100 rfl (lv_at hl 3 rfl) ?_
            refine gC_X1_24_3 (x := (iI (ctT tn tb (tkN tn tb (tkN tn tb (tkN tn tb i)))))) Fx X (hK.2.1) dX1_readLine_101 ?_
            refine k_iconst Fx dX1_readLine_104 ?_
            refine k_icmp_ne (a := ctT tn tb (tkN tn tb (tkN tn tb (tkN tn tb i)))) (b := 3) (tgt := 112) Fx dX1_readLine_105 (by decide) (by omega) (by omega) (fun c_105 => ?_) (fun c_105 => ?_)
            · refine k_iconst Fx dX1_readLine_112 ?_
              refine k_cg (show (iI (0)) = (bI (ctT tn tb (tkN tn tb (tkN tn tb (tkN tn tb i))) = 3)) from bI_0 (by omega)) ?_
              exact jn_113 _ _ _ X hl
            · refine k_iconst Fx dX1_readLine_108 ?_
              refine lv_goto (tgt := 113) Fx.1 Fx.2.1 dX1_readLine_109 (by decide) ?_
              refine k_cg (show (iI (1)) = (bI (ctT tn tb (tkN tn tb (tkN tn tb (tkN tn tb i))) = 3)) from bI_1 (by omega)) ?_
              exact jn_113 _ _ _ X hl
        · refine lv_iload_n Fx.1 Fx.2.1 dX1_readLine_67 rfl (lv_at hl 2 rfl) ?_
          refine k_bipush Fx dX1_readLine_68 (by decide) ?_
          refine k_icmp_ne (a := vbI tn tb i) (b := 10) (tgt := 82) Fx dX1_readLine_70 (by decide) (by omega) (by omega) (fun c_70 => ?_) (fun c_70 => ?_)
          · refine lv_iload_n Fx.1 Fx.2.1 dX1_readLine_82 rfl (lv_at hl 2 rfl) ?_
            refine k_bipush Fx dX1_readLine_83 (by decide) ?_
            refine k_icmp_eq (a := vbI tn tb i) (b := 10) (tgt := 99) Fx dX1_readLine_85 (by decide) (by omega) (by omega) (fun c_85 => ?_) (fun c_85 => ?_)
            · exact absurd c_85 (by omega)
            · refine lv_aload_n Fx.1 Fx.2.1 dX1_readLine_88 rfl (lv_at hl 3 rfl) ?_
              refine lv_iload_n Fx.1 Fx.2.1 dX1_readLine_89 rfl (lv_at hl 2 rfl) ?_
              refine r_callV (As := [.int (iI (vbI tn tb i))]) (rest := []) hE Fx X (c_X1_numberHere hE l hN (by exact hT) hTB (i := tkN tn tb i) (j := j) (fk := dmF (((j : Nat) : Int) < 20) (dmF (6 ≤ vbI tn tb i) (0) 1) 3) (fp := dmP (((j : Nat) : Int) < 20) (dmF (6 ≤ vbI tn tb i) (0) 1) (dmP (6 ≤ vbI tn tb i) (0) (fp) ((tkA tn tb i : Nat) : Int)) ((tkA tn tb i : Nat) : Int)) hi hfb (by exact h0) (by exact h1) (by exact h2) (by exact hK) (u := vbI tn tb i) (by omega)) cV_X1_57 (recC_3 X) rfl rfl (Nat.le_of_ble_eq_true rfl) (by decide) hl.1 dX1_readLine_90 (fun v9 w9 H locs hq X => ?_)
              obtain ⟨rfl, f_12, rfl, h0, h1, hFd⟩ := hq
              have hfb := dm_b (P := ftI (vbI tn tb i) (ctV tn tb (tkN tn tb i))) (dm_b (P := ctT tn tb (tkN tn tb i) = 2) hfb (show (1 : Int) ≤ 1 ∧ (1 : Int) ≤ 3 by omega)) (show (1 : Int) ≤ 2 ∧ (2 : Int) ≤ 3 by omega)
              have hK := TokC_d hFd hK
              have hT := TapC_d hFd hT
              have h2 : f_12 3 2 = _ := (hFd 3 2 (by omega)).trans h2
              have hFx : FrR f_12 f := fun o j h => (hFd o j (by omega)).trans (hFx o j h)
              refine lv_istore (lv' := [(4, .int (iI (ctV tn tb (tkN tn tb i)))), (3, .int (iI ((-1)))), (2, .int (iI (vbI tn tb i))), (0, .ref (ad 3)), (1, .ref (ad 10))]) Fx.1 Fx.2.1 dX1_readLine_93 hl (by decide) rfl (fun ls hl => ?_)
              refine lv_aload_n Fx.1 Fx.2.1 dX1_readLine_95 rfl (lv_at hl 3 rfl) ?_
              have hi := tkN_le (tb := tb) hi
              refine r_callV (As := []) (rest := []) hE Fx X (c_X1_advance hE l hN (by exact hT) hTB (i := tkN tn tb (tkN tn tb i)) hi (by exact hK.1)) cV_X1_42 (recC_3 X) rfl rfl (Nat.le_of_ble_eq_true rfl) (by decide) hl.1 dX1_readLine_96 (fun v9 w9 H locs hq X => ?_)
              obtain ⟨rfl, f_13, rfl, hK, hFk⟩ := hq
              have hT := TapC_k hFk hT
              have h0 := (hFk 3 0 (by omega)).trans h0
              have h1 := (hFk 3 1 (by omega)).trans h1
              have hcb := ct_b tn tb (tkN tn tb (tkN tn tb i))
              have h2 : f_13 3 2 = _ := (hFk 3 2 (by omega)).trans h2
              have hFx : FrR f_13 f := fun o j h => (hFk o j (by omega)).trans (hFx o j h)
              refine lv_aload_n Fx.1 Fx.2.1 dX1_readLine_99 rfl (lv_at hl 3 rfl) ?_
              have jn_113 : ∀ (H : Heap) (locs : List Loc) (ls : Array Slot), Wd E Γ A s₀ H locs (wC Γ ad ed f_13 g tl) → lv_has ls 5 [(4, .int (iI (ctV tn tb (tkN tn tb i)))), (3, .int (iI ((-1)))), (2, .int (iI (vbI tn tb i))), (0, .ref (ad 3)), (1, .ref (ad 10))] → W p l e rm_X1_readLine s₀ m args below meth c H locs (0) (0) (RQ below args s₀ Γ A (RlPost tn tb j i x fp Γ ad ed f g tl) rm_X1_readLine) (F0 m 113 ls [.int (bI (ctT tn tb (tkN tn tb (tkN tn tb i)) = 3)), .ref (ad 3)]) := by
                intro H locs ls X hl
                refine k_iconst Fx dX1_readLine_113 ?_
                refine r_callV (As := [.int (bI (ctT tn tb (tkN tn tb (tkN tn tb i)) = 3)), .int (iI (1))]) (rest := []) hE Fx X (c_X1_demand hE l (P := ctT tn tb (tkN tn tb (tkN tn tb i)) = 3) (fk := dmF (ftI (vbI tn tb i) (ctV tn tb (tkN tn tb i))) (dmF (ctT tn tb (tkN tn tb i) = 2) (dmF (((j : Nat) : Int) < 20) (dmF (6 ≤ vbI tn tb i) (0) 1) 3) 1) 2) (fp := dmP (ftI (vbI tn tb i) (ctV tn tb (tkN tn tb i))) (dmF (ctT tn tb (tkN tn tb i) = 2) (dmF (((j : Nat) : Int) < 20) (dmF (6 ≤ vbI tn tb i) (0) 1) 3) 1) (dmP (ctT tn tb (tkN tn tb i) = 2) (dmF (((j : Nat) : Int) < 20) (dmF (6 ≤ vbI tn tb i) (0) 1) 3) (dmP (((j : Nat) : Int) < 20) (dmF (6 ≤ vbI tn tb i) (0) 1) (dmP (6 ≤ vbI tn tb i) (0) (fp) ((tkA tn tb i : Nat) : Int)) ((tkA tn tb i : Nat) : Int)) ((tkA tn tb (tkN tn tb i) : Nat) : Int)) ((tkA tn tb (tkN tn tb i) : Nat) : Int)) (k := 1) (a0 := ((tkA tn tb (tkN tn tb (tkN tn tb i)) : Nat) : Int)) hfb (by exact h0) (by exact h1) (by exact hK.2.2.1)) cV_X1_49 (recC_3 X) rfl rfl (Nat.le_of_ble_eq_true rfl) (by decide) hl.1 dX1_readLine_114 (fun v9 w9 H locs hq X => ?_)
                obtain ⟨rfl, f_14, rfl, h0, h1, hFd⟩ := hq
                have hfb := dm_b (P := ctT tn tb (tkN tn tb (tkN tn tb i)) = 3) hfb (show (1 : Int) ≤ 1 ∧ (1 : Int) ≤ 3 by omega)
                have hK := TokC_d hFd hK
                have hT := TapC_d hFd hT
                have h2 : f_14 3 2 = _ := (hFd 3 2 (by omega)).trans h2
                have hFx : FrR f_14 f := fun o j h => (hFd o j (by omega)).trans (hFx o j h)
                refine lv_aload_n Fx.1 Fx.2.1 dX1_readLine_117 rfl (lv_at hl 3 rfl) ?_
                have hi := tkN_le (tb := tb) hi
                refine r_callV (As := []) (rest := []) hE Fx X (c_X1_advance hE l hN (by exact hT) hTB (i := tkN tn tb (tkN tn tb (tkN tn tb i))) hi (by exact hK.1)) cV_X1_42 (recC_3 X) rfl rfl (Nat.le_of_ble_eq_true rfl) (by decide) hl.1 dX1_readLine_118 (fun v9 w9 H locs hq X => ?_)
                obtain ⟨rfl, f_15, rfl, hK, hFk⟩ := hq
                have hT := TapC_k hFk hT
                have h0 := (hFk 3 0 (by omega)).trans h0
                have h1 := (hFk 3 1 (by omega)).trans h1
                have hcb := ct_b tn tb (tkN tn tb (tkN tn tb (tkN tn tb i)))
                have h2 : f_15 3 2 = _ := (hFk 3 2 (by omega)).trans h2
                have hFx : FrR f_15 f := fun o j h => (hFk o j (by omega)).trans (hFx o j h)
                refine lv_aload_n Fx.1 Fx.2.1 dX1_readLine_121 rfl (lv_at hl 3 rfl) ?_
                refine gC_X1_9_3 (x := (iI (dmF (ctT tn tb (tkN tn tb (tkN tn tb i)) = 3) (dmF (ftI (vbI tn tb i) (ctV tn tb (tkN tn tb i))) (dmF (ctT tn tb (tkN tn tb i) = 2) (dmF (((j : Nat) : Int) < 20) (dmF (6 ≤ vbI tn tb i) (0) 1) 3) 1) 2) 1))) Fx X (h0) dX1_readLine_122 ?_
                refine k_if_ne (a := dmF (ctT tn tb (tkN tn tb (tkN tn tb i)) = 3) (dmF (ftI (vbI tn tb i) (ctV tn tb (tkN tn tb i))) (dmF (ctT tn tb (tkN tn tb i) = 2) (dmF (((j : Nat) : Int) < 20) (dmF (6 ≤ vbI tn tb i) (0) 1) 3) 1) 2) 1) (tgt := 146) Fx dX1_readLine_125 (by decide) (by omega) (fun c_125 => ?_) (fun c_125 => ?_)
                · exact r_vret Fx hr hlk X (by decide) dX1_readLine_146 (⟨rfl, _, _, rfl, ⟨fun o k h1 h2 => hFx o k h1, fun _ _ _ => rfl⟩, Or.inr ⟨fun z => c_125 ((rl_o (fp := fp) hj c_64 c_70).1.trans z), h0.trans (congrArg iI (rl_o (fp := fp) hj c_64 c_70).1), h1.trans (congrArg iI ((rl_o (fp := fp) hj c_64 c_70).2.2 (fun z => c_125 ((rl_o (fp := fp) hj c_64 c_70).1.trans z))))⟩⟩)
                · have hL : LawD x _ g := LawD_k hFx hL
                  refine lv_aload_n Fx.1 Fx.2.1 dX1_readLine_128 rfl (lv_at hl 3 rfl) ?_
                  refine lv_dup Fx.1 Fx.2.1 dX1_readLine_129 rfl ?_
                  refine gC_X1_18_3 (x := (iI (((j : Nat) : Int)))) Fx X (h2) dX1_readLine_130 ?_
                  refine k_iconst Fx dX1_readLine_133 ?_
                  refine k_iadd Fx dX1_readLine_134 ?_
                  refine pC_X1_18_3 Fx X dX1_readLine_135 (fun H locs X => ?_)
                  refine lv_aload_n Fx.1 Fx.2.1 dX1_readLine_138 rfl (lv_at hl 4 rfl) ?_
                  refine lv_iload_n Fx.1 Fx.2.1 dX1_readLine_139 rfl (lv_at hl 2 rfl) ?_
                  refine lv_iload_n Fx.1 Fx.2.1 dX1_readLine_140 rfl (lv_at hl 1 rfl) ?_
                  refine lv_iload Fx.1 Fx.2.1 dX1_readLine_141 (lv_at hl 0 rfl) ?_
                  have hR := rl_o (fp := fp) hj c_64 c_70
                  have hz := hR.1.symm.trans c_125
                  have hZ := lnF_z hz
                  have hci0 := ct_i tn tb i
                  have hci1 := ct_i tn tb (tkN tn tb i)
                  have hvb := hci0.2.2.2.2.2.2.1 (hci0.2.2.2.2.2.1.mpr hZ.1)
                  have hK9 : lnK tn tb i = tkN tn tb i := lnK_f (vb_k c_64 c_70)
                  have hnn := hZ.2.2.2 (by omega)
                  rw [hK9] at hnn
                  have hcv := (ct_i tn tb _).2.2.1 hnn.1
                  have hvr := tkV_b tn tb (lnK tn tb i)
                  rw [hK9] at hvr
                  refine r_callS (As := [.ref (ad 10), .int (iI (vbI tn tb i)), .int (iI ((-1))), .int (iI (ctV tn tb (tkN tn tb i)))]) (rest := []) hE Fx X (c_X1_enact hE l (x := x) (by exact hL) (u := vbI tn tb i) (k := (-1)) (v := ctV tn tb (tkN tn tb i)) (by omega) (by omega) (fun z => by omega) (fun z => by omega)) cS_X1_61 rfl rfl (Nat.le_of_ble_eq_true rfl) (by decide) hl.1 dX1_readLine_143 (fun v9 w9 H locs hq X => ?_)
                  obtain ⟨rfl, f_16, g_17, rfl, hLe, hFe, hGe⟩ := hq
                  exact r_vret Fx hr hlk X (by decide) dX1_readLine_146 (⟨rfl, _, _, rfl, ⟨fun o k h1 h2 => (hFe o k h2).trans ((frF (by omega)).trans (hFx o k h1)), hGe⟩, Or.inl ⟨hz, (show lnN tn tb i = _ from by unfold lnN; rw [lnM_f (by omega), hK9]) ▸ TokC_e hFe hK, (hFe 3 0 (by omega)).trans (h0.trans (congrArg iI c_125)), (hFe 3 1 (by omega)).trans (h1.trans (congrArg iI (hR.2.1 hz))), (hFe 3 2 (by omega)).trans (congrArg iI (by omega)), by rw [hK9]; rw [(show vbI tn tb i - 3 = tkT tn tb i by omega), hcv, lnA_k (k2 := tkT tn tb (tkN tn tb i) - 300) (by omega)] at hLe; exact hLe⟩⟩)
              refine lv_aload_n Fx.1 Fx.2.1 dX1_readLine_100 rfl (lv_at hl 3 rfl) ?_
              refine gC_X1_24_3 (x := (iI (ctT tn tb (tkN tn tb (tkN tn tb i))))) Fx X (hK.2.1) dX1_readLine_101 ?_
              refine k_iconst Fx dX1_readLine_104 ?_
              refine k_icmp_ne (a := ctT tn tb (tkN tn tb (tkN tn tb i))) (b := 3) (tgt := 112) Fx dX1_readLine_105 (by decide) (by omega) (by omega) (fun c_105 => ?_) (fun c_105 => ?_)
              · refine k_iconst Fx dX1_readLine_112 ?_
                refine k_cg (show (iI (0)) = (bI (ctT tn tb (tkN tn tb (tkN tn tb i)) = 3)) from bI_0 (by omega)) ?_
                exact jn_113 _ _ _ X hl
              · refine k_iconst Fx dX1_readLine_108 ?_
                refine lv_goto (tgt := 113) Fx.1 Fx.2.1 dX1_readLine_109 (by decide) ?_
                refine k_cg (show (iI (1)) = (bI (ctT tn tb (tkN tn tb (tkN tn tb i)) = 3)) from bI_1 (by omega)) ?_
                exact jn_113 _ _ _ X hl
          · refine lv_aload_n Fx.1 Fx.2.1 dX1_readLine_73 rfl (lv_at hl 3 rfl) ?_
            refine r_callV (As := []) (rest := []) hE Fx X (c_X1_kindHere hE l hN (by exact hT) hTB (i := tkN tn tb i) (j := j) (fk := dmF (((j : Nat) : Int) < 20) (dmF (6 ≤ vbI tn tb i) (0) 1) 3) (fp := dmP (((j : Nat) : Int) < 20) (dmF (6 ≤ vbI tn tb i) (0) 1) (dmP (6 ≤ vbI tn tb i) (0) (fp) ((tkA tn tb i : Nat) : Int)) ((tkA tn tb i : Nat) : Int)) hi hfb (by exact h0) (by exact h1) (by exact h2) (by exact hK)) cV_X1_53 (recC_3 X) rfl rfl (Nat.le_of_ble_eq_true rfl) (by decide) hl.1 dX1_readLine_74 (fun v9 w9 H locs hq X => ?_)
            obtain ⟨rfl, f_18, rfl, h0, h1, hFd⟩ := hq
            have hfb := dm_b (P := ctT tn tb (tkN tn tb i) = 1 ∧ ctV tn tb (tkN tn tb i) < 6) hfb (show (1 : Int) ≤ 1 ∧ (1 : Int) ≤ 3 by omega)
            have hK := TokC_d hFd hK
            have hT := TapC_d hFd hT
            have h2 : f_18 3 2 = _ := (hFd 3 2 (by omega)).trans h2
            have hFx : FrR f_18 f := fun o j h => (hFd o j (by omega)).trans (hFx o j h)
            refine lv_istore_n (lv' := [(3, .int (iI (ctV tn tb (tkN tn tb i)))), (4, .int (iI ((-1)))), (2, .int (iI (vbI tn tb i))), (0, .ref (ad 3)), (1, .ref (ad 10))]) Fx.1 Fx.2.1 dX1_readLine_77 rfl hl (by decide) rfl (fun ls hl => ?_)
            refine lv_aload_n Fx.1 Fx.2.1 dX1_readLine_78 rfl (lv_at hl 3 rfl) ?_
            have hi := tkN_le (tb := tb) hi
            refine r_callV (As := []) (rest := []) hE Fx X (c_X1_advance hE l hN (by exact hT) hTB (i := tkN tn tb (tkN tn tb i)) hi (by exact hK.1)) cV_X1_42 (recC_3 X) rfl rfl (Nat.le_of_ble_eq_true rfl) (by decide) hl.1 dX1_readLine_79 (fun v9 w9 H locs hq X => ?_)
            obtain ⟨rfl, f_19, rfl, hK, hFk⟩ := hq
            have hT := TapC_k hFk hT
            have h0 := (hFk 3 0 (by omega)).trans h0
            have h1 := (hFk 3 1 (by omega)).trans h1
            have hcb := ct_b tn tb (tkN tn tb (tkN tn tb i))
            have h2 : f_19 3 2 = _ := (hFk 3 2 (by omega)).trans h2
            have hFx : FrR f_19 f := fun o j h => (hFk o j (by omega)).trans (hFx o j h)
            refine lv_iload_n Fx.1 Fx.2.1 dX1_readLine_82 rfl (lv_at hl 2 rfl) ?_
            refine k_bipush Fx dX1_readLine_83 (by decide) ?_
            refine k_icmp_eq (a := vbI tn tb i) (b := 10) (tgt := 99) Fx dX1_readLine_85 (by decide) (by omega) (by omega) (fun c_85 => ?_) (fun c_85 => ?_)
            · refine lv_aload_n Fx.1 Fx.2.1 dX1_readLine_99 rfl (lv_at hl 3 rfl) ?_
              have jn_113 : ∀ (H : Heap) (locs : List Loc) (ls : Array Slot), Wd E Γ A s₀ H locs (wC Γ ad ed f_19 g tl) → lv_has ls 5 [(3, .int (iI (ctV tn tb (tkN tn tb i)))), (4, .int (iI ((-1)))), (2, .int (iI (vbI tn tb i))), (0, .ref (ad 3)), (1, .ref (ad 10))] → W p l e rm_X1_readLine s₀ m args below meth c H locs (0) (0) (RQ below args s₀ Γ A (RlPost tn tb j i x fp Γ ad ed f g tl) rm_X1_readLine) (F0 m 113 ls [.int (bI (ctT tn tb (tkN tn tb (tkN tn tb i)) = 3)), .ref (ad 3)]) := by
                intro H locs ls X hl
                refine k_iconst Fx dX1_readLine_113 ?_
                refine r_callV (As := [.int (bI (ctT tn tb (tkN tn tb (tkN tn tb i)) = 3)), .int (iI (1))]) (rest := []) hE Fx X (c_X1_demand hE l (P := ctT tn tb (tkN tn tb (tkN tn tb i)) = 3) (fk := dmF (ctT tn tb (tkN tn tb i) = 1 ∧ ctV tn tb (tkN tn tb i) < 6) (dmF (((j : Nat) : Int) < 20) (dmF (6 ≤ vbI tn tb i) (0) 1) 3) 1) (fp := dmP (ctT tn tb (tkN tn tb i) = 1 ∧ ctV tn tb (tkN tn tb i) < 6) (dmF (((j : Nat) : Int) < 20) (dmF (6 ≤ vbI tn tb i) (0) 1) 3) (dmP (((j : Nat) : Int) < 20) (dmF (6 ≤ vbI tn tb i) (0) 1) (dmP (6 ≤ vbI tn tb i) (0) (fp) ((tkA tn tb i : Nat) : Int)) ((tkA tn tb i : Nat) : Int)) ((tkA tn tb (tkN tn tb i) : Nat) : Int)) (k := 1) (a0 := ((tkA tn tb (tkN tn tb (tkN tn tb i)) : Nat) : Int)) hfb (by exact h0) (by exact h1) (by exact hK.2.2.1)) cV_X1_49 (recC_3 X) rfl rfl (Nat.le_of_ble_eq_true rfl) (by decide) hl.1 dX1_readLine_114 (fun v9 w9 H locs hq X => ?_)
                obtain ⟨rfl, f_20, rfl, h0, h1, hFd⟩ := hq
                have hfb := dm_b (P := ctT tn tb (tkN tn tb (tkN tn tb i)) = 3) hfb (show (1 : Int) ≤ 1 ∧ (1 : Int) ≤ 3 by omega)
                have hK := TokC_d hFd hK
                have hT := TapC_d hFd hT
                have h2 : f_20 3 2 = _ := (hFd 3 2 (by omega)).trans h2
                have hFx : FrR f_20 f := fun o j h => (hFd o j (by omega)).trans (hFx o j h)
                refine lv_aload_n Fx.1 Fx.2.1 dX1_readLine_117 rfl (lv_at hl 3 rfl) ?_
                have hi := tkN_le (tb := tb) hi
                refine r_callV (As := []) (rest := []) hE Fx X (c_X1_advance hE l hN (by exact hT) hTB (i := tkN tn tb (tkN tn tb (tkN tn tb i))) hi (by exact hK.1)) cV_X1_42 (recC_3 X) rfl rfl (Nat.le_of_ble_eq_true rfl) (by decide) hl.1 dX1_readLine_118 (fun v9 w9 H locs hq X => ?_)
                obtain ⟨rfl, f_21, rfl, hK, hFk⟩ := hq
                have hT := TapC_k hFk hT
                have h0 := (hFk 3 0 (by omega)).trans h0
                have h1 := (hFk 3 1 (by omega)).trans h1
                have hcb := ct_b tn tb (tkN tn tb (tkN tn tb (tkN tn tb i)))
                have h2 : f_21 3 2 = _ := (hFk 3 2 (by omega)).trans h2
                have hFx : FrR f_21 f := fun o j h => (hFk o j (by omega)).trans (hFx o j h)
                refine lv_aload_n Fx.1 Fx.2.1 dX1_readLine_121 rfl (lv_at hl 3 rfl) ?_
                refine gC_X1_9_3 (x := (iI (dmF (ctT tn tb (tkN tn tb (tkN tn tb i)) = 3) (dmF (ctT tn tb (tkN tn tb i) = 1 ∧ ctV tn tb (tkN tn tb i) < 6) (dmF (((j : Nat) : Int) < 20) (dmF (6 ≤ vbI tn tb i) (0) 1) 3) 1) 1))) Fx X (h0) dX1_readLine_122 ?_
                refine k_if_ne (a := dmF (ctT tn tb (tkN tn tb (tkN tn tb i)) = 3) (dmF (ctT tn tb (tkN tn tb i) = 1 ∧ ctV tn tb (tkN tn tb i) < 6) (dmF (((j : Nat) : Int) < 20) (dmF (6 ≤ vbI tn tb i) (0) 1) 3) 1) 1) (tgt := 146) Fx dX1_readLine_125 (by decide) (by omega) (fun c_125 => ?_) (fun c_125 => ?_)
                · exact r_vret Fx hr hlk X (by decide) dX1_readLine_146 (⟨rfl, _, _, rfl, ⟨fun o k h1 h2 => hFx o k h1, fun _ _ _ => rfl⟩, Or.inr ⟨fun z => c_125 ((rl_nw (fp := fp) hj c_70).1.trans z), h0.trans (congrArg iI (rl_nw (fp := fp) hj c_70).1), h1.trans (congrArg iI ((rl_nw (fp := fp) hj c_70).2.2 (fun z => c_125 ((rl_nw (fp := fp) hj c_70).1.trans z))))⟩⟩)
                · have hL : LawD x _ g := LawD_k hFx hL
                  refine lv_aload_n Fx.1 Fx.2.1 dX1_readLine_128 rfl (lv_at hl 3 rfl) ?_
                  refine lv_dup Fx.1 Fx.2.1 dX1_readLine_129 rfl ?_
                  refine gC_X1_18_3 (x := (iI (((j : Nat) : Int)))) Fx X (h2) dX1_readLine_130 ?_
                  refine k_iconst Fx dX1_readLine_133 ?_
                  refine k_iadd Fx dX1_readLine_134 ?_
                  refine pC_X1_18_3 Fx X dX1_readLine_135 (fun H locs X => ?_)
                  refine lv_aload_n Fx.1 Fx.2.1 dX1_readLine_138 rfl (lv_at hl 4 rfl) ?_
                  refine lv_iload_n Fx.1 Fx.2.1 dX1_readLine_139 rfl (lv_at hl 2 rfl) ?_
                  refine lv_iload_n Fx.1 Fx.2.1 dX1_readLine_140 rfl (lv_at hl 0 rfl) ?_
                  refine lv_iload Fx.1 Fx.2.1 dX1_readLine_141 (lv_at hl 1 rfl) ?_
                  have hR := rl_nw (fp := fp) hj c_70
                  have hz := hR.1.symm.trans c_125
                  have hZ := lnF_z hz
                  have hci0 := ct_i tn tb i
                  have hci1 := ct_i tn tb (tkN tn tb i)
                  have hvb := hci0.2.2.2.2.2.2.1 (hci0.2.2.2.2.2.1.mpr hZ.1)
                  have hkk := hZ.2.2.1 (by omega)
                  have hck := hci1.2.2.2.2.1 hkk.1
                  refine r_callS (As := [.ref (ad 10), .int (iI (vbI tn tb i)), .int (iI (ctV tn tb (tkN tn tb i))), .int (iI ((-1)))]) (rest := []) hE Fx X (c_X1_enact hE l (x := x) (by exact hL) (u := vbI tn tb i) (k := ctV tn tb (tkN tn tb i)) (v := (-1)) (by omega) (by omega) (fun z => by omega) (fun z => by omega)) cS_X1_61 rfl rfl (Nat.le_of_ble_eq_true rfl) (by decide) hl.1 dX1_readLine_143 (fun v9 w9 H locs hq X => ?_)
                  obtain ⟨rfl, f_22, g_23, rfl, hLe, hFe, hGe⟩ := hq
                  exact r_vret Fx hr hlk X (by decide) dX1_readLine_146 (⟨rfl, _, _, rfl, ⟨fun o k h1 h2 => (hFe o k h2).trans ((frF (by omega)).trans (hFx o k h1)), hGe⟩, Or.inl ⟨hz, (show lnN tn tb i = _ from by unfold lnN; rw [lnM_t (by omega), lnK_t (by omega)]) ▸ TokC_e hFe hK, (hFe 3 0 (by omega)).trans (h0.trans (congrArg iI c_125)), (hFe 3 1 (by omega)).trans (h1.trans (congrArg iI (hR.2.1 hz))), (hFe 3 2 (by omega)).trans (congrArg iI (by omega)), by rw [(show vbI tn tb i - 3 = tkT tn tb i by omega), hck, lnA_v (v2 := tkV tn tb (lnK tn tb i)) (by omega)] at hLe; exact hLe⟩⟩)
              refine lv_aload_n Fx.1 Fx.2.1 dX1_readLine_100 rfl (lv_at hl 3 rfl) ?_
              refine gC_X1_24_3 (x := (iI (ctT tn tb (tkN tn tb (tkN tn tb i))))) Fx X (hK.2.1) dX1_readLine_101 ?_
              refine k_iconst Fx dX1_readLine_104 ?_
              refine k_icmp_ne (a := ctT tn tb (tkN tn tb (tkN tn tb i))) (b := 3) (tgt := 112) Fx dX1_readLine_105 (by decide) (by omega) (by omega) (fun c_105 => ?_) (fun c_105 => ?_)
              · refine k_iconst Fx dX1_readLine_112 ?_
                refine k_cg (show (iI (0)) = (bI (ctT tn tb (tkN tn tb (tkN tn tb i)) = 3)) from bI_0 (by omega)) ?_
                exact jn_113 _ _ _ X hl
              · refine k_iconst Fx dX1_readLine_108 ?_
                refine lv_goto (tgt := 113) Fx.1 Fx.2.1 dX1_readLine_109 (by decide) ?_
                refine k_cg (show (iI (1)) = (bI (ctT tn tb (tkN tn tb (tkN tn tb i)) = 3)) from bI_1 (by omega)) ?_
                exact jn_113 _ _ _ X hl
            · exact absurd c_70 (by omega)
      refine lv_aload_n Fx.1 Fx.2.1 dX1_readLine_34 rfl (lv_at hl 1 rfl) ?_
      refine gC_X1_18_3 (x := (iI (((j : Nat) : Int)))) Fx X (h2) dX1_readLine_35 ?_
      refine k_bipush Fx dX1_readLine_38 (by decide) ?_
      refine k_icmp_ge (a := ((j : Nat) : Int)) (b := 20) (tgt := 47) Fx dX1_readLine_40 (by decide) (by omega) (by omega) (fun c_40 => ?_) (fun c_40 => ?_)
      · refine k_iconst Fx dX1_readLine_47 ?_
        refine k_cg (show (iI (0)) = (bI (((j : Nat) : Int) < 20)) from bI_0 (by omega)) ?_
        exact jn_48 _ _ _ X hl
      · refine k_iconst Fx dX1_readLine_43 ?_
        refine lv_goto (tgt := 48) Fx.1 Fx.2.1 dX1_readLine_44 (by decide) ?_
        refine k_cg (show (iI (1)) = (bI (((j : Nat) : Int) < 20)) from bI_1 (by omega)) ?_
        exact jn_48 _ _ _ X hl
    refine lv_iload_n Fx.1 Fx.2.1 dX1_readLine_18 rfl (lv_at hl 0 rfl) ?_
    refine k_bipush Fx dX1_readLine_19 (by decide) ?_
    refine k_icmp_lt (a := vbI tn tb i) (b := 6) (tgt := 28) Fx dX1_readLine_21 (by decide) (by omega) (by omega) (fun c_21 => ?_) (fun c_21 => ?_)
    · refine k_iconst Fx dX1_readLine_28 ?_
      refine k_cg (show (iI (0)) = (bI (6 ≤ vbI tn tb i)) from bI_0 (by omega)) ?_
      exact jn_29 _ _ _ X hl
    · refine k_iconst Fx dX1_readLine_24 ?_
      refine lv_goto (tgt := 29) Fx.1 Fx.2.1 dX1_readLine_25 (by decide) ?_
      refine k_cg (show (iI (1)) = (bI (6 ≤ vbI tn tb i)) from bI_1 (by omega)) ?_
      exact jn_29 _ _ _ X hl
  refine lv_aload_n Fx.1 Fx.2.1 dX1_readLine_0 rfl (lv_at hl 0 rfl) ?_
  refine gC_X1_24_3 (x := (iI (ctT tn tb i))) Fx X (hK.2.1) dX1_readLine_1 ?_
  refine k_iconst Fx dX1_readLine_4 ?_
  refine k_icmp_ne (a := ctT tn tb i) (b := 1) (tgt := 15) Fx dX1_readLine_5 (by decide) (by omega) (by omega) (fun c_5 => ?_) (fun c_5 => ?_)
  · refine k_iconst Fx dX1_readLine_15 ?_
    refine k_cg (show (iI ((-1))) = (iI (vbI tn tb i)) from congrArg iI (show _ = vbI tn tb i by unfold vbI; rw [if_neg c_5])) ?_
    exact jn_16 _ _ _ X hl
  · refine lv_aload_n Fx.1 Fx.2.1 dX1_readLine_8 rfl (lv_at hl 0 rfl) ?_
    refine gC_X1_30_3 (x := (iI (ctV tn tb i))) Fx X (hK.2.2.2) dX1_readLine_9 ?_
    refine lv_goto (tgt := 16) Fx.1 Fx.2.1 dX1_readLine_12 (by decide) ?_
    refine k_cg (show (iI (ctV tn tb i)) = (iI (vbI tn tb i)) from congrArg iI (show _ = vbI tn tb i by unfold vbI; rw [if_pos c_5])) ?_
    exact jn_16 _ _ _ X hl

