/-! what the class's cells say -/
def ProC (k : Nat) (P : Nat → Nat → Nat) (f g : Nat → Nat → Int32) : Prop := f 6 2 = iI k ∧ (∀ i, g 20 i = iI (P 0 i)) ∧ (∀ i, g 21 i = iI (P 1 i))
theorem frF {f : Nat → Nat → Int32} {o1 j1 o j : Nat} {x : Int32} (h : ¬ (o = o1 ∧ j = j1)) : updA f o1 (upd (f o1) j1 x) o j = f o j := by
  by_cases e : o = o1
  · subst e; rw [updA_s, upd_n (fun z => h ⟨rfl, z⟩)]
  · rw [updA_n e]
def MowC (k : Nat) (M : Nat → Nat → Nat) (f g : Nat → Nat → Int32) : Prop := f 5 0 = iI k ∧ (∀ i, g 15 i = iI (M 0 i)) ∧ (∀ i, g 16 i = iI (M 1 i)) ∧ (∀ i, g 17 i = iI (M 2 i)) ∧ (∀ i, g 18 i = iI (M 3 i)) ∧ (∀ i, g 19 i = iI (M 4 i))
/-- the years told of, each once, the earlier first -/
def YrC (yc : Nat) (Y : Nat → Nat) (f g : Nat → Nat → Int32) : Prop := f 5 2 = iI yc ∧ (∀ i, i < yc → g 14 i = iI (Y i))
def YrB (yc : Nat) (Y : Nat → Nat) : Prop := (∀ i j, i < j → j < yc → Y i < Y j) ∧ ∀ i, i < yc → Y i < 1000
def YrT (yc : Nat) (Y : Nat → Nat) (mn : Nat) (M : Nat → Nat → Nat) : Prop := ∀ y, (∃ i, i < yc ∧ Y i = y) ↔ ∃ k, k < mn ∧ M 4 k = y
def yIn (Y : Nat → Nat) (q y : Nat) : Nat → Nat := fun k => if k < q then Y k else if k = q then y else Y (k - 1)
theorem yIn_B {yc : Nat} {Y : Nat → Nat} {q y : Nat} (h : YrB yc Y) (hq : q ≤ yc) (hy : y < 1000) (h1 : ∀ i, i < q → Y i < y) (h2 : q < yc → y < Y q) : YrB (yc + 1) (yIn Y q y) := by
  have up : ∀ i, q ≤ i → i < yc → y < Y i := fun i a b => by
    rcases Nat.lt_or_ge q i with c | c
    · have := h.1 q i c b; have := h2 (by omega); omega
    · have e : i = q := by omega
      rw [e]; exact h2 (by omega)
  refine ⟨fun i j hij hj => ?_, fun i hi => ?_⟩
  · unfold yIn
    (repeat' split) <;> first | omega | skip
    all_goals first
      | exact h.1 _ _ (by omega) (by omega)
      | exact h1 _ (by omega)
      | exact up _ (by omega) (by omega)
      | (have a1 := h1 i (by omega); have a2 := up (j - 1) (by omega) (by omega); omega)
  · unfold yIn
    (repeat' split) <;> first | omega | exact h.2 _ (by omega)
theorem yIn_T {yc : Nat} {Y : Nat → Nat} {q y : Nat} (hq : q ≤ yc) : ∀ z, (∃ i, i < yc + 1 ∧ yIn Y q y i = z) ↔ (∃ i, i < yc ∧ Y i = z) ∨ z = y := by
  intro z
  constructor
  · rintro ⟨i, h1, h2⟩
    unfold yIn at h2
    (repeat' split at h2)
    · exact Or.inl ⟨i, by omega, h2⟩
    · exact Or.inr h2.symm
    · exact Or.inl ⟨i - 1, by omega, h2⟩
  · rintro (⟨i, h1, h2⟩ | h)
    · by_cases c : i < q
      · exact ⟨i, by omega, by unfold yIn; rw [if_pos c]; exact h2⟩
      · exact ⟨i + 1, by omega, by unfold yIn; rw [if_neg (by omega), if_neg (by omega)]; exact h2⟩
    · exact ⟨q, by omega, by unfold yIn; rw [if_neg (by omega), if_pos rfl]; exact h.symm⟩
theorem yr_same {yc : Nat} {Y : Nat → Nat} {q y : Nat} (hq : q < yc) (e : Y q = y) : ∀ z, (∃ i, i < yc ∧ Y i = z) ↔ (∃ i, i < yc ∧ Y i = z) ∨ z = y := fun z => ⟨fun h => Or.inl h, fun h => h.elim (fun x => x) (fun x => ⟨q, hq, e.trans x.symm⟩)⟩
theorem YrT_put {yc yc2 : Nat} {Y Y2 : Nat → Nat} {mn : Nat} {M : Nat → Nat → Nat} {n a b t y : Int} {z : Nat} (h : YrT yc Y mn M) (hy : y.toNat = z) (h2 : ∀ x, (∃ i, i < yc2 ∧ Y2 i = x) ↔ (∃ i, i < yc ∧ Y i = x) ∨ x = z) : YrT yc2 Y2 (mn + 1) (mPut M mn n a b t y) := by
  intro x
  rw [h2 x, h x]
  constructor
  · rintro (⟨k, h1, h3⟩ | h1)
    · exact ⟨k, by omega, by unfold mPut; rw [if_neg (by omega)]; exact h3⟩
    · exact ⟨mn, by omega, by unfold mPut; rw [if_pos rfl]; simp; omega⟩
  · rintro ⟨k, h1, h3⟩
    unfold mPut at h3
    by_cases e : k = mn
    · rw [if_pos e] at h3; simp at h3; exact Or.inr (by omega)
    · rw [if_neg e] at h3; exact Or.inl ⟨k, by omega, h3⟩
theorem sh_keep {g : Nat → Nat → Int32} {Y : Nat → Nat} {i yc : Nat} (hi : 1 ≤ i) (h1 : ∀ k, k < i → g 14 k = iI (Y k : Nat)) (h2 : ∀ k, i < k → k ≤ yc → g 14 k = iI (Y (k - 1) : Nat)) : (∀ k, k < i - 1 → updA g 14 (upd (g 14) i (iI (Y (i - 1) : Nat))) 14 k = iI (Y k : Nat)) ∧ (∀ k, i - 1 < k → k ≤ yc → updA g 14 (upd (g 14) i (iI (Y (i - 1) : Nat))) 14 k = iI (Y (k - 1) : Nat)) := by
  refine ⟨fun k hk => ?_, fun k a b => ?_⟩
  · rw [updA_s, upd_n (by omega)]; exact h1 k (by omega)
  · rw [updA_s]
    by_cases e : k = i
    · rw [e, upd_s]
    · rw [upd_n e]; exact h2 k (by omega) b
theorem sh_end {g : Nat → Nat → Int32} {Y : Nat → Nat} {q yc y : Nat} (h1 : ∀ k, k < q → g 14 k = iI (Y k : Nat)) (h2 : ∀ k, q < k → k ≤ yc → g 14 k = iI (Y (k - 1) : Nat)) : ∀ k, k < yc + 1 → updA g 14 (upd (g 14) q (iI (y : Nat))) 14 k = iI (yIn Y q y k : Nat) := by
  intro k hk
  rw [updA_s]
  unfold yIn
  by_cases e : k = q
  · rw [e, upd_s, if_neg (by omega), if_pos rfl]
  · rw [upd_n e]
    by_cases c : k < q
    · rw [if_pos c]; exact h1 k c
    · rw [if_neg c, if_neg e]; exact h2 k (by omega) (by omega)
section ROWS
variable {Γ : GG} {ad : Nat → Nat} {ed : Nat} {f g : Nat → Nat → Int32} {tl : va_W}
theorem row_50 {q : Nat} (h : q < 2) : (wC Γ ad ed f g tl)[42 + q]? = some (ad (50 + q), .inl (Γ.2 0, 60, .inl (g (50 + q)))) := by
  rcases (show q = 0 ∨ q = 1 by omega) with e | e <;> subst e <;> rfl
theorem row_40 {q : Nat} (h : q < 10) : (wC Γ ad ed f g tl)[32 + q]? = some (ad (40 + q), .inl (Γ.2 0, 80, .inl (g (40 + q)))) := by
  rcases (show q = 0 ∨ q = 1 ∨ q = 2 ∨ q = 3 ∨ q = 4 ∨ q = 5 ∨ q = 6 ∨ q = 7 ∨ q = 8 ∨ q = 9 by omega) with e | e | e | e | e | e | e | e | e | e <;> subst e <;> rfl
theorem rowset_50 {q : Nat} {x : Nat → Int32} (h : q < 2) : (wC Γ ad ed f g tl).set (42 + q) (ad (50 + q), .inl (Γ.2 0, 60, .inl x)) = wC Γ ad ed f (updA g (50 + q) x) tl := by
  rcases (show q = 0 ∨ q = 1 by omega) with e | e <;> subst e <;> rfl
theorem rowset_40 {q : Nat} {x : Nat → Int32} (h : q < 10) : (wC Γ ad ed f g tl).set (32 + q) (ad (40 + q), .inl (Γ.2 0, 80, .inl x)) = wC Γ ad ed f (updA g (40 + q) x) tl := by
  rcases (show q = 0 ∨ q = 1 ∨ q = 2 ∨ q = 3 ∨ q = 4 ∨ q = 5 ∨ q = 6 ∨ q = 7 ∨ q = 8 ∨ q = 9 by omega) with e | e | e | e | e | e | e | e | e | e <;> subst e <;> rfl
end ROWS
section ROWS2
variable {p : Program} {l : Launch} {e : Env} {R : Room} {s : State} {m : MethodId} {args : Array Value} {below : List Frame} {meth : Method} {c : Code} {H : Heap} {locs : List Loc} {cells slots : Nat} {Q : State → Prop}
variable {cc : ByteArray} {nL pc : Nat} {own : String} {ls : Array Slot} {rest : List Value} {E : XX} {Γ : GG} {A : Nat → Prop} {w : va_W}
theorem r_rld {q0 n i a r : Nat} {z : Int} {F : Nat → Option Nat} (S : CallFix p m c cc nL s args BG own) (X : Wd E Γ A s H locs w) (he : w[q0]? = some (a, .inl (Γ.2 4, n, .inr (.inr (.inr (.inr F)))))) (hz : z = (i : Int)) (hi : i < n) (hn : n < 2147483648) (hv : F i = some r) (hdg : decode cc pc = .ok (.aaload, 1)) (kk : W p l e R s m args below meth c H locs cells slots Q (F0 m (pc + 1) ls (.ref r :: rest))) : W p l e R s m args below meth c H locs cells slots Q (F0 m pc ls (.int (iI z) :: .ref a :: rest)) := by
  have hin : vp_in (iI z) n := iI_in (by omega) (by omega)
  have hcl : (iI z).toNatClampNeg = i := by rw [iI_cl (by omega), hz, Int.toNat_natCast]
  have hlt : (iI z).toNatClampNeg < n := by rw [hcl]; exact hi
  refine W.aald (v := .ref r) (ty := .array .int) S.1 S.2.1 (X.2.1 q0 _ he) ((X.1.2 4 _ rfl).1 n (fun j => va_rf (F j))) rfl (fun q => by cases q) (by show ¬ (iI z < 0 ∨ (arrV _ _ _).slots.size ≤ _); rw [arrV_size]; exact hin) ?_ rfl rfl hdg kk
  show (arrV _ _ _).slots[_]? = _
  rw [arrV_read _ _ hlt, hcl, hv]
  rfl
end ROWS2
/-! the class's walk over the years told of -/
def yAf (Y : Nat → Nat) (i : Nat) : Nat := if i = 0 then 0 else Y (i - 1) + 1
theorem sp_gap {F : Nat → Nat → Int} {B : Nat → Nat → Prop} {ho : Nat} {pf : Int} (hh : 1 ≤ ho) {a : Nat} : ∀ b, (∀ n y, n < 2 → a ≤ y → y < a + b → ¬ B n y) → (∀ n, n < 2 → aMy B ho n (a + b) = aMy B ho n a ∧ (0 < b → aRn B n (a + b) = 0)) ∧ aTL F B ho pf (2 * (a + b)) = aTL F B ho pf (2 * a)
  | 0, _ => ⟨fun n _ => ⟨rfl, fun h => absurd h (Nat.lt_irrefl 0)⟩, rfl⟩
  | b + 1, h => by
    have ih := sp_gap (F := F) (pf := pf) hh b (fun n y h1 h2 h3 => h n y h1 h2 (by omega))
    have r : ∀ n, n < 2 → aRn B n (a + b + 1) = 0 := fun n hn => rn_f (h n (a + b) hn (by omega) (by omega))
    have t1 : aTL F B ho pf (2 * (a + b) + 1) = aTL F B ho pf (2 * (a + b)) := tl_f (n := 0) (y := a + b) (by omega) (by omega) (fun z => absurd z.1 (by rw [r 0 (by omega)]; omega))
    have t2 : aTL F B ho pf (2 * (a + b) + 1 + 1) = aTL F B ho pf (2 * (a + b) + 1) := tl_f (n := 1) (y := a + b) (by omega) (by omega) (fun z => absurd z.1 (by rw [r 1 (by omega)]; omega))
    refine ⟨fun n hn => ⟨?_, fun _ => r n hn⟩, ?_⟩
    · show aMy B ho n (a + b + 1) = _
      rw [my_f (by rw [r n hn]; omega)]; exact (ih.1 n hn).1
    · show aTL F B ho pf (2 * (a + b) + 1 + 1) = _
      rw [t2, t1]; exact ih.2
/-- no year between two told ones counts -/
def YrN (B : Nat → Nat → Prop) (yc : Nat) (Y : Nat → Nat) : Prop := ∀ n y, n < 2 → (∀ i, i < yc → Y i ≠ y) → ¬ B n y
theorem yr_here {F : Nat → Nat → Int} {B : Nat → Nat → Prop} {ho yc : Nat} {Y : Nat → Nat} {pf : Int} (hh : 1 ≤ ho) (hN : YrN B yc Y) (hB : YrB yc Y) {i : Nat} (hi : i < yc) : (∀ n, n < 2 → aMy B ho n (Y i) = aMy B ho n (yAf Y i) ∧ (¬ (0 < i ∧ Y (i - 1) + 1 = Y i) → aRn B n (Y i) = 0) ∧ ((0 < i ∧ Y (i - 1) + 1 = Y i) → aRn B n (Y i) = aRn B n (yAf Y i))) ∧ aTL F B ho pf (2 * Y i) = aTL F B ho pf (2 * yAf Y i) ∧ yAf Y i ≤ Y i := by
  have hle : yAf Y i ≤ Y i := by
    unfold yAf
    split
    · omega
    · have := hB.1 (i - 1) i (by omega) hi; omega
  have g := sp_gap (F := F) (B := B) (pf := pf) hh (a := yAf Y i) (Y i - yAf Y i) (fun n y h1 h2 h3 => hN n y h1 (fun k hk e => by
    rcases Nat.lt_trichotomy k i with c | c | c
    · have hi0 : i ≠ 0 := by omega
      unfold yAf at h2
      rw [if_neg hi0] at h2
      rcases Nat.lt_or_ge k (i - 1) with d | d
      · have := hB.1 k (i - 1) d (by omega); omega
      · have e2 : k = i - 1 := by omega
        rw [e2] at e; omega
    · rw [c] at e; omega
    · have := hB.1 i k c hk; omega))
  rw [show yAf Y i + (Y i - yAf Y i) = Y i by omega] at g
  refine ⟨fun n hn => ⟨(g.1 n hn).1, fun h => ?_, fun h => ?_⟩, g.2, hle⟩
  · by_cases c : 0 < Y i - yAf Y i
    · exact (g.1 n hn).2 c
    · have e : yAf Y i = Y i := by omega
      have hi0 : i = 0 := by
        rcases Nat.eq_zero_or_pos i with z | z
        · exact z
        · exact absurd ⟨z, by unfold yAf at e; rw [if_neg (by omega)] at e; exact e⟩ h
      rw [← e]; unfold yAf; rw [if_pos hi0]; rfl
  · unfold yAf; rw [if_neg (by omega), h.2]
theorem yr_end {F : Nat → Nat → Int} {B : Nat → Nat → Prop} {ho yc : Nat} {Y : Nat → Nat} {pf : Int} (hh : 1 ≤ ho) (hN : YrN B yc Y) (hB : YrB yc Y) : (∀ n, n < 2 → aMy B ho n 1000 = aMy B ho n (yAf Y yc)) ∧ aTL F B ho pf 2000 = aTL F B ho pf (2 * yAf Y yc) := by
  have hle : yAf Y yc ≤ 1000 := by
    unfold yAf
    split
    · omega
    · have := hB.2 (yc - 1) (by omega); omega
  have g := sp_gap (F := F) (B := B) (pf := pf) hh (a := yAf Y yc) (1000 - yAf Y yc) (fun n y h1 h2 h3 => hN n y h1 (fun k hk e => by
    unfold yAf at h2
    rw [if_neg (by omega)] at h2
    rcases Nat.lt_or_ge k (yc - 1) with d | d
    · have := hB.1 k (yc - 1) d (by omega); omega
    · have e2 : k = yc - 1 := by omega
      rw [e2] at e; omega))
  rw [show yAf Y yc + (1000 - yAf Y yc) = 1000 by omega] at g
  exact ⟨fun n hn => (g.1 n hn).1, g.2⟩
theorem YrN_of {yc : Nat} {Y : Nat → Nat} {mn : Nat} {M : Nat → Nat → Nat} {pn : Nat} {P : Nat → Nat → Nat} {s : Nat} {pf : Int} (h : YrT yc Y mn M) : YrN (spB M mn P pn s pf) yc Y := by
  intro n y hn hno hB
  apply hB.1.1
  have key : ∀ k, k ≤ mn → aMw M n s y k = -1 := by
    intro k
    induction k with
    | zero => intro _; rfl
    | succ k ih =>
      intro hk
      rw [← mw_f (fun z => ?_)]
      · exact ih (by omega)
      · obtain ⟨i, h1, h2⟩ := (h y).mpr ⟨k, by omega, z.2.2⟩
        exact hno i h1 h2
  exact key mn (Nat.le_refl _)
theorem run_rows {B : Nat → Nat → Prop} {F : Nat → Nat → Int} {Y : Nat → Nat} {yc n i : Nat} (hB : YrB yc Y) (hN : YrN B yc Y) (hn : n < 2) (hi : i < yc) : ∀ d, d < aRn B n (Y i + 1) → d ≤ i ∧ Y (i - d) + d = Y i := by
  intro d
  induction d with
  | zero => intro _; exact ⟨Nat.zero_le _, rfl⟩
  | succ d ih =>
    intro hd
    obtain ⟨h1, h2⟩ := ih (by omega)
    have key : ∀ e, e < aRn B n (Y i + 1) → e ≤ Y i ∧ B n (Y i - e) := by
      have gen : ∀ y e, e < aRn B n (y + 1) → e ≤ y ∧ B n (y - e) := by
        intro y
        induction y with
        | zero =>
          intro e he
          by_cases c : B n 0
          · rw [rn_t c] at he
            have : aRn B n 0 = 0 := rfl
            have e0 : e = 0 := by omega
            subst e0; exact ⟨Nat.le_refl _, c⟩
          · rw [rn_f c] at he; omega
        | succ y ihy =>
          intro e he
          by_cases c : B n (y + 1)
          · rw [rn_t c] at he
            rcases Nat.eq_zero_or_pos e with z | z
            · subst z; exact ⟨Nat.zero_le _, c⟩
            · obtain ⟨a1, a2⟩ := ihy (e - 1) (by omega)
              exact ⟨by omega, by rw [show y + 1 - e = y - (e - 1) by omega]; exact a2⟩
          · rw [rn_f c] at he; omega
      exact gen (Y i)
    obtain ⟨k1, k2⟩ := key (d + 1) hd
    have ex : ∃ j, j < yc ∧ Y j = Y i - (d + 1) := by
      by_cases c : ∃ j, j < yc ∧ Y j = Y i - (d + 1)
      · exact c
      · exact absurd k2 (hN n _ hn (fun j hj e => c ⟨j, hj, e⟩))
    obtain ⟨j, j1, j2⟩ := ex
    have hj : j < i - d := by
      rcases Nat.lt_or_ge j (i - d) with z | z
      · exact z
      · rcases Nat.eq_or_lt_of_le z with z | z
        · rw [← z] at j2; omega
        · have := hB.1 (i - d) j z j1; omega
    have hjd : j = i - (d + 1) := by
      rcases Nat.lt_or_ge j (i - (d + 1)) with z | z
      · have a1 := hB.1 j (i - (d + 1)) z (by omega)
        have a2 := hB.1 (i - (d + 1)) (i - d) (by omega) (by omega)
        omega
      · omega
    refine ⟨by omega, ?_⟩
    rw [← hjd]; omega
theorem pick_i (n : Nat) (a : Int) : a = pick n a a := by unfold pick; (repeat' split) <;> rfl
theorem ProC_g {k : Nat} {P : Nat → Nat → Nat} {f g g1 : Nat → Nat → Int32} (hg : ∀ j, j < 32 → g1 j = g j) (h : ProC k P f g) : ProC k P f g1 := by
  unfold ProC at *
  rw [hg 20 (by omega), hg 21 (by omega)]; exact h
theorem MowC_g {k : Nat} {M : Nat → Nat → Nat} {f g g1 : Nat → Nat → Int32} (hg : ∀ j, j < 32 → j ≠ 23 → j ≠ 22 → g1 j = g j) (h : MowC k M f g) : MowC k M f g1 := by
  unfold MowC at *
  rw [hg 15 (by omega) (by omega) (by omega), hg 16 (by omega) (by omega) (by omega), hg 17 (by omega) (by omega) (by omega), hg 18 (by omega) (by omega) (by omega), hg 19 (by omega) (by omega) (by omega)]; exact h
theorem YrC_g {yc : Nat} {Y : Nat → Nat} {f g g1 : Nat → Nat → Int32} (hg : ∀ j, j < 32 → j ≠ 23 → j ≠ 22 → g1 j = g j) (h : YrC yc Y f g) : YrC yc Y f g1 := by
  unfold YrC at *
  rw [hg 14 (by omega) (by omega) (by omega)]; exact h
theorem ProC_g2 {k : Nat} {P : Nat → Nat → Nat} {f g g1 : Nat → Nat → Int32} (hg : ∀ j, j < 32 → j ≠ 23 → j ≠ 22 → g1 j = g j) (h : ProC k P f g) : ProC k P f g1 := by
  unfold ProC at *
  rw [hg 20 (by omega) (by omega) (by omega), hg 21 (by omega) (by omega) (by omega)]; exact h
