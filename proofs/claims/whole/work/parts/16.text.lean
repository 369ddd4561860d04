/-! ===== the law's text: tokens, lines; tn bytes tb on the tape ===== -/
theorem spn_dec {c : Nat → Prop} {tn i : Nat} (h : i < tn ∧ c i) : tn - (i + 1) < tn - i := by have := h.1; omega
noncomputable def spn (c : Nat → Prop) (tn i : Nat) : Nat := @dite _ (i < tn ∧ c i) (Classical.propDecidable _) (fun _ => spn c tn (i + 1)) (fun _ => i)
termination_by tn - i
decreasing_by (rename_i h; exact spn_dec h)
theorem spn_t {c : Nat → Prop} {tn i : Nat} (h : i < tn ∧ c i) : spn c tn i = spn c tn (i + 1) := by
  rw [spn]; exact dif_pos h
theorem spn_f {c : Nat → Prop} {tn i : Nat} (h : ¬ (i < tn ∧ c i)) : spn c tn i = i := by
  rw [spn]; exact dif_neg h
theorem spn_ind (c : Nat → Prop) (tn : Nat) (P : Nat → Nat → Prop) (h0 : ∀ i, ¬ (i < tn ∧ c i) → P i i) (h1 : ∀ i, (i < tn ∧ c i) → P (i + 1) (spn c tn (i + 1)) → P i (spn c tn (i + 1))) : ∀ i, P i (spn c tn i) := by
  have key : ∀ k i, tn - i < k → P i (spn c tn i) := by
    intro k
    induction k with
    | zero => intro i h; exact absurd h (Nat.not_lt_zero _)
    | succ k ih =>
      intro i h
      by_cases hc : i < tn ∧ c i
      · rw [spn_t hc]; exact h1 i hc (ih (i + 1) (by have := hc.1; omega))
      · rw [spn_f hc]; exact h0 i hc
  exact fun i => key (tn - i + 1) i (Nat.lt_succ_self _)
theorem spn_ge (c : Nat → Prop) (tn i : Nat) : i ≤ spn c tn i := spn_ind c tn (fun i j => i ≤ j) (fun i _ => Nat.le_refl i) (fun i _ h => by omega) i
theorem spn_le {c : Nat → Prop} {tn i : Nat} (h : i ≤ tn) : spn c tn i ≤ tn := spn_ind c tn (fun i j => i ≤ tn → j ≤ tn) (fun i _ h => h) (fun i hc h _ => h (by have := hc.1; omega)) i h
theorem spn_end (c : Nat → Prop) (tn i : Nat) : ¬ (spn c tn i < tn ∧ c (spn c tn i)) := spn_ind c tn (fun _ j => ¬ (j < tn ∧ c j)) (fun i h => h) (fun i _ h => h) i
theorem spn_all (c : Nat → Prop) (tn i : Nat) : ∀ q, i ≤ q → q < spn c tn i → q < tn ∧ c q := spn_ind c tn (fun i j => ∀ q, i ≤ q → q < j → q < tn ∧ c q) (fun i _ q h1 h2 => absurd h2 (by omega)) (fun i hc h q h1 h2 => by
  rcases Nat.lt_or_ge i q with h3 | h3
  · exact h q h3 h2
  · have e : q = i := by omega
    rw [e]; exact hc) i
def sT (tn : Nat) (tb : Nat → Nat) (i : Nat) : Int := if i < tn then ((tb i : Nat) : Int) else -1
theorem sT_c {tn : Nat} {tb : Nat → Nat} (h : ∀ i, tb i < 256) (i : Nat) : (i < tn ∧ sT tn tb i = ((tb i : Nat) : Int) ∧ tb i < 256) ∨ (tn ≤ i ∧ sT tn tb i = -1) := by
  unfold sT
  by_cases c : i < tn
  · rw [if_pos c]; exact Or.inl ⟨c, rfl, h i⟩
  · rw [if_neg c]; exact Or.inr ⟨by omega, rfl⟩
def tBl (tb : Nat → Nat) (i : Nat) : Prop := tb i = 32 ∨ tb i = 10
def tLe (tb : Nat → Nat) (i : Nat) : Prop := (97 ≤ tb i ∧ tb i ≤ 122) ∨ (65 ≤ tb i ∧ tb i ≤ 90)
def tDg (tb : Nat → Nat) (i : Nat) : Prop := 48 ≤ tb i ∧ tb i ≤ 57
/-- where the token that is read from i on stands -/
noncomputable def tkA (tn : Nat) (tb : Nat → Nat) (i : Nat) : Nat := spn (tBl tb) tn i
/-- where the reading goes on behind it -/
noncomputable def tkN (tn : Nat) (tb : Nat → Nat) (i : Nat) : Nat := @ite _ (tn ≤ tkA tn tb i) (Classical.propDecidable _) (tkA tn tb i) (@ite _ (tLe tb (tkA tn tb i)) (Classical.propDecidable _) (spn (tLe tb) tn (tkA tn tb i)) (@ite _ (tDg tb (tkA tn tb i)) (Classical.propDecidable _) (spn (tDg tb) tn (tkA tn tb i)) (tkA tn tb i + 1)))
/-- the letters from p on, the first seven, as one number -/
def pkW (tn : Nat) (tb : Nat → Nat) (p : Nat) : Nat → Int64
  | 0 => 0
  | k + 1 => if k < 7 then (pkW tn tb p k <<< ((iI 8).toInt64 &&& 63)) ||| (iI (sT tn tb (p + k))).toInt64 else pkW tn tb p k
def wdT (x : Int64) : Int := if x = 512802514792 then 3 else if x = 499968536439 then 4 else if x = 1752132708 then 5 else if x = 1650814564 then 6 else if x = 474148726130 then 7 else if x = 1684366692 then 300 else if x = 7168368 then 301 else if x = 431265964904 then 302 else if x = 1886352244 then 303 else if x = 2003792484 then 304 else if x = 126948268729721 then 305 else 1
def dvW (tn : Nat) (tb : Nat → Nat) (p : Nat) : Nat → Int
  | 0 => 0
  | k + 1 => if k < 2 then ((10 * dvW tn tb p k) + sT tn tb (p + k)) - 48 else dvW tn tb p k
/-- the token: 0 the end, 1 none, 2 a number, 3 .. 7 weigh, throw, hold, bend, newer, 59 the semicolon, 300 + k a kind -/
noncomputable def tkT (tn : Nat) (tb : Nat → Nat) (i : Nat) : Int := @ite _ (tn ≤ tkA tn tb i) (Classical.propDecidable _) 0 (@ite _ (tLe tb (tkA tn tb i)) (Classical.propDecidable _) (if spn (tLe tb) tn (tkA tn tb i) - tkA tn tb i < 7 then wdT (pkW tn tb (tkA tn tb i) (spn (tLe tb) tn (tkA tn tb i) - tkA tn tb i)) else 1) (@ite _ (tDg tb (tkA tn tb i)) (Classical.propDecidable _) (if spn (tDg tb) tn (tkA tn tb i) - tkA tn tb i < 3 then 2 else 1) (if tb (tkA tn tb i) = 59 then 59 else 1)))
noncomputable def tkV (tn : Nat) (tb : Nat → Nat) (i : Nat) : Int := dvW tn tb (tkA tn tb i) (spn (tDg tb) tn (tkA tn tb i) - tkA tn tb i)
theorem wdT_b (x : Int64) : 1 ≤ wdT x ∧ wdT x ≤ 305 := by
  unfold wdT
  (repeat' split) <;> omega
theorem wdT_n2 (x : Int64) : ¬ wdT x = 2 := by
  unfold wdT
  (repeat' split) <;> omega
theorem tkT_b (tn : Nat) (tb : Nat → Nat) (i : Nat) : 0 ≤ tkT tn tb i ∧ tkT tn tb i ≤ 305 := by
  have h := wdT_b (pkW tn tb (tkA tn tb i) (spn (tLe tb) tn (tkA tn tb i) - tkA tn tb i))
  unfold tkT
  (repeat' split) <;> omega
theorem tkA_le {tn : Nat} {tb : Nat → Nat} {i : Nat} (h : i ≤ tn) : tkA tn tb i ≤ tn := spn_le h
theorem tkN_le {tn : Nat} {tb : Nat → Nat} {i : Nat} (h : i ≤ tn) : tkN tn tb i ≤ tn := by
  have h1 := tkA_le (tb := tb) h
  have h2 := spn_le (c := tLe tb) h1
  have h3 := spn_le (c := tDg tb) h1
  unfold tkN
  (repeat' split) <;> omega
theorem dvW_b {tn : Nat} {tb : Nat → Nat} {p : Nat} : ∀ k, (∀ j, j < k → p + j < tn ∧ tDg tb (p + j)) → 0 ≤ dvW tn tb p k ∧ (k = 0 → dvW tn tb p k = 0) ∧ (k ≤ 1 → dvW tn tb p k ≤ 9) ∧ dvW tn tb p k ≤ 99
  | 0, _ => by have e : dvW tn tb p 0 = 0 := rfl; rw [e]; omega
  | k + 1, h => by
    have h1 := dvW_b k (fun j hj => h j (by omega))
    have h2 := h k (by omega)
    have h3 : sT tn tb (p + k) = ((tb (p + k) : Nat) : Int) := if_pos h2.1
    have h4 := h2.2
    unfold tDg at h4
    simp only [dvW]
    rw [h3]
    split <;> omega
theorem tkV_b (tn : Nat) (tb : Nat → Nat) (i : Nat) : 0 ≤ tkV tn tb i ∧ tkV tn tb i ≤ 99 := by
  have h := dvW_b (tn := tn) (tb := tb) (p := tkA tn tb i) (spn (tDg tb) tn (tkA tn tb i) - tkA tn tb i) (fun j hj => spn_all (tDg tb) tn (tkA tn tb i) _ (by omega) (by omega))
  exact ⟨h.1, h.2.2.2⟩
theorem tkT_0 {tn : Nat} {tb : Nat → Nat} {i p : Nat} (hp : tkA tn tb i = p) (h : tn ≤ p) : tkT tn tb i = 0 ∧ tkN tn tb i = p := by
  unfold tkT tkN; rw [hp, if_pos h, if_pos h]; exact ⟨rfl, rfl⟩
theorem tkT_l {tn : Nat} {tb : Nat → Nat} {i p e : Nat} (hp : tkA tn tb i = p) (h : ¬ tn ≤ p) (h2 : tLe tb p) (he : spn (tLe tb) tn p = e) : tkT tn tb i = (if e - p < 7 then wdT (pkW tn tb p (e - p)) else 1) ∧ tkN tn tb i = e := by
  unfold tkT tkN; rw [hp, if_neg h, if_neg h, if_pos h2, if_pos h2, he]; exact ⟨rfl, rfl⟩
theorem tkT_d {tn : Nat} {tb : Nat → Nat} {i p e : Nat} (hp : tkA tn tb i = p) (h : ¬ tn ≤ p) (h2 : ¬ tLe tb p) (h3 : tDg tb p) (he : spn (tDg tb) tn p = e) : tkT tn tb i = (if e - p < 3 then 2 else 1) ∧ tkN tn tb i = e ∧ tkV tn tb i = dvW tn tb p (e - p) := by
  unfold tkT tkN tkV; rw [hp, if_neg h, if_neg h, if_neg h2, if_neg h2, if_pos h3, if_pos h3, he]; exact ⟨rfl, rfl, rfl⟩
theorem tkT_o {tn : Nat} {tb : Nat → Nat} {i p : Nat} (hp : tkA tn tb i = p) (h : ¬ tn ≤ p) (h2 : ¬ tLe tb p) (h3 : ¬ tDg tb p) : tkT tn tb i = (if tb p = 59 then 59 else 1) ∧ tkN tn tb i = p + 1 := by
  unfold tkT tkN; rw [hp, if_neg h, if_neg h, if_neg h2, if_neg h2, if_neg h3, if_neg h3]; exact ⟨rfl, rfl⟩
/-- a number of two digits at most stands where the token is a number -/
theorem lcmp_z {x y : Int64} : lg_cmp x y = 0 ↔ x = y := by
  unfold lg_cmp
  constructor
  · intro h
    by_cases h1 : y < x
    · rw [if_pos h1] at h; exact absurd h (by decide)
    · rw [if_neg h1] at h
      by_cases h2 : x = y
      · exact h2
      · rw [if_neg h2] at h; exact absurd h (by decide)
  · intro h
    subst h
    rw [if_neg (Int64.lt_irrefl), if_pos rfl]
/-! lines: each at its first token's place i -/
noncomputable def lnK (tn : Nat) (tb : Nat → Nat) (i : Nat) : Nat := if tkT tn tb i = 3 ∨ tkT tn tb i = 7 then tkN tn tb (tkN tn tb i) else tkN tn tb i
noncomputable def lnM (tn : Nat) (tb : Nat → Nat) (i : Nat) : Nat := if tkT tn tb i = 7 then lnK tn tb i else tkN tn tb (lnK tn tb i)
noncomputable def lnN (tn : Nat) (tb : Nat → Nat) (i : Nat) : Nat := tkN tn tb (lnM tn tb i)
/-- the fault of a line (0: none), the place of its token; j lines stand before it -/
noncomputable def lnF (tn : Nat) (tb : Nat → Nat) (j i : Nat) : Int := if ¬ (3 ≤ tkT tn tb i ∧ tkT tn tb i ≤ 7) then 1 else if j = 20 then 3 else if (tkT tn tb i = 3 ∨ tkT tn tb i = 7) ∧ ¬ (300 ≤ tkT tn tb (tkN tn tb i) ∧ tkT tn tb (tkN tn tb i) ≤ 305) then 1 else if tkT tn tb i ≠ 7 ∧ tkT tn tb (lnK tn tb i) ≠ 2 then 1 else if tkT tn tb i ≠ 7 ∧ ¬ ((if tkT tn tb i = 5 then 1 else 0) ≤ tkV tn tb (lnK tn tb i) ∧ tkV tn tb (lnK tn tb i) ≤ (if tkT tn tb i = 3 then 20 else if tkT tn tb i = 5 then 99 else 9)) then 2 else if tkT tn tb (lnM tn tb i) ≠ 59 then 1 else 0
noncomputable def lnP (tn : Nat) (tb : Nat → Nat) (j i : Nat) : Nat := if ¬ (3 ≤ tkT tn tb i ∧ tkT tn tb i ≤ 7) then tkA tn tb i else if j = 20 then tkA tn tb i else if (tkT tn tb i = 3 ∨ tkT tn tb i = 7) ∧ ¬ (300 ≤ tkT tn tb (tkN tn tb i) ∧ tkT tn tb (tkN tn tb i) ≤ 305) then tkA tn tb (tkN tn tb i) else if tkT tn tb i ≠ 7 ∧ tkT tn tb (lnK tn tb i) ≠ 2 then tkA tn tb (lnK tn tb i) else if tkT tn tb i ≠ 7 ∧ ¬ ((if tkT tn tb i = 5 then 1 else 0) ≤ tkV tn tb (lnK tn tb i) ∧ tkV tn tb (lnK tn tb i) ≤ (if tkT tn tb i = 3 then 20 else if tkT tn tb i = 5 then 99 else 9)) then tkA tn tb (lnK tn tb i) else tkA tn tb (lnM tn tb i)
/-- the place behind j good lines -/
noncomputable def lnI (tn : Nat) (tb : Nat → Nat) : Nat → Nat
  | 0 => 0
  | j + 1 => lnN tn tb (lnI tn tb j)
theorem lnI_le (tn : Nat) (tb : Nat → Nat) : ∀ j, lnI tn tb j ≤ tn
  | 0 => Nat.zero_le _
  | j + 1 => by
    have h := lnI_le tn tb j
    show lnN tn tb (lnI tn tb j) ≤ tn
    unfold lnN lnM lnK
    have h1 := tkN_le (tb := tb) h
    have h2 := tkN_le (tb := tb) h1
    (repeat' split) <;> exact tkN_le (by first | assumption | exact tkN_le (by assumption))
def lnG (tn : Nat) (tb : Nat → Nat) (j : Nat) : Prop := tkT tn tb (lnI tn tb j) ≠ 0 ∧ lnF tn tb j (lnI tn tb j) = 0
/-- how many lines are good -/
noncomputable def lnJ (tn : Nat) (tb : Nat → Nat) : Nat := spn (lnG tn tb) 21 0
theorem lnJ_le (tn : Nat) (tb : Nat → Nat) : lnJ tn tb ≤ 20 := by
  have h1 : spn (lnG tn tb) 21 0 ≤ 21 := spn_le (by omega)
  have h2 := spn_all (lnG tn tb) 21 0 20 (by omega)
  unfold lnJ
  rcases Nat.lt_or_ge 20 (spn (lnG tn tb) 21 0) with h | h
  · have h3 := (h2 h).2.2
    unfold lnF at h3
    (repeat' split at h3) <;> simp at h3 <;> omega
  · exact h
abbrev LWT : Type := (Nat → Nat) × (Nat → Prop) × Nat × Nat × Nat
def lw0 : LWT := (fun _ => 1, fun _ => False, 0, 12, 1)
/-- a line told -/
noncomputable def lnA (x : LWT) (u k v : Int) : LWT := if u = 3 then (fun q => if q = k.toNat then v.toNat else x.1 q, x.2.1, x.2.2.1, x.2.2.2.1, x.2.2.2.2) else if u = 4 then (x.1, x.2.1, v.toNat, x.2.2.2.1, x.2.2.2.2) else if u = 5 then (x.1, x.2.1, x.2.2.1, v.toNat, x.2.2.2.2) else if u = 6 then (x.1, x.2.1, x.2.2.1, x.2.2.2.1, v.toNat) else (x.1, fun q => q = k.toNat ∨ x.2.1 q, x.2.2.1, x.2.2.2.1, x.2.2.2.2)
/-- the law behind j good lines -/
noncomputable def lnL (tn : Nat) (tb : Nat → Nat) : Nat → LWT
  | 0 => lw0
  | j + 1 => lnA (lnL tn tb j) (tkT tn tb (lnI tn tb j)) (tkT tn tb (tkN tn tb (lnI tn tb j)) - 300) (tkV tn tb (lnK tn tb (lnI tn tb j)))
/-! what is fed: twenty bytes, of each number the highest first -/
def fdB (v s : Int32) : Nat := (v >>> (s &&& 31)).toBitVec.toNat % 256
theorem fdB_and (v s : Int32) : (v >>> (s &&& 31)) &&& 255 = iI (fdB v s : Nat) := by
  rw [← iI_nI]; exact pk_and _ 8 (by decide)
theorem fdB_lt (v s : Int32) : fdB v s < 256 := Nat.mod_lt _ (by decide)
def fdV (a b c d e : Int32) (k : Nat) : Int32 := if k < 4 then a else if k < 8 then b else if k < 12 then c else if k < 16 then d else e
def fdK (a b c d e : Int32) (k : Nat) : Nat := fdB (fdV a b c d e k) (iI (24 - 8 * ((k % 4 : Nat) : Int)))
def tbF (tb : Nat → Nat) (tn : Nat) (a b c d e : Int32) (k : Nat) : Nat → Nat := fun i => if tn ≤ i ∧ i < tn + k then fdK a b c d e (i - tn) else tb i
theorem tbF_lt {tb : Nat → Nat} (h : ∀ i, tb i < 256) (tn : Nat) (a b c d e : Int32) (k i : Nat) : tbF tb tn a b c d e k i < 256 := by
  unfold tbF
  split
  · exact fdB_lt _ _
  · exact h i
theorem tbF_0 (tb : Nat → Nat) (tn : Nat) (a b c d e : Int32) : tbF tb tn a b c d e 0 = tb := by
  funext i
  unfold tbF
  rw [if_neg (by omega)]
theorem tbF_s (tb : Nat → Nat) (tn : Nat) (a b c d e : Int32) (k i : Nat) : tbF tb tn a b c d e (k + 1) i = if i = tn + k then fdK a b c d e k else tbF tb tn a b c d e k i := by
  unfold tbF
  by_cases h : i = tn + k
  · rw [if_pos h, if_pos (by omega), show i - tn = k by omega]
  · rw [if_neg h]
    by_cases h2 : tn ≤ i ∧ i < tn + k
    · rw [if_pos h2, if_pos (by omega)]
    · rw [if_neg h2, if_neg (by omega)]
theorem fd_rem (k : Nat) (h : k < 2147483648) : iI (k : Nat) - iI (k : Nat) / iI 4 * iI 4 = iI ((k % 4 : Nat) : Int) := by
  have h1 := pk_rem (a := k) (d := 4) (by omega) (by omega) (by omega)
  rw [iI_nI, iI_nI, iI_nI] at h1
  exact h1
