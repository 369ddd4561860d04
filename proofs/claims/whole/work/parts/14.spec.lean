/-! ===== what the calls answer, in numbers: sayings (n of them; S 0 kind, 1 from, 2 to, 3 low, 4 high, 5 year, 6 side); the law: weights wt, newer nw, throw th, hold ho, bend be ===== -/
def SayB (n : Nat) (S : Nat → Nat → Nat) : Prop := n ≤ 12 ∧ ∀ i, S 0 i < 6 ∧ S 1 i ≤ S 2 i ∧ S 2 i < 10 ∧ S 3 i ≤ S 4 i ∧ S 4 i < 80 ∧ S 5 i < 1000 ∧ S 6 i < 2
def LawB (wt : Nat → Nat) (th ho be : Nat) : Prop := (∀ k, wt k ≤ 20) ∧ th ≤ 9 ∧ (1 ≤ ho ∧ ho ≤ 99) ∧ be ≤ 9
/-- a foot of saying i as it counts -/
def aMv (S : Nat → Nat → Nat) (th i f : Nat) : Nat := if S 0 i = 2 then (if S 6 i = 0 then (if f + th < 80 then f + th else 79) else f - th) else f
theorem aMv_lt {S : Nat → Nat → Nat} {th i f : Nat} (h : f < 80) : aMv S th i f < 80 := by unfold aMv; (repeat' split) <;> omega
def aBlk (S : Nat → Nat → Nat) (i s q : Nat) : Prop := ¬ (S 0 q = S 0 i ∧ (S 1 q ≤ s ∧ s ≤ S 2 q) ∧ S 5 i < S 5 q)
/-- saying i counts at station s -/
def aCt (n : Nat) (S : Nat → Nat → Nat) (nw : Nat → Prop) (i s : Nat) : Prop := (S 1 i ≤ s ∧ s ≤ S 2 i) ∧ (nw (S 0 i) → allN (aBlk S i s) n)
theorem ct_x1 {n : Nat} {S : Nat → Nat → Nat} {nw : Nat → Prop} {i s j : Nat} (h1 : S 1 i ≤ s ∧ s ≤ S 2 i) (hj : j = 0 ∨ nw (S 0 i)) (e : j = n) : allN (aBlk S i s) j ↔ aCt n S nw i s := by
  subst e
  refine ⟨fun h => ⟨h1, fun _ => h⟩, fun h => ?_⟩
  rcases hj with h2 | h2
  · subst h2; exact allN_0 _
  · exact h.2 h2
theorem ct_x2 {n : Nat} {S : Nat → Nat → Nat} {nw : Nat → Prop} {i s j : Nat} (h1 : S 1 i ≤ s ∧ s ≤ S 2 i) (hj : j = 0 ∨ nw (S 0 i)) (e : ¬ nw (S 0 i)) : allN (aBlk S i s) j ↔ aCt n S nw i s := by
  refine ⟨fun _ => ⟨h1, fun z => absurd z e⟩, fun _ => ?_⟩
  rcases hj with h2 | h2
  · subst h2; exact allN_0 _
  · exact absurd h2 e
/-- how far a foot is from low .. high -/
def aMs (t lo hi : Nat) : Nat := if t < lo then lo - t else if hi < t then t - hi else 0
theorem aMs_le {t lo hi : Nat} (h : t < 80) (h2 : lo < 80) : aMs t lo hi ≤ 79 := by unfold aMs; (repeat' split) <;> omega
noncomputable def aTm (n : Nat) (S : Nat → Nat → Nat) (wt : Nat → Nat) (nw : Nat → Prop) (th s t i : Nat) : Nat := @ite _ (aCt n S nw i s) (Classical.propDecidable _) (wt (S 0 i) * aMs t (aMv S th i (S 3 i)) (aMv S th i (S 4 i))) 0
/-- the cost of a foot at a station, of the first k sayings -/
noncomputable def aCa (n : Nat) (S : Nat → Nat → Nat) (wt : Nat → Nat) (nw : Nat → Prop) (th s t : Nat) : Nat → Nat
  | 0 => 0
  | k + 1 => aCa n S wt nw th s t k + aTm n S wt nw th s t k
theorem aTm_t {n : Nat} {S : Nat → Nat → Nat} {wt : Nat → Nat} {nw : Nat → Prop} {th s t i : Nat} (h : aCt n S nw i s) : aTm n S wt nw th s t i = wt (S 0 i) * aMs t (aMv S th i (S 3 i)) (aMv S th i (S 4 i)) := if_pos h
theorem aTm_f {n : Nat} {S : Nat → Nat → Nat} {wt : Nat → Nat} {nw : Nat → Prop} {th s t i : Nat} (h : ¬ aCt n S nw i s) : aTm n S wt nw th s t i = 0 := if_neg h
theorem ca_1 {a w t lo : Nat} (h : (t : Int) < lo) : ((a : Int) + ((w : Int) * ((lo : Int) - (t : Int)))) = ((a + w * (lo - t) : Nat) : Int) := by
  rw [Int.natCast_add, Int.natCast_mul, Int.natCast_sub (by omega)]
theorem ca_s1 {n : Nat} {S : Nat → Nat → Nat} {wt : Nat → Nat} {nw : Nat → Prop} {th s t k : Nat} (hc : aCt n S nw k s) (h : (t : Int) < ((aMv S th k (S 3 k) : Nat) : Int)) : ((aCa n S wt nw th s t k : Nat) : Int) + (((wt (S 0 k) : Nat) : Int) * (((aMv S th k (S 3 k) : Nat) : Int) - ((t : Nat) : Int))) = ((aCa n S wt nw th s t (k + 1) : Nat) : Int) := by
  rw [ca_1 h]
  congr 1
  show _ = aCa n S wt nw th s t k + aTm n S wt nw th s t k
  rw [aTm_t hc]
  unfold aMs
  rw [if_pos (by omega)]
theorem ca_s2 {n : Nat} {S : Nat → Nat → Nat} {wt : Nat → Nat} {nw : Nat → Prop} {th s t k : Nat} (hc : aCt n S nw k s) (h : ((aMv S th k (S 3 k) : Nat) : Int) ≤ (t : Int)) (h2 : ((aMv S th k (S 4 k) : Nat) : Int) < (t : Int)) : ((aCa n S wt nw th s t k : Nat) : Int) + (((wt (S 0 k) : Nat) : Int) * (((t : Nat) : Int) - ((aMv S th k (S 4 k) : Nat) : Int))) = ((aCa n S wt nw th s t (k + 1) : Nat) : Int) := by
  rw [ca_1 h2]
  congr 1
  show _ = aCa n S wt nw th s t k + aTm n S wt nw th s t k
  rw [aTm_t hc]
  unfold aMs
  rw [if_neg (by omega), if_pos (by omega)]
theorem ca_s3 {n : Nat} {S : Nat → Nat → Nat} {wt : Nat → Nat} {nw : Nat → Prop} {th s t k : Nat} (hc : aCt n S nw k s) (h : ((aMv S th k (S 3 k) : Nat) : Int) ≤ (t : Int)) (h2 : (t : Int) ≤ ((aMv S th k (S 4 k) : Nat) : Int)) : ((aCa n S wt nw th s t k : Nat) : Int) + (((wt (S 0 k) : Nat) : Int) * 0) = ((aCa n S wt nw th s t (k + 1) : Nat) : Int) := by
  rw [Int.mul_zero, Int.add_zero]
  congr 1
  show _ = aCa n S wt nw th s t k + aTm n S wt nw th s t k
  rw [aTm_t hc]
  unfold aMs
  rw [if_neg (by omega), if_neg (by omega), Nat.mul_zero, Nat.add_zero]
theorem ca_s4 {n : Nat} {S : Nat → Nat → Nat} {wt : Nat → Nat} {nw : Nat → Prop} {th s t k : Nat} (hc : ¬ aCt n S nw k s) : ((aCa n S wt nw th s t k : Nat) : Int) = ((aCa n S wt nw th s t (k + 1) : Nat) : Int) := by
  congr 1
  show _ = aCa n S wt nw th s t k + aTm n S wt nw th s t k
  rw [aTm_f hc, Nat.add_zero]
theorem aTm_le {n : Nat} {S : Nat → Nat → Nat} {wt : Nat → Nat} {nw : Nat → Prop} {th s t i : Nat} (hB : SayB n S) (hw : ∀ k, wt k ≤ 20) (ht : t < 80) : aTm n S wt nw th s t i ≤ 1580 := by
  by_cases h : aCt n S nw i s
  · rw [aTm_t h]
    have h1 := hB.2 i
    have h2 : aMs t (aMv S th i (S 3 i)) (aMv S th i (S 4 i)) ≤ 79 := aMs_le ht (aMv_lt (by omega))
    exact Nat.le_trans (Nat.mul_le_mul (hw _) h2) (by omega)
  · rw [aTm_f h]; omega
theorem aCa_le {n : Nat} {S : Nat → Nat → Nat} {wt : Nat → Nat} {nw : Nat → Prop} {th s t : Nat} (hB : SayB n S) (hw : ∀ k, wt k ≤ 20) (ht : t < 80) : ∀ k, aCa n S wt nw th s t k ≤ 1580 * k
  | 0 => Nat.le_refl _
  | k + 1 => by
    show aCa n S wt nw th s t k + aTm n S wt nw th s t k ≤ _
    have h1 := aCa_le hB hw ht (s := s) (nw := nw) (th := th) k
    have h2 := aTm_le hB hw ht (s := s) (i := k) (nw := nw) (th := th)
    omega
/-- the least of the first k, and the first place where it is -/
def mnN (F : Nat → Nat) : Nat → Nat
  | 0 => 0
  | k + 1 => if k = 0 ∨ F k < mnN F k then F k else mnN F k
def amN (F : Nat → Nat) : Nat → Nat
  | 0 => 0
  | k + 1 => if F k < F (amN F k) then k else amN F k
theorem amN_lt (F : Nat → Nat) : ∀ k, 0 < k → amN F k < k
  | 0, h => h
  | 1, _ => by show (if F 0 < F 0 then 0 else 0) < 1; split <;> omega
  | k + 2, _ => by
    show (if F (k + 1) < F (amN F (k + 1)) then k + 1 else amN F (k + 1)) < k + 2
    have := amN_lt F (k + 1) (by omega)
    split <;> omega
theorem mnN_le (F : Nat → Nat) : ∀ k, 0 < k → mnN F k ≤ F 0
  | 0, h => absurd h (Nat.lt_irrefl 0)
  | 1, _ => by show (if 0 = 0 ∨ F 0 < 0 then F 0 else 0) ≤ F 0; simp
  | k + 2, _ => by
    show (if k + 1 = 0 ∨ F (k + 1) < mnN F (k + 1) then F (k + 1) else mnN F (k + 1)) ≤ F 0
    have := mnN_le F (k + 1) (by omega)
    split <;> omega
def aDs (t u : Nat) : Nat := if t < u then u - t else t - u
theorem ds_abs (t u : Nat) : (if ((t : Int) - (u : Int)) < 0 then -((t : Int) - (u : Int)) else ((t : Int) - (u : Int))) = ((aDs t u : Nat) : Int) := by
  unfold aDs
  split <;> split <;> omega
theorem aDs_le {t u : Nat} (ht : t < 80) (hu : u < 80) : aDs t u ≤ 79 := by unfold aDs; split <;> omega
/-- the least cost from station 9 - d on to the last, from foot t there -/
noncomputable def aOnD (n : Nat) (S : Nat → Nat → Nat) (wt : Nat → Nat) (nw : Nat → Prop) (th be : Nat) : Nat → Nat → Nat
  | 0, t => aCa n S wt nw th 9 t n
  | d + 1, t => aCa n S wt nw th (8 - d) t n + mnN (fun u => aOnD n S wt nw th be d u + be * aDs t u) 80
noncomputable def aOn (n : Nat) (S : Nat → Nat → Nat) (wt : Nat → Nat) (nw : Nat → Prop) (th be : Nat) (s t : Nat) : Nat := aOnD n S wt nw th be (9 - s) t
theorem aOnD_le {n : Nat} {S : Nat → Nat → Nat} {wt : Nat → Nat} {nw : Nat → Prop} {th be : Nat} (hB : SayB n S) (hw : ∀ k, wt k ≤ 20) (hb : be ≤ 9) : ∀ d t, t < 80 → aOnD n S wt nw th be d t ≤ 20000 * (d + 1)
  | 0, t, ht => by
    show aCa n S wt nw th 9 t n ≤ _
    have h1 := aCa_le (s := 9) (nw := nw) (th := th) hB hw ht n
    have h2 := hB.1
    omega
  | d + 1, t, ht => by
    show aCa n S wt nw th (8 - d) t n + mnN (fun u => aOnD n S wt nw th be d u + be * aDs t u) 80 ≤ _
    have h1 := aCa_le (s := 8 - d) (nw := nw) (th := th) hB hw ht n
    have h2 := hB.1
    have h3 := mnN_le (fun u => aOnD n S wt nw th be d u + be * aDs t u) 80 (by omega)
    have h4 := aOnD_le hB hw hb (nw := nw) (th := th) d 0 (by omega)
    have h5 : be * aDs t 0 ≤ 9 * 79 := Nat.mul_le_mul hb (aDs_le ht (by omega))
    omega
theorem aOn_le {n : Nat} {S : Nat → Nat → Nat} {wt : Nat → Nat} {nw : Nat → Prop} {th be : Nat} (hB : SayB n S) (hw : ∀ k, wt k ≤ 20) (hb : be ≤ 9) (s t : Nat) (ht : t < 80) : aOn n S wt nw th be s t ≤ 200000 := by
  have h := aOnD_le hB hw hb (nw := nw) (th := th) (9 - s) t ht
  unfold aOn
  omega
/-- the price of foot t at station s, the foot before chosen; the paper line -/
noncomputable def aPr (n : Nat) (S : Nat → Nat → Nat) (wt : Nat → Nat) (nw : Nat → Prop) (th be : Nat) (P : Nat → Nat) (s t : Nat) : Nat := aOn n S wt nw th be s t + (if s = 0 then 0 else be * aDs t (P (s - 1)))
noncomputable def aPp (n : Nat) (S : Nat → Nat → Nat) (wt : Nat → Nat) (nw : Nat → Prop) (th be : Nat) : Nat → Nat
  | 0 => amN (aOn n S wt nw th be 0) 80
  | s + 1 => amN (fun t => aOn n S wt nw th be (s + 1) t + be * aDs t (aPp n S wt nw th be s)) 80
theorem aPp_eq (n : Nat) (S : Nat → Nat → Nat) (wt : Nat → Nat) (nw : Nat → Prop) (th be s : Nat) : aPp n S wt nw th be s = amN (aPr n S wt nw th be (aPp n S wt nw th be) s) 80 := by
  cases s with
  | zero => exact congrArg (fun F => amN F 80) (funext fun t => by unfold aPr; rw [if_pos rfl, Nat.add_zero])
  | succ s => exact congrArg (fun F => amN F 80) (funext fun t => by unfold aPr; rw [if_neg (Nat.succ_ne_zero s), Nat.add_sub_cancel])
theorem aPp_lt (n : Nat) (S : Nat → Nat → Nat) (wt : Nat → Nat) (nw : Nat → Prop) (th be s : Nat) : aPp n S wt nw th be s < 80 := by
  rw [aPp_eq]; exact amN_lt _ 80 (by omega)
theorem aPr_le {n : Nat} {S : Nat → Nat → Nat} {wt : Nat → Nat} {nw : Nat → Prop} {th be : Nat} {P : Nat → Nat} (hB : SayB n S) (hw : ∀ k, wt k ≤ 20) (hb : be ≤ 9) (hP : ∀ s, P s < 80) (s t : Nat) (ht : t < 80) : aPr n S wt nw th be P s t ≤ 201000 := by
  have h := aOn_le hB hw hb (nw := nw) (th := th) s t ht
  unfold aPr
  have h5 : be * aDs t (P (s - 1)) ≤ 9 * 79 := Nat.mul_le_mul hb (aDs_le ht (hP _))
  split <;> omega
theorem pr_1 {n : Nat} {S : Nat → Nat → Nat} {wt : Nat → Nat} {nw : Nat → Prop} {th be : Nat} {P : Nat → Nat} {q t : Nat} (h : ¬ (q : Int) = 0) : ((aOn n S wt nw th be q t : Nat) : Int) + (((be : Nat) : Int) * (if (((t : Nat) : Int) - ((P (q - 1) : Nat) : Int)) < 0 then -(((t : Nat) : Int) - ((P (q - 1) : Nat) : Int)) else (((t : Nat) : Int) - ((P (q - 1) : Nat) : Int)))) = ((aPr n S wt nw th be P q t : Nat) : Int) := by
  rw [ds_abs]
  unfold aPr
  rw [if_neg (by omega), Int.natCast_add, Int.natCast_mul]
theorem pr_0 {n : Nat} {S : Nat → Nat → Nat} {wt : Nat → Nat} {nw : Nat → Prop} {th be : Nat} {P : Nat → Nat} {q t : Nat} (h : (q : Int) = 0) : ((aOn n S wt nw th be q t : Nat) : Int) + 0 = ((aPr n S wt nw th be P q t : Nat) : Int) := by
  unfold aPr
  rw [if_pos (by omega), Int.add_zero, Nat.add_zero]
theorem on_cv (x be t u : Nat) : ((x : Nat) : Int) + (((be : Nat) : Int) * (if (((t : Nat) : Int) - ((u : Nat) : Int)) < 0 then -(((t : Nat) : Int) - ((u : Nat) : Int)) else (((t : Nat) : Int) - ((u : Nat) : Int)))) = ((x + be * aDs t u : Nat) : Int) := by
  rw [ds_abs, Int.natCast_add, Int.natCast_mul]
theorem mn_1 {F : Nat → Nat} {k : Nat} (h : k = 0 ∨ F k < mnN F k) : F k = mnN F (k + 1) := (if_pos h).symm
theorem mn_2 {F : Nat → Nat} {k : Nat} (h : ¬ k = 0) (h2 : mnN F k ≤ F k) : mnN F k = mnN F (k + 1) := (if_neg (fun z => z.elim h (fun y => by omega))).symm
theorem mnN_le2 (F : Nat → Nat) (u M : Nat) (h : F 0 ≤ M) : mnN F u ≤ M := by
  cases u with
  | zero => exact Nat.zero_le _
  | succ u => exact Nat.le_trans (mnN_le F (u + 1) (Nat.succ_pos u)) h
theorem am_0 (F : Nat → Nat) : 0 = amN F 1 := by
  show 0 = (if F 0 < F (amN F 0) then 0 else amN F 0)
  split <;> rfl
theorem am_1 {F : Nat → Nat} {k : Nat} (h : F k < F (amN F k)) : k = amN F (k + 1) := (if_pos h).symm
theorem am_2 {F : Nat → Nat} {k : Nat} (h : F (amN F k) ≤ F k) : amN F k = amN F (k + 1) := (if_neg (by omega)).symm
theorem on_step {n : Nat} {S : Nat → Nat → Nat} {wt : Nat → Nat} {nw : Nat → Prop} {th be : Nat} {q t : Nat} (h : q < 9) : aOn n S wt nw th be q t = aCa n S wt nw th q t n + mnN (fun u => aOn n S wt nw th be (q + 1) u + be * aDs t u) 80 := by
  unfold aOn
  obtain ⟨d, hd⟩ : ∃ d, 9 - q = d + 1 := ⟨8 - q, by omega⟩
  have h2 : 9 - (q + 1) = d := by omega
  rw [hd, h2]
  show aCa n S wt nw th (8 - d) t n + _ = _
  rw [show 8 - d = q by omega]
theorem on_last {n : Nat} {S : Nat → Nat → Nat} {wt : Nat → Nat} {nw : Nat → Prop} {th be : Nat} {q t : Nat} (h : q = 9) : aOn n S wt nw th be q t = aCa n S wt nw th q t n := by
  subst h; rfl
theorem on_e1 {n : Nat} {S : Nat → Nat → Nat} {wt : Nat → Nat} {nw : Nat → Prop} {th be : Nat} {q t u : Nat} (h : q < 9) (hu : u = 80) : ((aCa n S wt nw th q t n : Nat) : Int) + ((mnN (fun u => aOn n S wt nw th be (q + 1) u + be * aDs t u) u : Nat) : Int) = ((aOn n S wt nw th be q t : Nat) : Int) := by
  rw [on_step h, hu, Int.natCast_add]
theorem on_e2 {n : Nat} {S : Nat → Nat → Nat} {wt : Nat → Nat} {nw : Nat → Prop} {th be : Nat} {q t u : Nat} {F : Nat → Nat} (h : q = 9) (hu : u = 0) : ((aCa n S wt nw th q t n : Nat) : Int) + ((mnN F u : Nat) : Int) = ((aOn n S wt nw th be q t : Nat) : Int) := by
  rw [on_last h, hu]
  exact Int.add_zero _
/-- the sum over the first k stations; the answers of paper and straight -/
noncomputable def aSm (n : Nat) (S : Nat → Nat → Nat) (wt : Nat → Nat) (nw : Nat → Prop) (th t : Nat) : Nat → Nat
  | 0 => 0
  | k + 1 => aSm n S wt nw th t k + aCa n S wt nw th k t n
noncomputable def aPaper (n : Nat) (S : Nat → Nat → Nat) (wt : Nat → Nat) (nw : Nat → Prop) (th be : Nat) (z : Int) : Int := if z = -1 then ((aOn n S wt nw th be 0 (aPp n S wt nw th be 0) : Nat) : Int) else if 0 ≤ z ∧ z ≤ 9 then ((aPp n S wt nw th be z.toNat : Nat) : Int) else -2
noncomputable def aStr (n : Nat) (S : Nat → Nat → Nat) (wt : Nat → Nat) (nw : Nat → Prop) (th : Nat) (z : Int) : Int := if 0 ≤ z ∧ z ≤ 79 then ((aSm n S wt nw th z.toNat 10 : Nat) : Int) else -1
/-- the set of stations at which saying i counts, of the first k -/
noncomputable def aSet (n : Nat) (S : Nat → Nat → Nat) (nw : Nat → Prop) (i : Nat) : Nat → Int32
  | 0 => 0
  | k + 1 => aSet n S nw i k ||| (@ite _ (aCt n S nw i k) (Classical.propDecidable _) ((1 : Int32) <<< ((iI k) &&& 31)) 0)
theorem set_t {n : Nat} {S : Nat → Nat → Nat} {nw : Nat → Prop} {i k : Nat} (h : aCt n S nw i k) : aSet n S nw i k ||| ((1 : Int32) <<< ((iI k) &&& 31)) = aSet n S nw i (k + 1) := by
  show _ = aSet n S nw i k ||| _
  rw [if_pos h]
theorem set_f {n : Nat} {S : Nat → Nat → Nat} {nw : Nat → Prop} {i k : Nat} (h : ¬ aCt n S nw i k) : aSet n S nw i k ||| 0 = aSet n S nw i (k + 1) := by
  show _ = aSet n S nw i k ||| _
  rw [if_neg h]
theorem set_f2 {n : Nat} {S : Nat → Nat → Nat} {nw : Nat → Prop} {i k : Nat} (h : ¬ aCt n S nw i k) : aSet n S nw i k = aSet n S nw i (k + 1) := by
  rw [← set_f h, Int32.or_zero]
noncomputable def aSaid (n : Nat) (S : Nat → Nat → Nat) (nw : Nat → Prop) (th : Nat) (z u : Int) : Int32 :=
  if 0 ≤ z ∧ z < n then (if u = 0 then iI (S 0 z.toNat : Nat) else if u = 1 then iI (aMv S th z.toNat (S 3 z.toNat) : Nat) else if u = 2 then iI (aMv S th z.toNat (S 4 z.toNat) : Nat) else if u = 3 then iI (S 5 z.toNat : Nat) else if u = 4 then aSet n S nw z.toNat 10 else iI (-1)) else iI (-1)
/-- a saying can be -/
def aOk (k a b l h y d : Int) : Prop := (0 ≤ k ∧ k ≤ 5) ∧ (0 ≤ a ∧ a ≤ b ∧ b ≤ 9) ∧ (0 ≤ l ∧ l ≤ h ∧ h ≤ 79) ∧ (0 ≤ y ∧ y ≤ 999) ∧ (0 ≤ d ∧ d ≤ 1)
def sPut (S : Nat → Nat → Nat) (n : Nat) (k a b l h y d : Int) : Nat → Nat → Nat := fun j i => if i = n then (if j = 0 then k.toNat else if j = 1 then a.toNat else if j = 2 then b.toNat else if j = 3 then l.toNat else if j = 4 then h.toNat else if j = 5 then y.toNat else d.toNat) else S j i
theorem sPut_B {n : Nat} {S : Nat → Nat → Nat} {k a b l h y d : Int} (hB : SayB n S) (hn : n < 12) (ho : aOk k a b l h y d) : SayB (n + 1) (sPut S n k a b l h y d) := by
  refine ⟨by omega, fun i => ?_⟩
  unfold sPut aOk at *
  by_cases e : i = n
  · simp only [e, if_true]
    refine ⟨?_, ?_, ?_, ?_, ?_, ?_, ?_⟩ <;> simp <;> omega
  · simp only [e, if_false]
    exact hB.2 i
