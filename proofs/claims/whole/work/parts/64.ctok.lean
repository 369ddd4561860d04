/-! the class's keywords and the reference's packed words -/
def vN (tb : Nat → Nat) (p : Nat) : Nat → Nat
  | 0 => 0
  | k + 1 => vN tb p k * 256 + tb (p + k)
theorem sh_or {m b : Nat} (hm : m < 2 ^ 48) (hb : b < 256) : (Int64.ofNat m <<< ((iI 8).toInt64 &&& 63)) ||| (iI ((b : Nat) : Int)).toInt64 = Int64.ofNat (m * 256 + b) := by
  have e1 : (iI 8).toInt64 &&& 63 = 8 := by decide
  have e2 : (iI ((b : Nat) : Int)).toInt64 = Int64.ofNat b := by
    have h : ∀ x : Fin 256, (iI ((x.1 : Nat) : Int)).toInt64 = Int64.ofNat x.1 := by decide +kernel
    exact h ⟨b, hb⟩
  rw [e1, e2]
  apply Int64.toBitVec.inj
  rw [Int64.toBitVec_or, Int64.toBitVec_shiftLeft]
  have e3 : (Int64.toBitVec 8).smod 64 = 8#64 := by decide
  rw [e3]
  apply BitVec.eq_of_toNat_eq
  rw [BitVec.toNat_or]
  show (BitVec.ofNat 64 m <<< (8 : Nat)).toNat ||| (BitVec.ofNat 64 b).toNat = (BitVec.ofNat 64 (m * 256 + b)).toNat
  rw [BitVec.toNat_shiftLeft, BitVec.toNat_ofNat, BitVec.toNat_ofNat, BitVec.toNat_ofNat, Nat.mod_eq_of_lt (a := m) (by omega), Nat.mod_eq_of_lt (a := b) (by omega), Nat.mod_eq_of_lt (a := m * 256 + b) (by omega), Nat.shiftLeft_eq, Nat.mod_eq_of_lt (by omega)]
  have := Nat.shiftLeft_add_eq_or_of_lt (i := 8) (b := b) hb m
  rw [Nat.shiftLeft_eq] at this
  exact this.symm
theorem vN_pk {tn : Nat} {tb : Nat → Nat} {p : Nat} : ∀ k, k ≤ 6 → (∀ j, j < k → p + j < tn ∧ tb (p + j) < 256) → pkW tn tb p k = Int64.ofNat (vN tb p k) ∧ vN tb p k < 256 ^ k
  | 0, _, _ => ⟨rfl, (by decide : 0 < 256 ^ 0)⟩
  | k + 1, h, hb => by
    obtain ⟨h1, h2⟩ := vN_pk k (by omega) (fun j hj => hb j (by omega))
    have h3 := hb k (by omega)
    have h4 : 256 ^ k ≤ 256 ^ 5 := Nat.pow_le_pow_right (by decide) (by omega)
    refine ⟨?_, ?_⟩
    · show (if k < 7 then _ else _) = Int64.ofNat (vN tb p k * 256 + tb (p + k))
      rw [if_pos (by omega), h1, show sT tn tb (p + k) = ((tb (p + k) : Nat) : Int) from if_pos h3.1]
      exact sh_or (by omega) h3.2
    · show vN tb p k * 256 + tb (p + k) < 256 ^ (k + 1)
      rw [Nat.pow_succ]; omega
theorem of64 {a b : Nat} (ha : a < 2 ^ 63) (hb : b < 2 ^ 63) : Int64.ofNat a = Int64.ofNat b ↔ a = b := by
  refine ⟨fun h => ?_, fun h => by rw [h]⟩
  have h1 := congrArg (fun x => x.toBitVec.toNat) h
  have h2 : (BitVec.ofNat 64 a).toNat = (BitVec.ofNat 64 b).toNat := h1
  rw [BitVec.toNat_ofNat, BitVec.toNat_ofNat, Nat.mod_eq_of_lt (by omega), Nat.mod_eq_of_lt (by omega)] at h2
  exact h2
/-- the word of len letters from p on is keyword k -/
def SpK (tb : Nat → Nat) (p len k : Nat) : Prop := kwL.getD k 0 = len ∧ ∀ j, j < kwL.getD k 0 → sB (tb (p + j)) = kwC k j
/-- the reference's number of keyword k -/
def cdK (k : Nat) : Int := if k < 6 then 300 + k else (k : Int) - 3
def kwN : List Nat := [1684366692, 7168368, 431265964904, 1886352244, 2003792484, 126948268729721, 512802514792, 499968536439, 1752132708, 1650814564, 474148726130]
def vK (k : Nat) : Nat → Nat
  | 0 => 0
  | j + 1 => vK k j * 256 + (kwC k j).toNat
theorem vK_c : ∀ k : Fin 11, vK k.1 (kwL.getD k.1 0) = kwN.getD k.1 0 ∧ wdT (Int64.ofNat (kwN.getD k.1 0)) = cdK k.1 ∧ kwN.getD k.1 0 < 2 ^ 48 := by decide +kernel
theorem vK_n {k : Nat} (hk : k < 11) : vK k (kwL.getD k 0) = kwN.getD k 0 ∧ wdT (Int64.ofNat (kwN.getD k 0)) = cdK k ∧ kwN.getD k 0 < 2 ^ 48 := vK_c ⟨k, hk⟩
theorem wd_in (m : Nat) (hm : m < 2 ^ 48) (h : wdT (Int64.ofNat m) ≠ 1) : ∃ k, k < 11 ∧ m = kwN.getD k 0 := by
  have key : ∀ (c : Int64) (n : Nat), c = Int64.ofNat n → n < 2 ^ 48 → Int64.ofNat m = c → m = n := fun c n e h1 h2 => (of64 (by omega) (by omega)).mp (h2.trans e)
  unfold wdT at h
  repeat' split at h
  · exact ⟨6, by decide, key _ 512802514792 rfl (by decide) (by assumption)⟩
  · exact ⟨7, by decide, key _ 499968536439 rfl (by decide) (by assumption)⟩
  · exact ⟨8, by decide, key _ 1752132708 rfl (by decide) (by assumption)⟩
  · exact ⟨9, by decide, key _ 1650814564 rfl (by decide) (by assumption)⟩
  · exact ⟨10, by decide, key _ 474148726130 rfl (by decide) (by assumption)⟩
  · exact ⟨0, by decide, key _ 1684366692 rfl (by decide) (by assumption)⟩
  · exact ⟨1, by decide, key _ 7168368 rfl (by decide) (by assumption)⟩
  · exact ⟨2, by decide, key _ 431265964904 rfl (by decide) (by assumption)⟩
  · exact ⟨3, by decide, key _ 1886352244 rfl (by decide) (by assumption)⟩
  · exact ⟨4, by decide, key _ 2003792484 rfl (by decide) (by assumption)⟩
  · exact ⟨5, by decide, key _ 126948268729721 rfl (by decide) (by assumption)⟩
  · exact absurd rfl h
/-- a number in base 256 has one writing without leading zeros -/
theorem vN_inj {tb : Nat → Nat} {p k : Nat} : ∀ a b, (∀ j, j < a → 1 ≤ tb (p + j) ∧ tb (p + j) < 256) → (∀ j, j < b → 1 ≤ (kwC k j).toNat ∧ (kwC k j).toNat < 256) → vN tb p a = vK k b → a = b ∧ ∀ j, j < a → tb (p + j) = (kwC k j).toNat
  | 0, 0, _, _, _ => ⟨rfl, fun j h => absurd h (Nat.not_lt_zero j)⟩
  | 0, b + 1, _, h2, e => by
    have := h2 b (by omega)
    have e : 0 = vK k b * 256 + (kwC k b).toNat := e
    omega
  | a + 1, 0, h1, _, e => by
    have := h1 a (by omega)
    have e : vN tb p a * 256 + tb (p + a) = 0 := e
    omega
  | a + 1, b + 1, h1, h2, e => by
    have q1 := h1 a (by omega)
    have q2 := h2 b (by omega)
    have e : vN tb p a * 256 + tb (p + a) = vK k b * 256 + (kwC k b).toNat := e
    obtain ⟨i1, i2⟩ := vN_inj a b (fun j hj => h1 j (by omega)) (fun j hj => h2 j (by omega)) (by omega)
    refine ⟨by omega, fun j hj => ?_⟩
    rcases Nat.lt_or_ge j a with c | c
    · exact i2 j c
    · have ej : j = a := by omega
      subst ej; subst i1; omega
theorem kw_b {k j : Nat} (hk : k < 12) (hj : j < kwL.getD k 0) : 97 ≤ kwC k j ∧ kwC k j ≤ 122 := (kw_ch ⟨k, hk⟩ ⟨j, by have := kw_len hk; omega⟩ hj).2.2
theorem sB_k {n : Nat} {z : Int} (hn : n < 256) (hz : 97 ≤ z ∧ z ≤ 122) : sB n = z ↔ n = z.toNat := by
  unfold sB; split <;> omega
theorem vK_sp {tb : Nat → Nat} {p k : Nat} : ∀ a, (∀ j, j < a → tb (p + j) = (kwC k j).toNat) → vN tb p a = vK k a
  | 0, _ => rfl
  | a + 1, h => by
    show vN tb p a * 256 + tb (p + a) = vK k a * 256 + (kwC k a).toNat
    rw [vK_sp a (fun j hj => h j (by omega)), h a (by omega)]
theorem sp_wd {tn : Nat} {tb : Nat → Nat} {p len k : Nat} (hk : k < 11) (hb : ∀ j, j < len → p + j < tn ∧ 1 ≤ tb (p + j) ∧ tb (p + j) < 256) : SpK tb p len k ↔ (len < 7 ∧ wdT (pkW tn tb p len) = cdK k) := by
  have hl := kw_len (show k < 12 by omega)
  have c := vK_n hk
  constructor
  · rintro ⟨h1, h2⟩
    subst h1
    refine ⟨by omega, ?_⟩
    obtain ⟨e1, -⟩ := vN_pk (tn := tn) (kwL.getD k 0) hl (fun j hj => ⟨(hb j hj).1, (hb j hj).2.2⟩)
    rw [e1, vK_sp _ (fun j hj => (sB_k (hb j hj).2.2 (kw_b (by omega) hj)).mp (h2 j hj)), c.1]
    exact c.2.1
  · rintro ⟨h1, h2⟩
    obtain ⟨e1, e2⟩ := vN_pk (tn := tn) len (by omega) (fun j hj => ⟨(hb j hj).1, (hb j hj).2.2⟩)
    have e3 : 256 ^ len ≤ 256 ^ 6 := Nat.pow_le_pow_right (by decide) (by omega)
    rw [e1] at h2
    have hc : cdK k ≠ 1 := by unfold cdK; split <;> omega
    obtain ⟨q, hq, eq⟩ := wd_in (vN tb p len) (by omega) (by rw [h2]; exact hc)
    have cq := vK_n hq
    have hqk : q = k := by
      rw [eq] at h2
      have := cq.2.1.symm.trans h2
      unfold cdK at this
      (repeat' split at this) <;> omega
    subst hqk
    obtain ⟨i1, i2⟩ := vN_inj len (kwL.getD q 0) (fun j hj => (hb j hj).2) (fun j hj => by have := kw_b (show q < 12 by omega) hj; omega) (eq.trans cq.1.symm)
    exact ⟨i1.symm, fun j hj => (sB_k (hb j (by omega)).2.2 (kw_b (by omega) hj)).mpr (i2 j (by omega))⟩
theorem wd_no {tn : Nat} {tb : Nat → Nat} {p len : Nat} (hb : ∀ j, j < len → p + j < tn ∧ 1 ≤ tb (p + j) ∧ tb (p + j) < 256) (hl : len < 7) (h : ∀ k, k < 11 → ¬ SpK tb p len k) : wdT (pkW tn tb p len) = 1 := by
  obtain ⟨e1, e2⟩ := vN_pk (tn := tn) len (by omega) (fun j hj => ⟨(hb j hj).1, (hb j hj).2.2⟩)
  have e3 : 256 ^ len ≤ 256 ^ 6 := Nat.pow_le_pow_right (by decide) (by omega)
  by_cases c : wdT (pkW tn tb p len) = 1
  · exact c
  · rw [e1] at c
    obtain ⟨q, hq, eq⟩ := wd_in (vN tb p len) (by omega) c
    have cq := vK_n hq
    exact absurd ((sp_wd hq hb).mpr ⟨hl, by rw [e1, eq]; exact cq.2.1⟩) (h q hq)
/-- the class's token and its value -/
noncomputable def ctT (tn : Nat) (tb : Nat → Nat) (i : Nat) : Int := if tkT tn tb i = 0 then 0 else if tkT tn tb i = 2 then 2 else if tkT tn tb i = 59 then 3 else if tkT tn tb i = 1 then 4 else 1
noncomputable def ctV (tn : Nat) (tb : Nat → Nat) (i : Nat) : Int := if tkT tn tb i = 2 then tkV tn tb i else if 300 ≤ tkT tn tb i then tkT tn tb i - 300 else if 3 ≤ tkT tn tb i ∧ tkT tn tb i ≤ 7 then tkT tn tb i + 3 else -1
def TokC (tn : Nat) (tb : Nat → Nat) (i : Nat) (f : Nat → Nat → Int32) : Prop := f 3 4 = iI (tkN tn tb i : Nat) ∧ f 3 5 = iI (ctT tn tb i) ∧ f 3 6 = iI (tkA tn tb i : Nat) ∧ f 3 7 = iI (ctV tn tb i)
/-- the last of the first k keywords that the word is -/
noncomputable def wkV (tb : Nat → Nat) (p len : Nat) : Nat → Int
  | 0 => -1
  | k + 1 => @ite _ (SpK tb p len k) (Classical.propDecidable _) (k : Int) (wkV tb p len k)
theorem wkV_c (tb : Nat → Nat) (p len : Nat) : ∀ k, (wkV tb p len k = -1 ∧ ∀ q, q < k → ¬ SpK tb p len q) ∨ ∃ q, q < k ∧ wkV tb p len k = q ∧ SpK tb p len q
  | 0 => Or.inl ⟨rfl, fun q h => absurd h (Nat.not_lt_zero q)⟩
  | k + 1 => by
    by_cases c : SpK tb p len k
    · exact Or.inr ⟨k, by omega, if_pos c, c⟩
    · have e : wkV tb p len (k + 1) = wkV tb p len k := if_neg c
      rcases wkV_c tb p len k with h | ⟨q, h1, h2, h3⟩
      · refine Or.inl ⟨e.trans h.1, fun q hq => ?_⟩
        rcases Nat.lt_or_ge q k with d | d
        · exact h.2 q d
        · have : q = k := by omega
          subst this; exact c
      · exact Or.inr ⟨q, by omega, e.trans h2, h3⟩
theorem ct_word {tn : Nat} {tb : Nat → Nat} {i p e : Nat} (hp : tkA tn tb i = p) (h : ¬ tn ≤ p) (h2 : tLe tb p) (he : spn (tLe tb) tn p = e) (hTB : ∀ q, tb q < 256) : ctT tn tb i = (if wkV tb p (e - p) 11 = -1 then 4 else 1) ∧ ctV tn tb i = wkV tb p (e - p) 11 ∧ tkN tn tb i = e := by
  have t := tkT_l hp h h2 he
  have hb : ∀ j, j < e - p → p + j < tn ∧ 1 ≤ tb (p + j) ∧ tb (p + j) < 256 := fun j hj => by
    have q := spn_all (tLe tb) tn p (p + j) (by omega) (by omega)
    have q2 := q.2
    unfold tLe at q2
    exact ⟨q.1, by omega, hTB _⟩
  rcases wkV_c tb p (e - p) 11 with ⟨c1, c2⟩ | ⟨q, c1, c2, c3⟩
  · have t1 : tkT tn tb i = 1 := by
      rw [t.1]
      split
      · exact wd_no hb (by assumption) c2
      · rfl
    unfold ctT ctV
    rw [t1, c1]
    exact ⟨by simp, by simp, t.2⟩
  · have s := (sp_wd c1 hb).mp c3
    have t1 : tkT tn tb i = cdK q := by rw [t.1, if_pos s.1]; exact s.2
    unfold ctT ctV
    rw [t1, c2]
    unfold cdK
    refine ⟨?_, ?_, t.2⟩ <;> (repeat' split) <;> omega

