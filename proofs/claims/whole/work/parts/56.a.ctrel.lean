/-- the class's walk over the told years: at the i-th, x of the neighbours are done -/
def TrI (F : Nat → Nat → Int) (B : Nat → Nat → Prop) (ho : Nat) (pf : Int) (Y : Nat → Nat) (i x : Nat) (f g : Nat → Nat → Int32) : Prop := f 7 0 = iI (aTL F B ho pf (2 * Y i + x)).1 ∧ f 7 1 = iI (aTL F B ho pf (2 * Y i + x)).2 ∧ ∀ n, n < 2 → g 22 n = iI (aMy B ho n (if n < x then Y i + 1 else Y i) : Nat) ∧ g 23 n = iI (aRn B n (if n < x then Y i + 1 else yAf Y i) : Nat) ∧ ∀ k, k < (if n < x then i + 1 else i) → g (50 + n) k = iI (F n (Y k))
def TrJ (F : Nat → Nat → Int) (B : Nat → Nat → Prop) (ho : Nat) (pf : Int) (Y : Nat → Nat) (i : Nat) (f g : Nat → Nat → Int32) : Prop := f 7 0 = iI (aTL F B ho pf (2 * yAf Y i)).1 ∧ f 7 1 = iI (aTL F B ho pf (2 * yAf Y i)).2 ∧ ∀ n, n < 2 → g 22 n = iI (aMy B ho n (yAf Y i) : Nat) ∧ g 23 n = iI (aRn B n (yAf Y i) : Nat) ∧ ∀ k, k < i → g (50 + n) k = iI (F n (Y k))
/-- what extendRun leaves -/
def ExG (F : Nat → Nat → Int) (B : Nat → Nat → Prop) (Y : Nat → Nat) (i x : Nat) (g g1 : Nat → Nat → Int32) : Prop := g1 (50 + x) i = iI (F x (Y i)) ∧ g1 23 x = iI (aRn B x (Y i + 1) : Nat) ∧ (∀ j, j ≠ 23 → j ≠ 50 → j ≠ 51 → g1 j = g j) ∧ (∀ k, k ≠ i → g1 (50 + x) k = g (50 + x) k) ∧ (∀ k, k ≠ x → k < 2 → g1 (50 + k) = g (50 + k) ∧ g1 23 k = g 23 k)
section TR
variable {F : Nat → Nat → Int} {B : Nat → Nat → Prop} {ho : Nat} {pf : Int} {Y : Nat → Nat} {i x yc : Nat} {f g g1 : Nat → Nat → Int32}
theorem tr_in (hh : 1 ≤ ho) (hN : YrN B yc Y) (hB : YrB yc Y) (hi : i < yc) (h : TrJ F B ho pf Y i f g) : TrI F B ho pf Y i 0 f g := by
  have q := yr_here (F := F) (pf := pf) hh hN hB hi
  refine ⟨by rw [Nat.add_zero, q.2.1]; exact h.1, by rw [Nat.add_zero, q.2.1]; exact h.2.1, fun n hn => ?_⟩
  rw [if_neg (Nat.not_lt_zero n), if_neg (Nat.not_lt_zero n), if_neg (Nat.not_lt_zero n), (q.1 n hn).1]
  exact h.2.2 n hn
theorem tr_out (h : TrI F B ho pf Y i 2 f g) : TrJ F B ho pf Y (i + 1) f g := by
  have e : yAf Y (i + 1) = Y i + 1 := by unfold yAf; rw [if_neg (Nat.succ_ne_zero i), Nat.add_sub_cancel]
  unfold TrJ
  rw [e, show 2 * (Y i + 1) = 2 * Y i + 2 by omega]
  refine ⟨h.1, h.2.1, fun n hn => ?_⟩
  have q := h.2.2 n hn
  rw [if_pos hn, if_pos hn, if_pos hn] at q
  exact q
theorem tr_rows (hx : x < 2) (h : TrI F B ho pf Y i x f g) (hE : ExG F B Y i x g g1) : ∀ n, n < 2 → g1 23 n = iI (aRn B n (if n < x + 1 then Y i + 1 else yAf Y i) : Nat) ∧ ∀ k, k < (if n < x + 1 then i + 1 else i) → g1 (50 + n) k = iI (F n (Y k)) := by
  intro n hn
  obtain ⟨e1, e2, e3, e4, e5⟩ := hE
  have q := h.2.2 n hn
  by_cases c : n = x
  · subst c
    rw [if_pos (by omega), if_pos (by omega)]
    rw [if_neg (by omega), if_neg (by omega), if_neg (by omega)] at q
    refine ⟨e2, fun k hk => ?_⟩
    by_cases d : k = i
    · rw [d]; exact e1
    · rw [e4 k d]; exact q.2.2 k (by omega)
  · obtain ⟨o1, o2⟩ := e5 n c hn
    rw [o1, o2]
    by_cases d : n < x
    · rw [if_pos d, if_pos d, if_pos d] at q
      rw [if_pos (by omega), if_pos (by omega)]; exact q.2
    · rw [if_neg d, if_neg d, if_neg d] at q
      rw [if_neg (by omega), if_neg (by omega)]; exact q.2
theorem tr_my (h : TrI F B ho pf Y i x f g) (hE : ExG F B Y i x g g1) {z : Int32} (hz : z = iI (aMy B ho x (Y i + 1) : Nat)) : ∀ n, n < 2 → upd (g1 22) x z n = iI (aMy B ho n (if n < x + 1 then Y i + 1 else Y i) : Nat) := by
  intro n hn
  have q := (h.2.2 n hn).1
  by_cases c : n = x
  · subst c; rw [upd_s, if_pos (by omega)]; exact hz
  · rw [upd_n c, hE.2.2.1 22 (by omega) (by omega) (by omega), q]
    by_cases d : n < x
    · rw [if_pos d, if_pos (by omega)]
    · rw [if_neg d, if_neg (by omega)]
theorem tr_a (hx : x < 2) (h : TrI F B ho pf Y i x f g) (hE : ExG F B Y i x g g1) (hl : ¬ ho ≤ aRn B x (Y i + 1)) : TrI F B ho pf Y i (x + 1) f g1 := by
  have e := tl_f (F := F) (pf := pf) (B := B) (ho := ho) (t := 2 * Y i + x) (n := x) (y := Y i) (by omega) (by omega) (fun z => hl z.1)
  have r := tr_rows hx h hE
  have m := tr_my h hE (z := iI (aMy B ho x (Y i + 1) : Nat)) rfl
  have hx9 := (h.2.2 x hx).1
  rw [if_neg (Nat.lt_irrefl x)] at hx9
  refine ⟨by rw [← Nat.add_assoc, e]; exact h.1, by rw [← Nat.add_assoc, e]; exact h.2.1, fun n hn => ⟨?_, (r n hn).1, (r n hn).2⟩⟩
  have q := m n hn
  by_cases c : n = x
  · subst c
    rw [← q, upd_s, my_f hl, hE.2.2.1 22 (by omega) (by omega) (by omega)]; exact hx9
  · rw [← q, upd_n c]
theorem tr_b (hx : x < 2) (h : TrI F B ho pf Y i x f g) (hE : ExG F B Y i x g g1) (hl : ho ≤ aRn B x (Y i + 1)) (hb : ¬ byd x (aNr F ho x (Y i)) (aTL F B ho pf (2 * Y i + x)).1) : TrI F B ho pf Y i (x + 1) f (updA g1 22 (upd (g1 22) x (iI (((aMy B ho x (Y i) : Nat) : Int) + 1)))) := by
  have e := tl_f (F := F) (pf := pf) (B := B) (ho := ho) (t := 2 * Y i + x) (n := x) (y := Y i) (by omega) (by omega) (fun z => hb z.2)
  have r := tr_rows hx h hE
  refine ⟨by rw [← Nat.add_assoc, e]; exact h.1, by rw [← Nat.add_assoc, e]; exact h.2.1, fun n hn => ⟨?_, ?_, ?_⟩⟩
  · rw [updA_s]; exact tr_my h hE (by rw [my_t hl]; rfl) n hn
  · rw [updA_n (by omega)]; exact (r n hn).1
  · rw [updA_n (by omega)]; exact (r n hn).2
theorem tr_c (hx : x < 2) (h : TrI F B ho pf Y i x f g) (hE : ExG F B Y i x g g1) (hl : ho ≤ aRn B x (Y i + 1)) (hb : byd x (aNr F ho x (Y i)) (aTL F B ho pf (2 * Y i + x)).1) : TrI F B ho pf Y i (x + 1) (updA (updA f 7 (upd (f 7) 0 (iI (aNr F ho x (Y i))))) 7 (upd (updA f 7 (upd (f 7) 0 (iI (aNr F ho x (Y i)))) 7) 1 (iI (Y i : Nat)))) (updA g1 22 (upd (g1 22) x (iI (((aMy B ho x (Y i) : Nat) : Int) + 1)))) := by
  have e := tl_t (F := F) (pf := pf) (B := B) (ho := ho) (t := 2 * Y i + x) (n := x) (y := Y i) (by omega) (by omega) hl hb
  have r := tr_rows hx h hE
  refine ⟨by rw [← Nat.add_assoc, e]; rfl, by rw [← Nat.add_assoc, e]; rfl, fun n hn => ⟨?_, ?_, ?_⟩⟩
  · rw [updA_s]; exact tr_my h hE (by rw [my_t hl]; rfl) n hn
  · rw [updA_n (by omega)]; exact (r n hn).1
  · rw [updA_n (by omega)]; exact (r n hn).2
theorem tr_nr (hx : x < 2) (hB : YrB yc Y) (hN : YrN B yc Y) (hi : i < yc) (h : TrI F B ho pf Y i x f g) (hE : ExG F B Y i x g g1) (hl : ho ≤ aRn B x (Y i + 1)) : ho ≤ i + 1 ∧ ∀ d, d < ho → g1 (50 + x) (i - d) = iI (F x (Y i - d)) := by
  have rr := run_rows (F := F) hB hN hx hi
  have r := (tr_rows hx h hE x hx).2
  rw [if_pos (by omega)] at r
  refine ⟨?_, fun d hd => ?_⟩
  · rcases Nat.eq_zero_or_pos ho with z | z
    · omega
    · have := (rr (ho - 1) (by omega)).1; omega
  · obtain ⟨a1, a2⟩ := rr d (by omega)
    rw [r (i - d) (by omega), show Y i - d = Y (i - d) by omega]
end TR
