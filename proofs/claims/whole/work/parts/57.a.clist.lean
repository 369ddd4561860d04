/-- the answer of a method that gives a cell and changes nothing -/
def Qr (r : Nat) (w : va_W) : PT := fun v w2 => v = some (.ref r) ∧ w2 = w
theorem cl_say6 : Cond.classLink RX6 10 RX6 ∈ BG := by decide +kernel
theorem cl_say3 : Cond.classLink RX3 69 RX6 ∈ BG := by decide +kernel
theorem cl_say9 : Cond.classLink RX9 95 RX6 ∈ BG := by decide +kernel
def LawC (wt : Nat → Nat) (nw : Nat → Prop) (th ho be : Nat) (f g : Nat → Nat → Int32) : Prop := f 9 2 = iI th ∧ f 9 3 = iI ho ∧ f 9 4 = iI be ∧ (∀ k, k < 6 → g 28 k = iI (wt k)) ∧ (∀ k, k < 6 → g 29 k = bI (nw k))
section CL
variable {p : Program} {l : Launch} {e : Env} {R : Room} {s : State} {m : MethodId} {args : Array Value} {below : List Frame} {meth : Method} {c : Code} {H : Heap} {locs : List Loc} {cells slots : Nat} {Q : State → Prop}
variable {cc : ByteArray} {nL pc : Nat} {own : String} {ls : Array Slot} {rest : List Value} {E : XX} {Γ : GG} {A : Nat → Prop} {w : va_W}
theorem r_callVr {x : Nat} {y : MethodName} {bytes : ByteArray} {maxL n index b : Nat} {ret : Option FieldType} {rm : Room} {As st0 : List Value} (hE : XS E) (S : CallFix p m c cc nL s args BG own) (X : Wd E Γ A s H locs w) (hC : Con E l y bytes maxL ret rm Γ w (.ref b :: As) (Qr x w)) (hG : gV own index y bytes maxL ret n)
    (hb : ∃ cell : Cell, H[b]? = some cell ∧ cell.vm.isStatics = false ∧ s.vm.findClass y.cls = some cell.cls) (hn : As.length = n) (hst : st0 = As.reverse ++ .ref b :: rest) (hsum : (rest.map fun v => v.category).sum ≤ 8) (hR : rmOk R rm maxL cells slots) (hsz : ls.size = nL) (hdg : decode cc pc = .ok (.invokevirtual index, 3))
    (kk : ∀ (H1 : Heap) (locs1 : List Loc), Wd E Γ A s H1 locs1 w → W p l e R s m args below meth c H1 locs1 (cells + rm.cells) (slots + rm.slots) Q (F0 m (pc + 3) ls (.ref x :: rest))) : W p l e R s m args below meth c H locs cells slots Q (F0 m pc ls st0) := by
  refine r_callV hE S X hC hG hb hn hst hsum hR hsz hdg (fun v w' H1 locs1 hq X1 => ?_)
  obtain ⟨rfl, rfl⟩ := hq
  exact kk H1 locs1 X1
theorem r_callSr {x : Nat} {y : MethodName} {bytes : ByteArray} {maxL n index : Nat} {ret : Option FieldType} {rm : Room} {As st0 : List Value} (hE : XS E) (S : CallFix p m c cc nL s args BG own) (X : Wd E Γ A s H locs w) (hC : Con E l y bytes maxL ret rm Γ w As (Qr x w)) (hG : gS own index y bytes maxL ret n)
    (hn : As.length = n) (hst : st0 = As.reverse ++ rest) (hsum : (rest.map fun v => v.category).sum ≤ 8) (hR : rmOk R rm maxL cells slots) (hsz : ls.size = nL) (hdg : decode cc pc = .ok (.invokestatic index, 3))
    (kk : ∀ (H1 : Heap) (locs1 : List Loc), Wd E Γ A s H1 locs1 w → W p l e R s m args below meth c H1 locs1 (cells + rm.cells) (slots + rm.slots) Q (F0 m (pc + 3) ls (.ref x :: rest))) : W p l e R s m args below meth c H locs cells slots Q (F0 m pc ls st0) := by
  refine r_callS hE S X hC hG hn hst hsum hR hsz hdg (fun v w' H1 locs1 hq X1 => ?_)
  obtain ⟨rfl, rfl⟩ := hq
  exact kk H1 locs1 X1
theorem r_qld {q0 n i a r : Nat} {z : Int} {F : Nat → Option Nat} (S : CallFix p m c cc nL s args BG own) (X : Wd E Γ A s H locs w) (he : w[q0]? = some (a, .inl (Γ.2 3, n, .inr (.inr (.inr (.inr F)))))) (hz : z = (i : Int)) (hi : i < n) (hn : n < 2147483648) (hv : F i = some r) (hdg : decode cc pc = .ok (.aaload, 1)) (kk : W p l e R s m args below meth c H locs cells slots Q (F0 m (pc + 1) ls (.ref r :: rest))) : W p l e R s m args below meth c H locs cells slots Q (F0 m pc ls (.int (iI z) :: .ref a :: rest)) := by
  refine va_aldq (D := Γ.1) S.1 S.2.1 X.1 X.2.1 q0 3 he rfl (iI_in (by omega) (by omega)) hdg ?_
  rw [iI_cl (by omega), hz, Int.toNat_natCast, hv]
  exact kk
theorem r_cast {index a : Nat} {nm : String} (S : CallFix p m c cc nL s args BG own) (hl : Cond.classLink own index nm ∈ BG) (hr : ∃ cell : Cell, H[a]? = some cell ∧ cell.vm.isStatics = false ∧ s.vm.findClass nm = some cell.cls) (hdg : decode cc pc = .ok (.checkcast index, 3)) (kk : W p l e R s m args below meth c H locs cells slots Q (F0 m (pc + 3) ls (.ref a :: rest))) : W p l e R s m args below meth c H locs cells slots Q (F0 m pc ls (.ref a :: rest)) := va_castE S.1 S.2.1 S.2.2.2.1 (S.2.2.2.2 _ hl) hr hdg kk
theorem arr_st : Cond.static arraycopyName ∈ BG ∧ Cond.native arraycopyName ∈ BG ∧ Cond.initialized "java/lang/System" ∈ BG := by decide +kernel
theorem r_cpy {q0 q1 n a0 a1 index : Nat} {F G : Nat → Int32} (S : CallFix p m c cc nL s args BG own) (X : Wd E Γ A s H locs w) (hl : Cond.methodLink own index arraycopyName ∈ BG) (h0 : w[q0]? = some (a0, .inl (Γ.2 0, n, .inl F))) (h1 : w[q1]? = some (a1, .inl (Γ.2 0, n, .inl G))) (hn : n < 2147483648) (hsz : ls.size = nL) (hf : 1 ≤ R.frames) (hlo : (rest.map fun v => v.category).sum + (nativeFrameWords "java/lang/System" "arraycopy" 5 + 11) ≤ R.locals) (hdg : decode cc pc = .ok (.invokestatic index, 3))
    (kk : ∀ (H1 : Heap) (locs1 : List Loc), Wd E Γ A s H1 locs1 (w.set q1 (a1, .inl (Γ.2 0, n, .inl (va_cpy F G 0 0 n)))) → W p l e R s m args below meth c H1 locs1 cells slots Q (F0 m (pc + 3) ls rest)) : W p l e R s m args below meth c H locs cells slots Q (F0 m pc ls (.int (iI (n : Nat)) :: .int (iI 0) :: .ref a1 :: .int (iI 0) :: .ref a0 :: rest)) := by
  have e0 : (iI 0).toNatClampNeg = 0 := rfl
  have en : (iI (n : Nat)).toNatClampNeg = n := by rw [iI_cl (by omega)]; rfl
  refine va_copyi (D := Γ.1) S.1 S.2.1 (S.2.2.1.trans hsz.symm) S.2.2.2.1 (S.2.2.2.2 _ hl) (S.2.2.2.2 _ arr_st.2.1) (S.2.2.2.2 _ arr_st.1) (S.2.2.2.2 _ arr_st.2.2) X.1 X.2.1 X.2.2.1 X.2.2.2.1 q0 q1 0 0 h0 h1 rfl rfl rfl (by decide) (by decide) (by rw [← iI_0, iI_lt (by omega) (by omega)]; omega) (by rw [e0, en]; omega) (by rw [e0, en]; omega) (fun _ _ => rfl) hf hlo hdg (fun H1 locs1 a1 a2 a3 => ?_)
  rw [e0, en] at a1 a2
  exact kk H1 locs1 ⟨X.1, a1, a2, a3, X.2.2.2.2⟩
end CL
theorem ml_cpy3 : Cond.methodLink RX3 47 arraycopyName ∈ BG := by decide +kernel
/-! the two sweeps: the least of all by neighbours alone -/
def fwS (N : Nat → Nat) (be : Nat) : Nat → Nat
  | 0 => N 0
  | t + 1 => if fwS N be t + be < N (t + 1) then fwS N be t + be else N (t + 1)
def bwC (N : Nat → Nat) (be : Nat) : Nat → Nat
  | 0 => fwS N be 79
  | c + 1 => if bwC N be c + be < fwS N be (78 - c) then bwC N be c + be else fwS N be (78 - c)
theorem fw_le (N : Nat → Nat) (be : Nat) : ∀ t u, u ≤ t → fwS N be t ≤ N u + be * (t - u)
  | 0, u, h => by have e : u = 0 := by omega
                  subst e; simp [fwS]
  | t + 1, u, h => by
    simp only [fwS]
    rcases Nat.lt_or_ge t u with c | c
    · have e : u = t + 1 := by omega
      subst e; rw [Nat.sub_self, Nat.mul_zero]; split <;> omega
    · have ih := fw_le N be t u c
      rw [show t + 1 - u = (t - u) + 1 by omega, Nat.mul_add, Nat.mul_one]
      split <;> omega
theorem fw_at (N : Nat → Nat) (be : Nat) : ∀ t, ∃ u, u ≤ t ∧ fwS N be t = N u + be * (t - u)
  | 0 => ⟨0, Nat.le_refl _, by simp [fwS]⟩
  | t + 1 => by
    obtain ⟨u, h1, h2⟩ := fw_at N be t
    simp only [fwS]
    split
    · exact ⟨u, by omega, by rw [h2, show t + 1 - u = (t - u) + 1 by omega, Nat.mul_add, Nat.mul_one]; omega⟩
    · exact ⟨t + 1, Nat.le_refl _, by rw [Nat.sub_self, Nat.mul_zero]; omega⟩
theorem bw_le (N : Nat → Nat) (be : Nat) : ∀ c, c ≤ 79 → ∀ v, 79 - c ≤ v → v ≤ 79 → bwC N be c ≤ fwS N be v + be * (v - (79 - c))
  | 0, _, v, h1, h2 => by have e : v = 79 := by omega
                          subst e; simp [bwC]
  | c + 1, hc, v, h1, h2 => by
    simp only [bwC]
    rcases Nat.lt_or_ge (79 - (c + 1)) v with d | d
    · have ih := bw_le N be c (by omega) v (by omega) h2
      rw [show v - (79 - (c + 1)) = (v - (79 - c)) + 1 by omega, Nat.mul_add, Nat.mul_one]
      split <;> omega
    · have e : v = 78 - c := by omega
      subst e; rw [show 78 - c - (79 - (c + 1)) = 0 by omega, Nat.mul_zero]; split <;> omega
theorem bw_at (N : Nat → Nat) (be : Nat) : ∀ c, c ≤ 79 → ∃ v, 79 - c ≤ v ∧ v ≤ 79 ∧ bwC N be c = fwS N be v + be * (v - (79 - c))
  | 0, _ => ⟨79, by omega, by omega, by simp [bwC]⟩
  | c + 1, hc => by
    obtain ⟨v, h1, h2, h3⟩ := bw_at N be c (by omega)
    simp only [bwC]
    split
    · exact ⟨v, by omega, h2, by rw [h3, show v - (79 - (c + 1)) = (v - (79 - c)) + 1 by omega, Nat.mul_add, Nat.mul_one]; omega⟩
    · exact ⟨78 - c, by omega, by omega, by rw [show 78 - c - (79 - (c + 1)) = 0 by omega, Nat.mul_zero]; omega⟩
theorem mnN_lo (F : Nat → Nat) : ∀ k u, u < k → mnN F k ≤ F u
  | 0, u, h => absurd h (Nat.not_lt_zero u)
  | k + 1, u, h => by
    simp only [mnN]
    rcases Nat.lt_or_ge u k with c | c
    · have ih := mnN_lo F k u c
      split <;> omega
    · have e : u = k := by omega
      subst e; split <;> omega
theorem mnN_at (F : Nat → Nat) : ∀ k, 0 < k → ∃ u, u < k ∧ mnN F k = F u
  | 0, h => absurd h (Nat.lt_irrefl 0)
  | k + 1, _ => by
    simp only [mnN]
    split
    · exact ⟨k, by omega, rfl⟩
    · rename_i h
      obtain ⟨u, h1, h2⟩ := mnN_at F k (by omega)
      exact ⟨u, by omega, h2⟩
theorem sweeps (N : Nat → Nat) (be t : Nat) (ht : t < 80) : bwC N be (79 - t) = mnN (fun u => N u + be * aDs t u) 80 := by
  have key : ∀ u, u < 80 → bwC N be (79 - t) ≤ N u + be * aDs t u := by
    intro u hu
    unfold aDs
    by_cases c : t < u
    · rw [if_pos c]
      have h1 := bw_le N be (79 - t) (by omega) u (by omega) (by omega)
      have h2 := fw_le N be u u (Nat.le_refl _)
      rw [Nat.sub_self, Nat.mul_zero] at h2
      rw [show 79 - (79 - t) = t by omega] at h1
      omega
    · rw [if_neg c]
      have h1 := bw_le N be (79 - t) (by omega) t (by omega) (by omega)
      rw [show 79 - (79 - t) = t by omega, Nat.sub_self, Nat.mul_zero] at h1
      have h2 := fw_le N be t u (by omega)
      omega
  obtain ⟨u1, a1, a2⟩ := mnN_at (fun u => N u + be * aDs t u) 80 (by omega)
  have up : bwC N be (79 - t) ≤ mnN (fun u => N u + be * aDs t u) 80 := by rw [a2]; exact key u1 a1
  obtain ⟨v, b1, b2, b3⟩ := bw_at N be (79 - t) (by omega)
  obtain ⟨u2, c1, c2⟩ := fw_at N be v
  rw [show 79 - (79 - t) = t by omega] at b1 b3
  have lo := mnN_lo (fun u => N u + be * aDs t u) 80 u2 (by omega)
  have dd : be * aDs t u2 ≤ be * (v - u2) + be * (v - t) := by
    rw [← Nat.mul_add]
    apply Nat.mul_le_mul_left
    unfold aDs; split <;> omega
  have lo : mnN (fun u => N u + be * aDs t u) 80 ≤ N u2 + be * aDs t u2 := lo
  omega
theorem aMv_mono {S : Nat → Nat → Nat} {th i a b : Nat} (h : a ≤ b) : aMv S th i a ≤ aMv S th i b := by unfold aMv; (repeat' split) <;> omega
theorem ms_max {t lo hi : Nat} (h : lo ≤ hi) : max 0 (max (((lo : Nat) : Int) - ((t : Nat) : Int)) (((t : Nat) : Int) - ((hi : Nat) : Int))) = ((aMs t lo hi : Nat) : Int) := by
  unfold aMs; (repeat' split) <;> omega
theorem ca_m {n : Nat} {S : Nat → Nat → Nat} {wt : Nat → Nat} {nw : Nat → Prop} {th s t k R : Nat} (hB : SayB n S) (hc : aCt n S nw k s) : ((R + aCa n S wt nw th s t k : Nat) : Int) + (((wt (S 0 k) : Nat) : Int) * (max 0 (max (((aMv S th k (S 3 k) : Nat) : Int) - ((t : Nat) : Int)) (((t : Nat) : Int) - ((aMv S th k (S 4 k) : Nat) : Int))))) = ((R + aCa n S wt nw th s t (k + 1) : Nat) : Int) := by
  have h1 := hB.2 k
  rw [ms_max (aMv_mono (by omega))]
  show _ = ((R + (aCa n S wt nw th s t k + aTm n S wt nw th s t k) : Nat) : Int)
  rw [aTm_t hc, ← Int.natCast_mul, ← Int.natCast_add, Nat.add_assoc]
