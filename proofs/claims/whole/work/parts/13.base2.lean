theorem lv_rp {ls : Array Slot} {nL : Nat} {l : List (Nat × Value)} {i : Nat} {x y : Int32} (h : lv_has ls nL l) (k : Nat) (hk : l[k]? = some (i, .int x)) (e : x = y) : lv_has ls nL (l.set k (i, .int y)) := by
  subst e
  refine ⟨h.1, h.2.1, fun q hq => h.2.2 q ?_⟩
  rcases List.mem_or_eq_of_mem_set hq with h1 | h1
  · exact h1
  · rw [h1]; exact List.mem_of_getElem? hk
theorem lv_rpl {ls : Array Slot} {nL : Nat} {l : List (Nat × Value)} {i : Nat} {x y : Int64} (h : lv_has ls nL l) (k : Nat) (hk : l[k]? = some (i, .long x)) (e : x = y) : lv_has ls nL (l.set k (i, .long y)) := by
  subst e
  refine ⟨h.1, h.2.1, fun q hq => h.2.2 q ?_⟩
  rcases List.mem_or_eq_of_mem_set hq with h1 | h1
  · exact h1
  · rw [h1]; exact List.mem_of_getElem? hk
theorem lv_rpr {ls : Array Slot} {nL : Nat} {l : List (Nat × Value)} {i : Nat} {x y : Nat} (h : lv_has ls nL l) (k : Nat) (hk : l[k]? = some (i, .ref x)) (e : x = y) : lv_has ls nL (l.set k (i, .ref y)) := by
  subst e
  refine ⟨h.1, h.2.1, fun q hq => h.2.2 q ?_⟩
  rcases List.mem_or_eq_of_mem_set hq with h1 | h1
  · exact h1
  · rw [h1]; exact List.mem_of_getElem? hk
section BASE2
variable {p : Program} {l : Launch} {e : Env} {R : Room} {s : State} {m : MethodId} {args : Array Value} {below : List Frame} {meth : Method} {c : Code} {H : Heap} {locs : List Loc} {cells slots : Nat} {Q : State → Prop}
variable {cc : ByteArray} {nL pc : Nat} {own : String} {ls : Array Slot} {rest : List Value}
theorem k_tableIn {a dflt lo hi : Int} {offs : Array Int} {len tgt : Nat} {off : Int} (S : CallFix p m c cc nL s args BG own) (hdg : decode cc pc = .ok (.tableswitch dflt lo hi offs, len)) (ha : -2147483648 ≤ a ∧ a < 2147483648) (h1 : lo ≤ a) (h2 : a ≤ hi) (ho : offs[(a - lo).toNat]? = some off) (ht : (pc : Int) + off = (tgt : Int))
    (k : W p l e R s m args below meth c H locs cells slots Q (F0 m tgt ls rest)) : W p l e R s m args below meth c H locs cells slots Q (F0 m pc ls (.int (iI a) :: rest)) :=
  lv_tableIn S.1 S.2.1 hdg (by rw [iI_toInt ha]; omega) (by rw [iI_toInt ha]; omega) (by rw [iI_toInt ha]; exact ho) ht k
theorem k_tableOut {a dflt lo hi : Int} {offs : Array Int} {len tgt : Nat} (S : CallFix p m c cc nL s args BG own) (hdg : decode cc pc = .ok (.tableswitch dflt lo hi offs, len)) (ha : -2147483648 ≤ a ∧ a < 2147483648) (h1 : a < lo ∨ hi < a) (ht : (pc : Int) + dflt = (tgt : Int))
    (k : W p l e R s m args below meth c H locs cells slots Q (F0 m tgt ls rest)) : W p l e R s m args below meth c H locs cells slots Q (F0 m pc ls (.int (iI a) :: rest)) :=
  lv_tableOut S.1 S.2.1 hdg (by rw [iI_toInt ha]; exact h1) ht k
end BASE2
def allN (b : Nat → Prop) (n : Nat) : Prop := ∀ q, q < n → b q
theorem allN_0 (b : Nat → Prop) : allN b 0 := fun q h => absurd h (Nat.not_lt_zero q)
theorem allN_s {b : Nat → Prop} {n : Nat} : allN b (n + 1) ↔ allN b n ∧ b n := by
  refine ⟨fun h => ⟨fun q hq => h q (by omega), h n (by omega)⟩, fun h q hq => ?_⟩
  rcases Nat.lt_or_ge q n with h1 | h1
  · exact h.1 q h1
  · have e : q = n := by omega
    rw [e]; exact h.2
def anyN (b : Nat → Prop) (n : Nat) : Prop := ∃ q, q < n ∧ b q
theorem anyN_0 (b : Nat → Prop) : ¬ anyN b 0 := fun ⟨q, h, _⟩ => absurd h (Nat.not_lt_zero q)
theorem anyN_s {b : Nat → Prop} {n : Nat} : anyN b (n + 1) ↔ anyN b n ∨ b n := by
  refine ⟨fun ⟨q, h, hb⟩ => ?_, fun h => ?_⟩
  · rcases Nat.lt_or_ge q n with h1 | h1
    · exact Or.inl ⟨q, h1, hb⟩
    · have e : q = n := by omega
      exact Or.inr (e ▸ hb)
  · rcases h with ⟨q, h, hb⟩ | h
    · exact ⟨q, by omega, hb⟩
    · exact ⟨n, by omega, h⟩
/-- the answer of a method that changes nothing -/
def Qi (x : Int32) (w : va_W) : PT := fun v w2 => v = some (.int x) ∧ w2 = w
theorem Qi_mk {x y : Int32} {w : va_W} (h : y = x) : Qi x w (some (.int y)) w := ⟨by rw [h], rfl⟩
section BASE3
variable {p : Program} {l : Launch} {e : Env} {R : Room} {s : State} {m : MethodId} {args : Array Value} {below : List Frame} {meth : Method} {c : Code} {H : Heap} {locs : List Loc} {cells slots : Nat} {Q : State → Prop}
variable {cc : ByteArray} {nL pc : Nat} {own : String} {ls : Array Slot} {rest : List Value} {E : XX} {Γ : GG} {A : Nat → Prop} {w : va_W}
theorem r_callVi {x : Int32} {y : MethodName} {bytes : ByteArray} {maxL n index b : Nat} {ret : Option FieldType} {rm : Room} {As st0 : List Value} (hE : XS E) (S : CallFix p m c cc nL s args BG own) (X : Wd E Γ A s H locs w) (hC : Con E l y bytes maxL ret rm Γ w (.ref b :: As) (Qi x w)) (hG : gV own index y bytes maxL ret n)
    (hb : ∃ cell : Cell, H[b]? = some cell ∧ cell.vm.isStatics = false ∧ s.vm.findClass y.cls = some cell.cls) (hn : As.length = n) (hst : st0 = As.reverse ++ .ref b :: rest) (hsum : (rest.map fun v => v.category).sum ≤ 8) (hR : rmOk R rm maxL cells slots) (hsz : ls.size = nL) (hdg : decode cc pc = .ok (.invokevirtual index, 3))
    (kk : ∀ (H1 : Heap) (locs1 : List Loc), Wd E Γ A s H1 locs1 w → W p l e R s m args below meth c H1 locs1 (cells + rm.cells) (slots + rm.slots) Q (F0 m (pc + 3) ls (.int x :: rest))) : W p l e R s m args below meth c H locs cells slots Q (F0 m pc ls st0) := by
  refine r_callV hE S X hC hG hb hn hst hsum hR hsz hdg (fun v w' H1 locs1 hq X1 => ?_)
  obtain ⟨rfl, rfl⟩ := hq
  exact kk H1 locs1 X1
theorem r_callSi {x : Int32} {y : MethodName} {bytes : ByteArray} {maxL n index : Nat} {ret : Option FieldType} {rm : Room} {As st0 : List Value} (hE : XS E) (S : CallFix p m c cc nL s args BG own) (X : Wd E Γ A s H locs w) (hC : Con E l y bytes maxL ret rm Γ w As (Qi x w)) (hG : gS own index y bytes maxL ret n)
    (hn : As.length = n) (hst : st0 = As.reverse ++ rest) (hsum : (rest.map fun v => v.category).sum ≤ 8) (hR : rmOk R rm maxL cells slots) (hsz : ls.size = nL) (hdg : decode cc pc = .ok (.invokestatic index, 3))
    (kk : ∀ (H1 : Heap) (locs1 : List Loc), Wd E Γ A s H1 locs1 w → W p l e R s m args below meth c H1 locs1 (cells + rm.cells) (slots + rm.slots) Q (F0 m (pc + 3) ls (.int x :: rest))) : W p l e R s m args below meth c H locs cells slots Q (F0 m pc ls st0) := by
  refine r_callS hE S X hC hG hn hst hsum hR hsz hdg (fun v w' H1 locs1 hq X1 => ?_)
  obtain ⟨rfl, rfl⟩ := hq
  exact kk H1 locs1 X1
end BASE3
