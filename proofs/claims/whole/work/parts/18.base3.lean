/-! new cells; arrays of a world by their places -/
theorem ac_int : Cond.arrayClass .int ∈ BG := by decide +kernel
theorem ac_byte : Cond.arrayClass .byte ∈ BG := by decide +kernel
theorem ac_bool : Cond.arrayClass .boolean ∈ BG := by decide +kernel
theorem oi_in : Cond.instanceMethod objectInit ∈ BG := by decide +kernel
theorem oi_code : Cond.code objectInit ⟨#[0xb1]⟩ 1 none ∈ BG := by decide +kernel
section BASE5
variable {p : Program} {l : Launch} {e : Env} {R : Room} {s : State} {m : MethodId} {args : Array Value} {below : List Frame} {meth : Method} {c : Code} {H : Heap} {locs : List Loc} {cells slots : Nat} {Q : State → Prop}
variable {cc : ByteArray} {nL pc : Nat} {own : String} {ls : Array Slot} {rest : List Value} {E : XX} {Γ : GG} {A : Nat → Prop} {w : va_W}
theorem r_newa {atype : ArrayType} {ty : FieldType} {cy : ClassId} {t0 N : Nat} {z : Int} (S : CallFix p m c cc nL s args BG own) (X : Wd E Γ A s H locs w) (hac : Cond.arrayClass ty ∈ BG) (hty : newarray.typeOf atype = ty) (ht : (gT Γ)[t0]? = some (cy, ty)) (hp : ∀ c1 c2 : ClassId, va_RA s c1 ty → va_RA s c2 ty → c1 = c2) (ha : ∀ cA : ClassId, vp_cell cA (N, .inl (fun _ => 0)) = arrV cA N (fun _ => defaultValue ty)) (hz : z = (N : Int)) (hN : N * componentBytes ty ≤ 536870912) (hN2 : N < 2147483648) (hcells : cells + 1 ≤ R.cells) (hslots : slots + N ≤ R.slots) (hdg : decode cc pc = .ok (.newarray atype, 2))
    (kk : ∀ (q : Nat) (H1 : Heap), Wd E Γ A s H1 locs (w ++ [(q, .inl (cy, N, .inl (fun _ => 0)))]) → W p l e R s m args below meth c H1 locs (cells + 1) (slots + N) Q (F0 m (pc + 2) ls (.ref q :: rest))) : W p l e R s m args below meth c H locs cells slots Q (F0 m pc ls (.int (iI z) :: rest)) := by
  obtain ⟨hK, hP, hD, hS, hA, hE⟩ := X
  subst hz
  refine va_newa (D := Γ.1) (cl := vwCl) (tys := gT Γ) S.1 S.2.1 (ty := ty) (by rw [hty]; exact S.2.2.2.2 _ hac) hty hK hP hD hS hA (N' := N) ha (by rw [← iI_0, iI_lt (by omega) (by omega)]; omega) (by rw [iI_cl (by omega)]; rfl) hN hcells hslots hdg (fun q cA H1 k1 k2 k3 k4 => ?_)
  have e1 : cA = cy := hp _ _ (k1.2 (gT Γ).length (cA, ty) (by rw [List.getElem?_append_right (Nat.le_refl _), Nat.sub_self]; rfl)).2 (hK.2 t0 _ ht).2
  rw [e1] at k2 k3
  exact kk q H1 ⟨hK, k2, k3, k4, hA, hE⟩
theorem RA_int {s : State} : ∀ c1 c2 : ClassId, va_RA s c1 .int → va_RA s c2 .int → c1 = c2 := fun _ _ h1 h2 => Option.some.inj (h1.symm.trans h2)
theorem RA_byte {s : State} : ∀ c1 c2 : ClassId, va_RA s c1 .byte → va_RA s c2 .byte → c1 = c2 := fun _ _ h1 h2 => Option.some.inj (h1.symm.trans h2)
theorem RA_bool {s : State} : ∀ c1 c2 : ClassId, va_RA s c1 .boolean → va_RA s c2 .boolean → c1 = c2 := fun _ _ h1 h2 => Option.some.inj (h1.symm.trans h2)
theorem r_objInit {idx a : Nat} (S : CallFix p m c cc nL s args BG own) (hl : Cond.methodLink own idx objectInit ∈ BG) (hsz : ls.size = nL) (hd : decode cc pc = .ok (.invokespecial idx, 3)) (hf : 1 ≤ R.frames) (hlo : (rest.map fun v => v.category).sum + 12 ≤ R.locals)
    (kk : W p l e R s m args below meth c H locs cells slots Q (F0 m (pc + 3) ls rest)) : W p l e R s m args below meth c H locs cells slots Q (F0 m pc ls (.ref a :: rest)) :=
  W.objInit S.1 S.2.1 S.2.2.2.1 (S.2.2.2.2 _ hl) (S.2.2.2.2 _ oi_in) (S.2.2.2.2 _ oi_code) rfl (hsz.trans S.2.2.1.symm) rfl hd hf (by show 2 * 0 + _ + 12 ≤ _; omega) kk
/-- loads and stores of a world's int rows, by their places -/
theorem r_ild {q0 n i a : Nat} {z : Int} {x : Int32} {F : Nat → Int32} (S : CallFix p m c cc nL s args BG own) (X : Wd E Γ A s H locs w) (he : w[q0]? = some (a, .inl (Γ.2 0, n, .inl F))) (hz : z = (i : Int)) (hi : i < n) (hn : n < 2147483648) (hv : F i = x) (hdg : decode cc pc = .ok (.iaload, 1)) (kk : W p l e R s m args below meth c H locs cells slots Q (F0 m (pc + 1) ls (.int x :: rest))) : W p l e R s m args below meth c H locs cells slots Q (F0 m pc ls (.int (iI z) :: .ref a :: rest)) := by
  refine va_iald (D := Γ.1) S.1 S.2.1 X.1 X.2.1 q0 0 he rfl (iI_in (by omega) (by omega)) hdg ?_
  rw [iI_cl (by omega), hz, Int.toNat_natCast, hv]
  exact kk
theorem r_zld {q0 n i a : Nat} {z : Int} {x : Int32} {F : Nat → Int32} (S : CallFix p m c cc nL s args BG own) (X : Wd E Γ A s H locs w) (he : w[q0]? = some (a, .inl (Γ.2 2, n, .inl F))) (hz : z = (i : Int)) (hi : i < n) (hn : n < 2147483648) (hv : F i = x) (hdg : decode cc pc = .ok (.baload, 1)) (kk : W p l e R s m args below meth c H locs cells slots Q (F0 m (pc + 1) ls (.int x :: rest))) : W p l e R s m args below meth c H locs cells slots Q (F0 m pc ls (.int (iI z) :: .ref a :: rest)) := by
  refine va_zald (D := Γ.1) S.1 S.2.1 X.1 X.2.1 q0 2 he rfl (iI_in (by omega) (by omega)) hdg ?_
  rw [iI_cl (by omega), hz, Int.toNat_natCast, hv]
  exact kk
theorem r_bld {q0 n i a : Nat} {z : Int} {x : Int32} {F : Nat → Int32} (S : CallFix p m c cc nL s args BG own) (X : Wd E Γ A s H locs w) (he : w[q0]? = some (a, .inl (Γ.2 1, n, .inl F))) (hz : z = (i : Int)) (hi : i < n) (hn : n < 2147483648) (hv : F i = x) (hdg : decode cc pc = .ok (.baload, 1)) (kk : W p l e R s m args below meth c H locs cells slots Q (F0 m (pc + 1) ls (.int x :: rest))) : W p l e R s m args below meth c H locs cells slots Q (F0 m pc ls (.int (iI z) :: .ref a :: rest)) := by
  refine va_bald (D := Γ.1) S.1 S.2.1 X.1 X.2.1 q0 1 he rfl (iI_in (by omega) (by omega)) hdg ?_
  rw [iI_cl (by omega), hz, Int.toNat_natCast, hv]
  exact kk
theorem r_ist {q0 n i a : Nat} {z : Int} {x : Int32} {F : Nat → Int32} (S : CallFix p m c cc nL s args BG own) (X : Wd E Γ A s H locs w) (he : w[q0]? = some (a, .inl (Γ.2 0, n, .inl F))) (hz : z = (i : Int)) (hi : i < n) (hn : n < 2147483648) (hdg : decode cc pc = .ok (.iastore, 1)) (kk : ∀ (H1 : Heap) (locs1 : List Loc), Wd E Γ A s H1 locs1 (w.set q0 (a, .inl (Γ.2 0, n, .inl (upd F i x)))) → W p l e R s m args below meth c H1 locs1 cells slots Q (F0 m (pc + 1) ls rest)) : W p l e R s m args below meth c H locs cells slots Q (F0 m pc ls (.int x :: .int (iI z) :: .ref a :: rest)) := by
  refine va_iast (D := Γ.1) S.1 S.2.1 X.1 X.2.1 X.2.2.1 X.2.2.2.1 q0 0 he rfl (iI_in (by omega) (by omega)) hdg (fun H1 locs1 a1 a2 a3 => ?_)
  rw [iI_cl (by omega), hz, Int.toNat_natCast] at a1 a2
  exact kk H1 locs1 ⟨X.1, a1, a2, a3, X.2.2.2.2⟩
theorem r_zst {q0 n i a : Nat} {z : Int} {x : Int32} {F : Nat → Int32} (S : CallFix p m c cc nL s args BG own) (X : Wd E Γ A s H locs w) (he : w[q0]? = some (a, .inl (Γ.2 2, n, .inl F))) (hz : z = (i : Int)) (hi : i < n) (hn : n < 2147483648) (hdg : decode cc pc = .ok (.bastore, 1)) (kk : ∀ (H1 : Heap) (locs1 : List Loc), Wd E Γ A s H1 locs1 (w.set q0 (a, .inl (Γ.2 2, n, .inl (upd F i (vp_nar .boolean x))))) → W p l e R s m args below meth c H1 locs1 cells slots Q (F0 m (pc + 1) ls rest)) : W p l e R s m args below meth c H locs cells slots Q (F0 m pc ls (.int x :: .int (iI z) :: .ref a :: rest)) := by
  refine va_zast (D := Γ.1) S.1 S.2.1 X.1 X.2.1 X.2.2.1 X.2.2.2.1 q0 2 he rfl (iI_in (by omega) (by omega)) hdg (fun H1 locs1 a1 a2 a3 => ?_)
  rw [iI_cl (by omega), hz, Int.toNat_natCast] at a1 a2
  exact kk H1 locs1 ⟨X.1, a1, a2, a3, X.2.2.2.2⟩
theorem r_bst {q0 n i a : Nat} {z : Int} {x : Int32} {F : Nat → Int32} (S : CallFix p m c cc nL s args BG own) (X : Wd E Γ A s H locs w) (he : w[q0]? = some (a, .inl (Γ.2 1, n, .inl F))) (hz : z = (i : Int)) (hi : i < n) (hn : n < 2147483648) (hdg : decode cc pc = .ok (.bastore, 1)) (kk : ∀ (H1 : Heap) (locs1 : List Loc), Wd E Γ A s H1 locs1 (w.set q0 (a, .inl (Γ.2 1, n, .inl (upd F i (vp_nar .byte x))))) → W p l e R s m args below meth c H1 locs1 cells slots Q (F0 m (pc + 1) ls rest)) : W p l e R s m args below meth c H locs cells slots Q (F0 m pc ls (.int x :: .int (iI z) :: .ref a :: rest)) := by
  refine va_bast (D := Γ.1) S.1 S.2.1 X.1 X.2.1 X.2.2.1 X.2.2.2.1 q0 1 he rfl (iI_in (by omega) (by omega)) hdg (fun H1 locs1 a1 a2 a3 => ?_)
  rw [iI_cl (by omega), hz, Int.toNat_natCast] at a1 a2
  exact kk H1 locs1 ⟨X.1, a1, a2, a3, X.2.2.2.2⟩
theorem r_len {q0 n a t0 : Nat} {cA : ClassId} {ty : FieldType} {x : (Nat → Int32) ⊕ (Nat → Int64) ⊕ (Nat → UInt32) ⊕ (Nat → UInt64) ⊕ (Nat → Option Nat)} (S : CallFix p m c cc nL s args BG own) (X : Wd E Γ A s H locs w) (he : w[q0]? = some (a, .inl (cA, n, x))) (ht : (gT Γ)[t0]? = some (cA, ty)) (hdg : decode cc pc = .ok (.arraylength, 1)) (kk : W p l e R s m args below meth c H locs cells slots Q (F0 m (pc + 1) ls (.int (iI (n : Nat)) :: rest))) : W p l e R s m args below meth c H locs cells slots Q (F0 m pc ls (.ref a :: rest)) :=
  va_alen (D := Γ.1) S.1 S.2.1 X.1 X.2.1 q0 t0 he ht (iI_nI n) hdg kk
end BASE5
