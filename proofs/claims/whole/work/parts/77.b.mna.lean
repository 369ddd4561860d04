theorem cl_mna3 : Cond.classLink RX3 19 "[[I" ∈ BG := by decide +kernel
theorem cl_mna8 : Cond.classLink RX8 25 "[[I" ∈ BG := by decide +kernel
theorem arrV_cg {c : ClassId} {N : Nat} {f g : Nat → Value} (h : ∀ j, j < N → f j = g j) : arrV c N f = arrV c N g := by
  unfold arrV
  have e : (fun j : Fin N => f j.val) = fun j : Fin N => g j.val := funext fun j => h j.val j.isLt
  rw [e]
theorem Wd.like {E : XX} {Γ : GG} {A : Nat → Prop} {s : State} {H : Heap} {locs : List Loc} {w w2 : va_W} (h : ∀ (k : Nat) (x : Nat × va_E), w2[k]? = some x → ∃ y : Nat × va_E, w[k]? = some y ∧ y.1 = x.1 ∧ ∀ H : Heap, va_at Γ.1 vwCl y H → va_at Γ.1 vwCl x H) (X : Wd E Γ A s H locs w) : Wd E Γ A s H locs w2 := by
  obtain ⟨hK, hP, hD, hS, hA, hE⟩ := X
  refine ⟨hK, fun k q hq => ?_, ⟨fun i j p q hi hj e => ?_, fun k q hq => ?_⟩, hS, hA, hE⟩
  · obtain ⟨y, h1, h2, h3⟩ := h k q hq
    exact h3 H (hP k y h1)
  · obtain ⟨y, h1, h2, h3⟩ := h i p hi
    obtain ⟨z, k1, k2, k3⟩ := h j q hj
    exact hD.1 i j y z h1 k1 (by rw [h2, k2]; exact e)
  · obtain ⟨y, h1, h2, h3⟩ := h k q hq
    rw [← h2]
    exact hD.2 k y h1
/-- rows of references: only what lies within counts -/
theorem at_row {Γ : GG} {q N : Nat} {c : ClassId} {F G : Nat → Option Nat} (h : ∀ j, j < N → F j = G j) (H : Heap) (x : va_at Γ.1 vwCl (q, .inl (c, N, .inr (.inr (.inr (.inr F))))) H) : va_at Γ.1 vwCl (q, .inl (c, N, .inr (.inr (.inr (.inr G))))) H := by
  have x : H[q]? = some (arrV c N (fun j => va_rf (F j))) := x
  show H[q]? = some (arrV c N (fun j => va_rf (G j)))
  rw [x, arrV_cg (fun j hj => congrArg va_rf (h j hj))]
theorem RA_arr {s : State} : ∀ c1 c2 : ClassId, va_RA s c1 (.array .int) → va_RA s c2 (.array .int) → c1 = c2 := fun _ _ h1 h2 => Option.some.inj (h1.symm.trans h2)
section MN
variable {p : Program} {l : Launch} {e : Env} {R : Room} {s : State} {m : MethodId} {args : Array Value} {below : List Frame} {meth : Method} {c : Code} {H : Heap} {locs : List Loc} {cells slots : Nat} {Q : State → Prop}
variable {cc : ByteArray} {nL pc : Nat} {own : String} {ls : Array Slot} {rest : List Value} {E : XX} {Γ : GG} {A : Nat → Prop} {w : va_W} {κ : KK}
theorem r_mna {index N K : Nat} {zn zk : Int} (hN : EN E κ) (S : CallFix p m c cc nL s args BG own) (X : Wd E Γ A s H locs w) (hl : Cond.classLink own index "[[I" ∈ BG) (hzn : zn = (N : Int)) (hzk : zk = (K : Int)) (hbn : N * 4 ≤ 536870912) (hbk : K * 4 ≤ 536870912) (hcells : cells + (1 + N) ≤ R.cells) (hslots : slots + (N + N * K) ≤ R.slots) (hdg : decode cc pc = .ok (.multianewarray index 2, 4))
    (kk : ∀ (q : Nat) (r : Nat → Nat) (H1 : Heap), Wd E Γ A s H1 locs (w ++ ((q, .inl (Γ.2 4, N, .inr (.inr (.inr (.inr (fun i => some (r i))))))) :: (List.range N).map (fun i => (r i, .inl (Γ.2 0, K, .inl (fun _ => 0)))))) → W p l e R s m args below meth c H1 locs (cells + 1 + N) (slots + N + N * K) Q (F0 m (pc + 4) ls (.ref q :: rest))) : W p l e R s m args below meth c H locs cells slots Q (F0 m pc ls (.int (iI zk) :: .int (iI zn) :: rest)) := by
  have hO := (X.ef hN).2.1.2.1
  obtain ⟨hK, hP, hD, hS, hA, hE⟩ := X
  subst hzn
  subst hzk
  have e0 : "[" ++ (FieldType.array .int).toString = "[[I" := by decide +kernel
  have hcl : (Cond.classLink own index ("[" ++ (FieldType.array .int).toString)).before args s = true := by rw [e0]; exact S.2.2.2.2 _ hl
  have e1 : w ++ va_pl [] (fun _ => (.inr (0, []) : va_E)) = w := List.append_nil w
  refine va_mna (D := Γ.1) (cl := vwCl) (tys := gT Γ) (X := w) (L := []) (f := fun _ => .inr (0, [])) (ty := .int) (cy := Γ.2 0) (z := (K, .inl (fun _ => 0))) S.1 S.2.1 S.2.2.2.1 hcl hO (S.2.2.2.2 _ ac_int) (hK.2 0 _ rfl).2 hK (by rw [e1]; exact hP) (by rw [e1]; exact hD) hS hA (N' := N) (K' := K) (by rw [← iI_0, iI_lt (by omega) (by omega)]; omega) (by rw [← iI_0, iI_lt (by omega) (by omega)]; omega) (by rw [iI_cl (by omega)]; rfl) (by rw [iI_cl (by omega)]; rfl) hbn hbk (by omega) rfl rfl hcells hslots (fun c9 => arrV_new c9 K (.int 0)) hdg (fun q r cA H1 h1 h2 k1 k2 k3 k4 => ?_)
  have e2 : cA = Γ.2 4 := RA_arr _ _ (k1.2 (gT Γ).length (cA, .array .int) (by rw [List.getElem?_append_right (Nat.le_refl _), Nat.sub_self]; rfl)).2 (hK.2 4 _ rfl).2
  have e3 : ∀ v : va_E, va_pl ([] ++ (List.range N).map r) (vr_up (fun _ => (.inr (0, []) : va_E)) ((List.range N).map r) v) = (List.range N).map (fun i => (r i, v)) := by
    intro v
    unfold va_pl
    rw [List.nil_append, List.map_map]
    apply List.map_congr_left
    intro i hi
    show (r i, vr_up _ _ _ (r i)) = _
    rw [vr_up_in (List.mem_map.mpr ⟨i, hi, rfl⟩)]
  rw [e2, e3, List.append_assoc] at k2 k3
  have Y : Wd E Γ A s H1 locs (w ++ ((q, .inl (Γ.2 4, N, .inr (.inr (.inr (.inr (fun i => if i < N then some (r i) else none)))))) :: (List.range N).map (fun i => (r i, .inl (Γ.2 0, K, .inl (fun _ => 0)))))) := ⟨hK, k2, k3, k4, hA, hE⟩
  refine kk q r H1 (Wd.like (fun k x hx => ?_) Y)
  by_cases hk : k < w.length
  · rw [List.getElem?_append_left hk] at hx
    exact ⟨x, by rw [List.getElem?_append_left hk]; exact hx, rfl, fun _ h => h⟩
  · rw [List.getElem?_append_right (by omega)] at hx
    rcases Nat.eq_zero_or_pos (k - w.length) with e | e
    · rw [e] at hx
      cases hx
      exact ⟨(q, .inl (Γ.2 4, N, .inr (.inr (.inr (.inr (fun i => if i < N then some (r i) else none)))))), by rw [List.getElem?_append_right (by omega), e]; rfl, rfl, fun H9 h => at_row (fun j hj => if_pos hj) H9 h⟩
    · obtain ⟨j, hj⟩ : ∃ j, k - w.length = j + 1 := ⟨k - w.length - 1, by omega⟩
      rw [hj] at hx
      exact ⟨x, by rw [List.getElem?_append_right (by omega), hj]; exact hx, rfl, fun _ h => h⟩
end MN

