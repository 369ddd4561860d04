theorem cl_mna3 : Cond.classLink RX3 19 "[[I" ∈ BG := by decide +kernel
theorem cl_mna8 : Cond.classLink RX8 25 "[[I" ∈ BG := by decide +kernel
theorem arrV_cg {c : ClassId} {N : Nat} {f g : Nat → Value} (h : ∀ j, j < N → f j = g j) : arrV c N f = arrV c N g := by
  unfold arrV
  have e : (fun j : Fin N => f j.val) = fun j : Fin N => g j.val := funext fun j => h j.val j.isLt
  rw [e]
theorem D_ext {A : Nat → Prop} {w l : va_W} {n : Nat} (hD : va_D A w) (hw : ∀ (k : Nat) (x : Nat × va_E), w[k]? = some x → x.1 < n) (hl : ∀ (k : Nat) (x : Nat × va_E), l[k]? = some x → x.1 = n + k) (hA : ∀ q, n ≤ q → A q) : va_D A (w ++ l) := by
  refine ⟨fun i j x y hi hj e => ?_, fun k x hx => ?_⟩
  · by_cases h1 : i < w.length <;> by_cases h2 : j < w.length
    · rw [List.getElem?_append_left h1] at hi
      rw [List.getElem?_append_left h2] at hj
      exact hD.1 i j x y hi hj e
    · rw [List.getElem?_append_left h1] at hi
      rw [List.getElem?_append_right (by omega)] at hj
      have := hw _ _ hi
      have := hl _ _ hj
      omega
    · rw [List.getElem?_append_right (by omega)] at hi
      rw [List.getElem?_append_left h2] at hj
      have := hw _ _ hj
      have := hl _ _ hi
      omega
    · rw [List.getElem?_append_right (by omega)] at hi
      rw [List.getElem?_append_right (by omega)] at hj
      have := hl _ _ hi
      have := hl _ _ hj
      omega
  · by_cases h1 : k < w.length
    · rw [List.getElem?_append_left h1] at hx
      exact hD.2 k x hx
    · rw [List.getElem?_append_right (by omega)] at hx
      have := hl _ _ hx
      exact hA _ (by omega)
/-- rows of references: only what lies within counts -/
theorem at_row {Γ : GG} {q N : Nat} {c : ClassId} {F G : Nat → Option Nat} (h : ∀ j, j < N → F j = G j) (H : Heap) (x : va_at Γ.1 vwCl (q, .inl (c, N, .inr (.inr (.inr (.inr F))))) H) : va_at Γ.1 vwCl (q, .inl (c, N, .inr (.inr (.inr (.inr G))))) H := by
  have x : H[q]? = some (arrV c N (fun j => va_rf (F j))) := x
  show H[q]? = some (arrV c N (fun j => va_rf (G j)))
  rw [x, arrV_cg (fun j hj => congrArg va_rf (h j hj))]
theorem RA_in1 {s : State} : ∀ c1 c2 : ClassId, s.vm.findClass (FieldType.array .int).toString = some c1 → va_RA s c2 .int → c1 = c2 := fun _ c2 h1 h2 => by
  have h3 : s.vm.findClass (FieldType.array .int).toString = some c2 := h2
  exact Option.some.inj (h1.symm.trans h3)
theorem RA_arr {s : State} : ∀ c1 c2 : ClassId, va_RA s c1 (.array .int) → va_RA s c2 (.array .int) → c1 = c2 := fun _ _ h1 h2 => Option.some.inj (h1.symm.trans h2)
section MN
variable {p : Program} {l : Launch} {e : Env} {R : Room} {s : State} {m : MethodId} {args : Array Value} {below : List Frame} {meth : Method} {c : Code} {H : Heap} {locs : List Loc} {cells slots : Nat} {Q : State → Prop}
variable {cc : ByteArray} {nL pc : Nat} {own : String} {ls : Array Slot} {rest : List Value} {E : XX} {Γ : GG} {A : Nat → Prop} {w : va_W} {κ : KK}
theorem r_mna {index N K : Nat} {zn zk : Int} (hN : EN E κ) (S : CallFix p m c cc nL s args BG own) (X : Wd E Γ A s H locs w) (hl : Cond.classLink own index "[[I" ∈ BG) (hzn : zn = (N : Int)) (hzk : zk = (K : Int)) (hbn : N * 4 ≤ 536870912) (hbk : K * 4 ≤ 536870912) (hcells : cells + (1 + N) ≤ R.cells) (hslots : slots + (N + N * K) ≤ R.slots) (hdg : decode cc pc = .ok (.multianewarray index 2, 4))
    (kk : ∀ (q : Nat) (r : Nat → Nat) (H1 : Heap), Wd E Γ A s H1 locs (w ++ ((q, .inl (Γ.2 4, N, .inr (.inr (.inr (.inr (fun i => some (r i))))))) :: (List.range N).map (fun i => (r i, .inl (Γ.2 0, K, .inl (fun _ => 0)))))) → W p l e R s m args below meth c H1 locs (cells + 1 + N) (slots + N + N * K) Q (F0 m (pc + 4) ls (.ref q :: rest))) : W p l e R s m args below meth c H locs cells slots Q (F0 m pc ls (.int (iI zk) :: .int (iI zn) :: rest)) := by
  have hO := (X.ef hN).2.1.2.1
  obtain ⟨hK, hP, hD, hS, hA, hE⟩ := X
  subst hzn
  subst hzk
  have e0 : "[" ++ (FieldType.array .int).toString = "[[I" := by decide +kernel
  have hcl : (Cond.classLink own index ("[" ++ (FieldType.array .int).toString)).before args s = true := by rw [e0]; exact S.2.2.2.2 _ hl
  refine mn_W (ty := .int) S.1 S.2.1 S.2.2.2.1 hcl (va_AOA.use hO) (S.2.2.2.2 _ ac_int) (N := N) (K := K) (by rw [← iI_0, iI_lt (by omega) (by omega)]; omega) (by rw [← iI_0, iI_lt (by omega) (by omega)]; omega) (by rw [iI_cl (by omega)]; rfl) (by rw [iI_cl (by omega)]; rfl) hbn hbk (by omega) rfl rfl hcells hslots hS.1 hdg (fun cA cI H1 fA fI z1 o1 q1 r1 => ?_)
  have eA : cA = Γ.2 4 := RA_arr _ _ fA (hK.2 4 _ rfl).2
  have eI : cI = Γ.2 0 := RA_in1 _ _ fI (hK.2 0 _ rfl).2
  subst eA
  subst eI
  refine kk H.size (fun i => H.size + 1 + i) H1 ⟨hK, (hP.kept (fun k x hx => o1 x.1 ((hP k x hx).lt))).app (fun k x hx => ?_), D_ext (n := H.size) hD (fun k x hx => (hP k x hx).lt) (fun k x hx => ?_) (fun q hq => hA q (Nat.le_trans hS.1 hq)), ⟨by rw [z1]; have := hS.1; omega, fun x h1 h2 => (o1 x (Nat.lt_of_lt_of_le h1 hS.1)).trans (hS.2.1 x h1 h2), hS.2.2⟩, hA, hE⟩
  · cases k with
    | zero =>
      rw [List.getElem?_cons_zero] at hx
      cases hx
      show H1[H.size]? = some (arrV (Γ.2 4) N (fun j => va_rf (some (H.size + 1 + j))))
      rw [q1]
      unfold mnO
      rw [arrV_cg (fun j hj => by rw [if_pos hj])]
    | succ k =>
      rw [List.getElem?_cons_succ, List.getElem?_map] at hx
      by_cases h9 : k < N
      · rw [List.getElem?_range h9] at hx
        cases hx
        show H1[H.size + 1 + k]? = some (arrV (Γ.2 0) K (fun _ => .int 0))
        rw [r1 k h9]
        exact congrArg some (arrV_new (Γ.2 0) K (.int 0))
      · rw [List.getElem?_eq_none (by rw [List.length_range]; omega)] at hx
        cases hx
  · cases k with
    | zero =>
      rw [List.getElem?_cons_zero] at hx
      cases hx
      rfl
    | succ k =>
      rw [List.getElem?_cons_succ, List.getElem?_map] at hx
      by_cases h9 : k < N
      · rw [List.getElem?_range h9] at hx
        cases hx
        show H.size + 1 + k = H.size + (k + 1)
        omega
      · rw [List.getElem?_eq_none (by rw [List.length_range]; omega)] at hx
        cases hx
end MN

