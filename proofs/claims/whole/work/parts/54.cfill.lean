theorem set_at {w : va_W} {q0 : Nat} {c d : Nat × va_E} (he : w[q0]? = some c) : (w.set q0 d)[q0]? = some d := List.getElem?_set_self (List.getElem?_eq_some_iff.mp he).1
theorem set_id {w : va_W} {q0 : Nat} {c : Nat × va_E} (he : w[q0]? = some c) : w = w.set q0 c := by
  apply List.ext_getElem?
  intro i
  by_cases e : q0 = i
  · subst e; rw [he, set_at he]
  · rw [List.getElem?_set_ne e]
theorem fill_s {F1 : Nat → Int32} {j : Nat} {x : Int32} (h : ∀ i, i < j → F1 i = x) : ∀ i, i < j + 1 → upd F1 j x i = x := by
  intro i hi
  by_cases e : i = j
  · rw [e, upd_s]
  · rw [upd_n e]; exact h i (by omega)

abbrev rm_J7_fill_53178 : Room := ({ frames := 0, cells := 0, slots := 0, locals := 0 } : Room)
set_option maxHeartbeats 4000000 in
set_option maxRecDepth 100000 in
theorem c_J7_fill_53178 {E : XX} (hE : XS E) (l : Launch) {Γ : GG} {w : va_W} {q0 a n : Nat} {F : Nat → Int32} {x : Int32} (he : w[q0]? = some (a, .inl (Γ.2 0, n, .inl F))) (hn : n < 2147483648) : Con E l yJ7_fill_53178 cJ7_fill_53178 4 none rm_J7_fill_53178 Γ w [.ref (a), .int (x)] (fun v w2 => v = none ∧ ∃ F1, w2 = w.set q0 (a, .inl (Γ.2 0, n, .inl F1)) ∧ ∀ i, i < n → F1 i = x) := by
  refine Con_mk (by decide) (Nat.le_of_ble_eq_true rfl) ?_
  intro p e s₀ m args below meth c A Fx hr hlk hnm X ls hl
  have hl : lv_has ls 4 [(0, .ref (a)), (1, .int (x))] := hl
  refine k_iconst Fx dJ7_fill_53178_0 ?_
  refine lv_istore_n (lv' := [(2, .int (iI (0))), (0, .ref (a)), (1, .int (x))]) Fx.1 Fx.2.1 dJ7_fill_53178_1 rfl hl (by decide) rfl (fun ls hl => ?_)
  refine lv_aload_n Fx.1 Fx.2.1 dJ7_fill_53178_2 rfl (lv_at hl 1 rfl) ?_
  refine r_len (t0 := 0) (q0 := q0) Fx X he rfl dJ7_fill_53178_3 ?_
  refine lv_istore_n (lv' := [(3, .int (iI (((n : Nat) : Int)))), (2, .int (iI (0))), (0, .ref (a)), (1, .int (x))]) Fx.1 Fx.2.1 dJ7_fill_53178_4 rfl hl (by decide) rfl (fun ls hl => ?_)
  have lp_5 : ∀ (nn : Nat) (j : Nat) (F1 : Nat → Int32), n - j < nn → (j ≤ n) → (∀ i, i < j → F1 i = x) → ∀ (H : Heap) (locs : List Loc) (ls : Array Slot), Wd E Γ A s₀ H locs (w.set q0 (a, .inl (Γ.2 0, n, .inl (F1)))) → lv_has ls 4 [(0, .ref (a)), (1, .int (x)), (2, .int (iI (((j : Nat) : Int)))), (3, .int (iI (((n : Nat) : Int))))] → W p l e rm_J7_fill_53178 s₀ m args below meth c H locs (0) (0) (RQ below args s₀ Γ A (fun v w2 => v = none ∧ ∃ F1, w2 = w.set q0 (a, .inl (Γ.2 0, n, .inl F1)) ∧ ∀ i, i < n → F1 i = x) rm_J7_fill_53178) (F0 m 5 ls []) := by
    intro nn
    induction nn with
    | zero => intro j F1 hmu; exact absurd hmu (Nat.not_lt_zero _)
    | succ nn ih =>
      intro j F1 hmu hj hF H locs ls X hl
      have ih_5 := ih
      refine lv_iload_n Fx.1 Fx.2.1 dJ7_fill_53178_5 rfl (lv_at hl 2 rfl) ?_
      refine lv_iload_n Fx.1 Fx.2.1 dJ7_fill_53178_6 rfl (lv_at hl 3 rfl) ?_
      refine k_icmp_ge (a := ((j : Nat) : Int)) (b := ((n : Nat) : Int)) (tgt := 20) Fx dJ7_fill_53178_7 (by decide) (by omega) (by omega) (fun c_7 => ?_) (fun c_7 => ?_)
      · exact r_vret Fx hr hlk X (by decide) dJ7_fill_53178_20 (⟨rfl, _, rfl, fun i hi => hF i (by omega)⟩)
      · refine lv_aload_n Fx.1 Fx.2.1 dJ7_fill_53178_10 rfl (lv_at hl 0 rfl) ?_
        refine lv_iload_n Fx.1 Fx.2.1 dJ7_fill_53178_11 rfl (lv_at hl 2 rfl) ?_
        refine lv_iload_n Fx.1 Fx.2.1 dJ7_fill_53178_12 rfl (lv_at hl 1 rfl) ?_
        refine r_ist (q0 := q0) (z := ((j : Nat) : Int)) (i := j) Fx X (set_at he) rfl (by omega) (by omega) dJ7_fill_53178_13 (fun H locs X => ?_)
        rw [List.set_set] at X
        refine k_iinc (k := 2) (a := ((j : Nat) : Int)) (lv' := [(2, .int (iI ((((j : Nat) : Int) + 1)))), (0, .ref (a)), (1, .int (x)), (3, .int (iI (((n : Nat) : Int))))]) Fx dJ7_fill_53178_14 hl rfl (by decide) rfl (fun ls hl => ?_)
        refine lv_goto (tgt := 5) Fx.1 Fx.2.1 dJ7_fill_53178_17 (by decide) ?_
        have hl_1 := lv_rp hl 0 rfl (show (iI ((((j : Nat) : Int) + 1))) = (iI ((((j + 1) : Nat) : Int))) from congrArg iI (by omega))
        exact ih_5 (j + 1) (upd (F1) j (x)) (by omega) (by omega) (fill_s hF) _ _ _ X (lv_sub hl_1 [1, 2, 0, 3] rfl)
  have hl_2 := lv_rp hl 1 rfl (show (iI (0)) = (iI (((0 : Nat) : Int))) from congrArg iI (by omega))
  have X := Wd.to X (set_id he)
  exact lp_5 _ (0) (F) (Nat.lt_succ_self _) (by omega) (fun i h => absurd h (Nat.not_lt_zero i)) _ _ _ X (lv_sub hl_2 [2, 3, 1, 0] rfl)

