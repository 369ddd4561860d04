theorem nwL_X9 : Cond.classLink RL 7 RX9 ∈ BG ∧ Cond.instantiable RX9 11 ∈ BG ∧ Cond.initialized RX9 ∈ BG := by decide +kernel
theorem r_newL_X9 {p : Program} {l : Launch} {e : Env} {R : Room} {s : State} {m : MethodId} {args : Array Value} {below : List Frame} {meth : Method} {c : Code} {H : Heap} {locs : List Loc} {cells slots : Nat} {Q : State → Prop} {cc : ByteArray} {nL pc : Nat} {ls : Array Slot} {rest : List Value} {E : XX} {Γ : GG} {A : Nat → Prop} {w : va_W} (S : CallFix p m c cc nL s args BG RL) (X : Wd E Γ A s H locs w) (hcells : cells + 1 ≤ R.cells) (hslots : slots + 11 ≤ R.slots) (hdg : decode cc pc = .ok (.new 7, 3)) (kk : ∀ (q : Nat) (H1 : Heap), Wd E Γ A s H1 locs (w ++ [(q, .inr (10, [.null, .null, .null, .null, .null, .null, .null, .null, .null, .null, .int 0]))]) → W p l e R s m args below meth c H1 locs (cells + 1) (slots + 11) Q (F0 m (pc + 3) ls (.ref q :: rest))) : W p l e R s m args below meth c H locs cells slots Q (F0 m pc ls rest) :=
  va_new (D := Γ.1) (cl := vwCl) (tys := gT Γ) (ci := 10) (C := RX9) (T := TX9) (N := 11) S.1 S.2.1 S.2.2.2.2 inlX9 tyX9 tyX9_ok S.2.2.2.1 (S.2.2.2.2 _ nwL_X9.1) (S.2.2.2.2 _ nwL_X9.2.1) (S.2.2.2.2 _ nwL_X9.2.2) X.1 X.2.1 X.2.2.1 X.2.2.2.1 X.2.2.2.2.1 rfl (fs := [.null, .null, .null, .null, .null, .null, .null, .null, .null, .null, .int 0]) (fun j hj => by
    rcases (show j = 0 ∨ j = 1 ∨ j = 2 ∨ j = 3 ∨ j = 4 ∨ j = 5 ∨ j = 6 ∨ j = 7 ∨ j = 8 ∨ j = 9 ∨ j = 10 by omega) with e | e | e | e | e | e | e | e | e | e | e <;> subst e <;> rfl) hcells hslots hdg (fun q H1 a1 a2 a3 => kk q H1 ⟨X.1, a1, a2, a3, X.2.2.2.2⟩)
theorem nwL_X10 : Cond.classLink RL 10 RX10 ∈ BG ∧ Cond.instantiable RX10 50 ∈ BG ∧ Cond.initialized RX10 ∈ BG := by decide +kernel
theorem r_newL_X10 {p : Program} {l : Launch} {e : Env} {R : Room} {s : State} {m : MethodId} {args : Array Value} {below : List Frame} {meth : Method} {c : Code} {H : Heap} {locs : List Loc} {cells slots : Nat} {Q : State → Prop} {cc : ByteArray} {nL pc : Nat} {ls : Array Slot} {rest : List Value} {E : XX} {Γ : GG} {A : Nat → Prop} {w : va_W} (S : CallFix p m c cc nL s args BG RL) (X : Wd E Γ A s H locs w) (hcells : cells + 1 ≤ R.cells) (hslots : slots + 50 ≤ R.slots) (hdg : decode cc pc = .ok (.new 10, 3)) (kk : ∀ (q : Nat) (H1 : Heap), Wd E Γ A s H1 locs (w ++ [(q, .inr (11, [.int 0, .int 0, .int 0, .null, .null, .null, .null, .null, .null, .null, .int 0, .int 0, .int 0, .null, .null, .null, .null, .int 0, .int 0, .int 0, .int 0, .int 0, .int 0, .int 0, .int 0, .int 0, .int 0, .null, .null, .null, .null, .null, .null, .null, .null, .null, .null, .null, .null, .int 0, .int 0, .int 0, .int 0, .int 0, .int 0, .int 0, .int 0, .int 0, .int 0, .int 0]))]) → W p l e R s m args below meth c H1 locs (cells + 1) (slots + 50) Q (F0 m (pc + 3) ls (.ref q :: rest))) : W p l e R s m args below meth c H locs cells slots Q (F0 m pc ls rest) :=
  va_new (D := Γ.1) (cl := vwCl) (tys := gT Γ) (ci := 11) (C := RX10) (T := TX10) (N := 50) S.1 S.2.1 S.2.2.2.2 inlX10 tyX10 tyX10_ok S.2.2.2.1 (S.2.2.2.2 _ nwL_X10.1) (S.2.2.2.2 _ nwL_X10.2.1) (S.2.2.2.2 _ nwL_X10.2.2) X.1 X.2.1 X.2.2.1 X.2.2.2.1 X.2.2.2.2.1 rfl (fs := [.int 0, .int 0, .int 0, .null, .null, .null, .null, .null, .null, .null, .int 0, .int 0, .int 0, .null, .null, .null, .null, .int 0, .int 0, .int 0, .int 0, .int 0, .int 0, .int 0, .int 0, .int 0, .int 0, .null, .null, .null, .null, .null, .null, .null, .null, .null, .null, .null, .null, .int 0, .int 0, .int 0, .int 0, .int 0, .int 0, .int 0, .int 0, .int 0, .int 0, .int 0]) (fun j hj => by
    rcases (show j = 0 ∨ j = 1 ∨ j = 2 ∨ j = 3 ∨ j = 4 ∨ j = 5 ∨ j = 6 ∨ j = 7 ∨ j = 8 ∨ j = 9 ∨ j = 10 ∨ j = 11 ∨ j = 12 ∨ j = 13 ∨ j = 14 ∨ j = 15 ∨ j = 16 ∨ j = 17 ∨ j = 18 ∨ j = 19 ∨ j = 20 ∨ j = 21 ∨ j = 22 ∨ j = 23 ∨ j = 24 ∨ j = 25 ∨ j = 26 ∨ j = 27 ∨ j = 28 ∨ j = 29 ∨ j = 30 ∨ j = 31 ∨ j = 32 ∨ j = 33 ∨ j = 34 ∨ j = 35 ∨ j = 36 ∨ j = 37 ∨ j = 38 ∨ j = 39 ∨ j = 40 ∨ j = 41 ∨ j = 42 ∨ j = 43 ∨ j = 44 ∨ j = 45 ∨ j = 46 ∨ j = 47 ∨ j = 48 ∨ j = 49 by omega) with e | e | e | e | e | e | e | e | e | e | e | e | e | e | e | e | e | e | e | e | e | e | e | e | e | e | e | e | e | e | e | e | e | e | e | e | e | e | e | e | e | e | e | e | e | e | e | e | e | e <;> subst e <;> rfl) hcells hslots hdg (fun q H1 a1 a2 a3 => kk q H1 ⟨X.1, a1, a2, a3, X.2.2.2.2⟩)
set_option maxHeartbeats 4000000 in
set_option maxRecDepth 100000 in
theorem law_loop {p : Program} {e : Env} {s : State} {m : MethodId} {below : List Frame} {meth : Method} {c : Code} (l : Launch) {κ : KK} {Γ : GG} {b L xo mo : Nat} {xs : Nat → Int32} (hL0 : L ≤ 4608) (C0 : lw_At p s m meth c b L xs) : ∀ (nn i : Nat), L - i < nn → i ≤ L → ∀ (H : Heap) (locs : List Loc) (ls : Array Slot), LWd κ Γ (fun q : Nat => s.heap.size ≤ q) s xo mo H locs → lv_has ls 4 [(0, .ref b), (1, .ref xo), (2, .ref mo), (3, .int (iI ((i : Nat) : Int)))] → W p l e room_1 s m #[Value.ref b] below meth c H locs (100 + i) (6000 + 3 * i) (lw_Z below #[Value.ref b] s) (F0 m 18 ls []) := by
  intro nn
  induction nn with
  | zero => intro i h; exact absurd h (Nat.not_lt_zero _)
  | succ nn ih =>
    intro i hnn hiL H locs ls X hl
    obtain ⟨hx, hb, hr, hml, hown, hts, hX, hbl, hlocks, hgv⟩ := id C0
    have S0 : CallFix p m c cL_law 4 s #[Value.ref b] BG RL := ⟨hx, hb, hml, hown, fun w h => hts w (BG_in w h)⟩
    have hbA : ¬ (fun q : Nat => s.heap.size ≤ q) b := Nat.not_le.mpr hbl
    have hS : va_S (fun q : Nat => s.heap.size ≤ q) s.heap H locs := by
      obtain ⟨ad, ed, cap, sa, ad9, n, S, wt, nw, th, ho, be, tn, tb, mn, M, pn, P, yc, Y, dr, o, q, fk, fp, f, g, f9, g9, -, -, X⟩ := X
      exact X.2.2.2.1
    refine lv_iload_n S0.1 S0.2.1 dL_law_18 rfl (lv_at hl 3 rfl) ?_
    refine lv_aload_n S0.1 S0.2.1 dL_law_19 rfl (lv_at hl 0 rfl) ?_
    refine va_slen S0.1 S0.2.1 hX hbl hbA hS dL_law_20 ?_
    refine k_cg (show Int32.ofNat L = iI ((L : Nat) : Int) from iI_nI L) ?_
    refine k_bipush S0 dL_law_21 (by decide) ?_
    refine k_isub S0 dL_law_23 ?_
    refine k_icmp_gt (a := ((i : Nat) : Int)) (b := (((L : Nat) : Int) - 9)) (tgt := 746) S0 dL_law_24 (by decide) (by omega) (by omega) (fun c_24 => ?_) (fun c_24 => ?_)
    · refine k_iconst S0 dL_law_746 ?_
      refine va_forget (fun q hq => hS.2.2 q hq) ?_
      refine W.widen (k := 600000) (n := 7302250) (by omega) (by omega) ?_
      exact lw_ret hx hb hr hlocks dL_law_747
    · have hi : i + 9 ≤ L := by omega
      have hcs : 100 + i + 2 ≤ 600000 ∧ 6000 + 3 * i + 22 ≤ 7302250 := by omega
      have go : ∀ (H1 : Heap) (locs1 : List Loc), LWd κ Γ (fun q : Nat => s.heap.size ≤ q) s xo mo H1 locs1 → W p l e room_1 s m #[Value.ref b] below meth c H1 locs1 (100 + i + 2) (6000 + 3 * i + 22) (lw_Z below #[Value.ref b] s) (F0 m 740 ls []) := by
        intro H1 locs1 X1
        refine k_iinc (k := 3) (a := ((i : Nat) : Int)) (lv' := [(3, .int (iI (((i : Nat) : Int) + 9))), (0, .ref b), (1, .ref xo), (2, .ref mo)]) S0 dL_law_740 hl rfl (by decide) rfl (fun ls hl => ?_)
        refine lv_goto (tgt := 18) S0.1 S0.2.1 dL_law_743 (by decide) ?_
        have hl := lv_rp hl 0 rfl (show iI (((i : Nat) : Int) + 9) = iI (((i + 9 : Nat)) : Int) from congrArg iI (by omega))
        exact W.widen (k := 100 + (i + 9)) (n := 6000 + 3 * (i + 9)) (by omega) (by omega) (ih (i + 9) (by omega) (by omega) H1 locs1 ls X1 (lv_sub hl [1, 2, 3, 0] rfl))
      obtain ⟨t, ht, et⟩ := pk_andE (xs i) (m := iI 15) 4 (by decide)
      rw [iI_nI] at et
      have ht : t < 16 := ht
      refine lv_aload_n S0.1 S0.2.1 dL_law_27 rfl (lv_at hl 0 rfl) ?_
      refine lv_iload_n S0.1 S0.2.1 dL_law_28 rfl (lv_at hl 3 rfl) ?_
      have hsl := iI_in (z := ((i : Nat) : Int)) (n := L) (by omega) (by omega)
      refine va_sld S0.1 S0.2.1 hX hbl hbA hS hsl dL_law_29 ?_
      rw [iI_cl (by omega), Int.toNat_natCast]
      refine k_bipush S0 dL_law_30 (by decide) ?_
      refine lv_iand S0.1 S0.2.1 dL_law_32 ?_
      refine k_cg et ?_
      by_cases c_0 : t = 0
      · refine k_tableIn (a := ((t : Nat) : Int)) (tgt := 112) S0 dL_law_33 (by omega) (by omega) (by omega) (by rw [c_0]; rfl) (by decide) ?_
        exact lc_say l S0 hX hbl hbA hl hi hL0 hcs X go
      by_cases c_1 : t = 1
      · refine k_tableIn (a := ((t : Nat) : Int)) (tgt := 199) S0 dL_law_33 (by omega) (by omega) (by omega) (by rw [c_1]; rfl) (by decide) ?_
        exact lc_feed l S0 hX hbl hbA hl hi hL0 hcs X go
      by_cases c_2 : t = 2
      · refine k_tableIn (a := ((t : Nat) : Int)) (tgt := 262) S0 dL_law_33 (by omega) (by omega) (by omega) (by rw [c_2]; rfl) (by decide) ?_
        exact lc_end l S0 hX hbl hbA hl hi hL0 hcs X go
      by_cases c_3 : t = 3
      · refine k_tableIn (a := ((t : Nat) : Int)) (tgt := 285) S0 dL_law_33 (by omega) (by omega) (by omega) (by rw [c_3]; rfl) (by decide) ?_
        exact lc_rules l S0 hX hbl hbA hl hi hL0 hcs X go
      by_cases c_4 : t = 4
      · refine k_tableIn (a := ((t : Nat) : Int)) (tgt := 298) S0 dL_law_33 (by omega) (by omega) (by omega) (by rw [c_4]; rfl) (by decide) ?_
        exact lc_fault l S0 hX hbl hbA hl hi hL0 hcs X go
      by_cases c_5 : t = 5
      · refine k_tableIn (a := ((t : Nat) : Int)) (tgt := 321) S0 dL_law_33 (by omega) (by omega) (by omega) (by rw [c_5]; rfl) (by decide) ?_
        exact lc_look l S0 hX hbl hbA hl hi hL0 hcs X go
      by_cases c_6 : t = 6
      · refine k_tableIn (a := ((t : Nat) : Int)) (tgt := 344) S0 dL_law_33 (by omega) (by omega) (by omega) (by rw [c_6]; rfl) (by decide) ?_
        exact lc_said l S0 hX hbl hbA hl hi hL0 hcs X go
      by_cases c_7 : t = 7
      · refine k_tableIn (a := ((t : Nat) : Int)) (tgt := 377) S0 dL_law_33 (by omega) (by omega) (by omega) (by rw [c_7]; rfl) (by decide) ?_
        exact lc_paper l S0 hX hbl hbA hl hi hL0 hcs X go
      by_cases c_8 : t = 8
      · refine k_tableIn (a := ((t : Nat) : Int)) (tgt := 400) S0 dL_law_33 (by omega) (by omega) (by omega) (by rw [c_8]; rfl) (by decide) ?_
        exact lc_straight l S0 hX hbl hbA hl hi hL0 hcs X go
      by_cases c_9 : t = 9
      · refine k_tableIn (a := ((t : Nat) : Int)) (tgt := 423) S0 dL_law_33 (by omega) (by omega) (by omega) (by rw [c_9]; rfl) (by decide) ?_
        exact lc_mow l S0 hX hbl hbA hl hi hL0 hcs X go
      by_cases c_10 : t = 10
      · refine k_tableIn (a := ((t : Nat) : Int)) (tgt := 486) S0 dL_law_33 (by omega) (by omega) (by omega) (by rw [c_10]; rfl) (by decide) ?_
        exact lc_protest l S0 hX hbl hbA hl hi hL0 hcs X go
      by_cases c_11 : t = 11
      · refine k_tableIn (a := ((t : Nat) : Int)) (tgt := 519) S0 dL_law_33 (by omega) (by omega) (by omega) (by rw [c_11]; rfl) (by decide) ?_
        exact lc_mowed l S0 hX hbl hbA hl hi hL0 hcs X go
      by_cases c_12 : t = 12
      · refine k_tableIn (a := ((t : Nat) : Int)) (tgt := 562) S0 dL_law_33 (by omega) (by omega) (by omega) (by rw [c_12]; rfl) (by decide) ?_
        exact lc_spells l S0 hX hbl hbA hl hi hL0 hcs X go
      by_cases c_13 : t = 13
      · refine k_tableIn (a := ((t : Nat) : Int)) (tgt := 595) S0 dL_law_33 (by omega) (by omega) (by omega) (by rw [c_13]; rfl) (by decide) ?_
        exact lc_line l S0 hX hbl hbA hl hi hL0 hcs X go
      by_cases c_14 : t = 14
      · refine k_tableIn (a := ((t : Nat) : Int)) (tgt := 618) S0 dL_law_33 (by omega) (by omega) (by omega) (by rw [c_14]; rfl) (by decide) ?_
        exact lc_quarrel l S0 hX hbl hbA hl hi hL0 hcs X go
      by_cases c_15 : t = 15
      · refine k_tableIn (a := ((t : Nat) : Int)) (tgt := 717) S0 dL_law_33 (by omega) (by omega) (by omega) (by rw [c_15]; rfl) (by decide) ?_
        exact lc_split l S0 hX hbl hbA hl hi hL0 hcs X go
      omega
