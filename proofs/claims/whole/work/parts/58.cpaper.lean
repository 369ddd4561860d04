theorem mlM_X3_103 : Cond.methodLink RX3 103 Lib.Math.abs.name ∈ BG := by decide +kernel
theorem mlM_X3_53 : Cond.methodLink RX3 53 Lib.Math.min.name ∈ BG := by decide +kernel
theorem LawC_g {wt : Nat → Nat} {nw : Nat → Prop} {th ho be : Nat} {f g g1 : Nat → Nat → Int32} (h : g1 28 = g 28 ∧ g1 29 = g 29) (hL : LawC wt nw th ho be f g) : LawC wt nw th ho be f g1 := ⟨hL.1, hL.2.1, hL.2.2.1, by rw [h.1]; exact hL.2.2.2.1, by rw [h.2]; exact hL.2.2.2.2⟩
theorem cr_1 {g : Nat → Nat → Int32} {k t : Nat} {F G : Nat → Int32} {x : Int32} (hx : x = F t) (h1 : ∀ q, q < t → g k q = F q) (h2 : ∀ q, t ≤ q → q < 80 → g k q = G q) : (∀ q, q < t + 1 → updA g k (upd (g k) t x) k q = F q) ∧ (∀ q, t + 1 ≤ q → q < 80 → updA g k (upd (g k) t x) k q = G q) := by
  refine ⟨fun q hq => ?_, fun q a b => ?_⟩
  · rw [updA_s]
    by_cases e : q = t
    · rw [e, upd_s, hx]
    · rw [upd_n e]; exact h1 q (by omega)
  · rw [updA_s, upd_n (by omega)]; exact h2 q (by omega) b
theorem cr_2 {g : Nat → Nat → Int32} {k c : Nat} {F G : Nat → Int32} {x : Int32} (hc : c < 79) (hx : x = F (78 - c)) (h1 : ∀ q, 79 - c ≤ q → q < 80 → g k q = F q) (h2 : ∀ q, q < 79 - c → g k q = G q) : (∀ q, 79 - (c + 1) ≤ q → q < 80 → updA g k (upd (g k) (78 - c) x) k q = F q) ∧ (∀ q, q < 79 - (c + 1) → updA g k (upd (g k) (78 - c) x) k q = G q) := by
  refine ⟨fun q a b => ?_, fun q a => ?_⟩
  · rw [updA_s]
    by_cases e : q = 78 - c
    · rw [e, upd_s, hx]
    · rw [upd_n e]; exact h1 q (by omega) b
  · rw [updA_s, upd_n (by omega)]; exact h2 q (by omega)
theorem fw_s {N : Nat → Nat} {be t : Nat} (ht : 1 ≤ t) : (if (((fwS N be (t - 1) : Nat) : Int) + ((be : Nat) : Int)) < ((N t : Nat) : Int) then (((fwS N be (t - 1) : Nat) : Int) + ((be : Nat) : Int)) else ((N t : Nat) : Int)) = ((fwS N be t : Nat) : Int) := by
  obtain ⟨u, rfl⟩ : ∃ u, t = u + 1 := ⟨t - 1, by omega⟩
  rw [Nat.add_sub_cancel]
  show _ = (((if fwS N be u + be < N (u + 1) then fwS N be u + be else N (u + 1)) : Nat) : Int)
  split <;> split <;> omega
theorem bw_s {N : Nat → Nat} {be c : Nat} : (if (((bwC N be c : Nat) : Int) + ((be : Nat) : Int)) < ((fwS N be (78 - c) : Nat) : Int) then (((bwC N be c : Nat) : Int) + ((be : Nat) : Int)) else ((fwS N be (78 - c) : Nat) : Int)) = ((bwC N be (c + 1) : Nat) : Int) := by
  show _ = (((if bwC N be c + be < fwS N be (78 - c) then bwC N be c + be else fwS N be (78 - c)) : Nat) : Int)
  split <;> split <;> omega

abbrev rm_X3_addMisses : Room := ({ frames := 4, cells := 0, slots := 0, locals := 89 } : Room)
set_option maxHeartbeats 4000000 in
set_option maxRecDepth 100000 in
theorem c_X3_addMisses {E : XX} (hE : XS E) (l : Launch) {Γ : GG} {κ : KK} (hN : EN E κ)  {ad : Nat → Nat} {ed cap n : Nat} {sa : Nat → Nat} {S : Nat → Nat → Nat} {f g : Nat → Nat → Int32} (hn9 : f 1 2 = iI n) (hcap : n ≤ cap ∧ cap < 1000) (hB : SayB n S) {wt : Nat → Nat} {nw : Nat → Prop} {th ho be : Nat} (hL : LawC wt nw th ho be f g) (hLB : LawB wt th ho be) {r s : Nat} {R : Nat → Nat} (hr9 : r < 10) (hs : s < 10) (hR : ∀ t, t < 80 → g (40 + r) t = iI ((R t : Nat) : Int)) : Con E l yX3_addMisses cX3_addMisses 10 none rm_X3_addMisses Γ (wC Γ ad ed f g (tS Γ ed cap sa S n)) [.ref (ad (40 + r)), .int (iI (((s : Nat) : Int))), .ref (ad 1), .ref (ad 9)] (fun v w2 => v = none ∧ ∃ g1, w2 = wC Γ ad ed f g1 (tS Γ ed cap sa S n) ∧ (∀ t, t < 80 → g1 (40 + r) t = iI ((R t + aCa n S wt nw th s t n : Nat) : Int)) ∧ (∀ j, j ≠ 40 + r → g1 j = g j)) := by
  refine Con_mk (by decide) (Nat.le_of_ble_eq_true rfl) ?_
  intro p e s₀ m args below meth c A Fx hr hlk hnm X ls hl
  have hl : lv_has ls 10 [(0, .ref (ad (40 + r))), (1, .int (iI (((s : Nat) : Int)))), (2, .ref (ad 1)), (3, .ref (ad 9))] := hl
  have hB1 := hB.1
  refine k_iconst Fx dX3_addMisses_0 ?_
  refine lv_istore (lv' := [(4, .int (iI (0))), (0, .ref (ad (40 + r))), (1, .int (iI (((s : Nat) : Int)))), (2, .ref (ad 1)), (3, .ref (ad 9))]) Fx.1 Fx.2.1 dX3_addMisses_1 hl (by decide) rfl (fun ls hl => ?_)
  have lp_3 : ∀ (nn : Nat) (k9 : Nat) (g1 : Nat → Nat → Int32), n - k9 < nn → (k9 ≤ n) → (∀ t, t < 80 → g1 (40 + r) t = iI ((R t + aCa n S wt nw th s t k9 : Nat) : Int)) → (LawC wt nw th ho be f g1) → (∀ j, j ≠ 40 + r → g1 j = g j) → ∀ (H : Heap) (locs : List Loc) (ls : Array Slot), Wd E Γ A s₀ H locs (wC Γ ad ed f g1 (tS Γ ed cap sa S n)) → lv_has ls 10 [(0, .ref (ad (40 + r))), (1, .int (iI (((s : Nat) : Int)))), (2, .ref (ad 1)), (3, .ref (ad 9)), (4, .int (iI (((k9 : Nat) : Int))))] → W p l e rm_X3_addMisses s₀ m args below meth c H locs (0) (0) (RQ below args s₀ Γ A (fun v w2 => v = none ∧ ∃ g1, w2 = wC Γ ad ed f g1 (tS Γ ed cap sa S n) ∧ (∀ t, t < 80 → g1 (40 + r) t = iI ((R t + aCa n S wt nw th s t n : Nat) : Int)) ∧ (∀ j, j ≠ 40 + r → g1 j = g j)) rm_X3_addMisses) (F0 m 3 ls []) := by
    intro nn
    induction nn with
    | zero => intro k9 g1 hmu; exact absurd hmu (Nat.not_lt_zero _)
    | succ nn ih =>
      intro k9 g1 hmu hk hrw hL hGr H locs ls X hl
      have ih_3 := ih
      refine lv_iload Fx.1 Fx.2.1 dX3_addMisses_3 (lv_at hl 4 rfl) ?_
      refine lv_aload_n Fx.1 Fx.2.1 dX3_addMisses_5 rfl (lv_at hl 2 rfl) ?_
      refine r_callVi (As := []) (rest := [.int (iI (((k9 : Nat) : Int)))]) hE Fx X (c_Jx4a65c_size_8abf5 hE l (by exact hn9) hcap hB) cV_X3_59 (recC_1 X) rfl rfl (Nat.le_of_ble_eq_true rfl) (by decide) hl.1 dX3_addMisses_6 (fun H locs X => ?_)
      refine k_icmp_ge (a := ((k9 : Nat) : Int)) (b := ((n : Nat) : Int)) (tgt := 113) Fx dX3_addMisses_9 (by decide) (by omega) (by omega) (fun c_9 => ?_) (fun c_9 => ?_)
      · exact r_vret Fx hr hlk X (by decide) dX3_addMisses_113 (⟨rfl, _, rfl, fun t ht => (show k9 = n by omega) ▸ hrw t ht, hGr⟩)
      · have hB4 := hB.2 k9
        refine lv_aload_n Fx.1 Fx.2.1 dX3_addMisses_12 rfl (lv_at hl 2 rfl) ?_
        refine lv_iload Fx.1 Fx.2.1 dX3_addMisses_13 (lv_at hl 4 rfl) ?_
        refine r_callVr (As := [.int (iI (((k9 : Nat) : Int)))]) (rest := []) hE Fx X (c_Jx4a65c_get_915e3 hE l (by exact hn9) hcap hB (i := k9) (by omega)) cV_X3_65 (recC_1 X) rfl rfl (Nat.le_of_ble_eq_true rfl) (by decide) hl.1 dX3_addMisses_15 (fun H locs X => ?_)
        refine r_cast Fx cl_say3 (va_recv X.1 X.2.1 (ci := 7) (q0 := 45 + k9) rfl (tS_at (by omega) hcap.1)) dX3_addMisses_18 ?_
        refine lv_astore (lv' := [(5, .ref (sa k9)), (0, .ref (ad (40 + r))), (1, .int (iI (((s : Nat) : Int)))), (2, .ref (ad 1)), (3, .ref (ad 9)), (4, .int (iI (((k9 : Nat) : Int))))]) Fx.1 Fx.2.1 dX3_addMisses_21 hl (by decide) rfl (fun ls hl => ?_)
        refine lv_aload Fx.1 Fx.2.1 dX3_addMisses_23 (lv_at hl 0 rfl) ?_
        refine lv_iload_n Fx.1 Fx.2.1 dX3_addMisses_25 rfl (lv_at hl 2 rfl) ?_
        refine lv_aload_n Fx.1 Fx.2.1 dX3_addMisses_26 rfl (lv_at hl 3 rfl) ?_
        refine lv_aload_n Fx.1 Fx.2.1 dX3_addMisses_27 rfl (lv_at hl 4 rfl) ?_
        refine r_callVi (As := [.int (iI (((s : Nat) : Int))), .ref (ad 1), .ref (ad 9)]) (rest := []) hE Fx X (c_X6_countsAt hE l (by exact hn9) hcap hB (by exact hL) hLB (i := k9) (s := s) (by omega) (by omega)) cV_X3_71 (va_recv X.1 X.2.1 (ci := 7) (q0 := 45 + k9) rfl (tS_at (by omega) hcap.1)) rfl rfl (Nat.le_of_ble_eq_true rfl) (by decide) hl.1 dX3_addMisses_28 (fun H locs X => ?_)
        refine k_bif_eq (tgt := 107) Fx dX3_addMisses_31 (by decide) (fun c_31 => ?_) (fun c_31 => ?_)
        · refine k_iinc (k := 5) (a := ((k9 : Nat) : Int)) (lv' := [(4, .int (iI ((((k9 : Nat) : Int) + 1)))), (5, .ref (sa k9)), (0, .ref (ad (40 + r))), (1, .int (iI (((s : Nat) : Int)))), (2, .ref (ad 1)), (3, .ref (ad 9))]) Fx dX3_addMisses_107 hl rfl (by decide) rfl (fun ls hl => ?_)
          refine lv_goto (tgt := 3) Fx.1 Fx.2.1 dX3_addMisses_110 (by decide) ?_
          have hl_1 := lv_rp hl 0 rfl (show (iI ((((k9 : Nat) : Int) + 1))) = (iI ((((k9 + 1) : Nat) : Int))) from congrArg iI (by omega))
          exact ih_3 (k9 + 1) (g1) (by omega) (by omega) (fun t ht => (hrw t ht).trans (congrArg iI (by rw [Int.natCast_add, Int.natCast_add, ca_s4 c_31]))) (hL) (hGr) _ _ _ X (lv_sub hl_1 [2, 3, 4, 5, 0] rfl)
        · refine lv_aload_n Fx.1 Fx.2.1 dX3_addMisses_34 rfl (lv_at hl 4 rfl) ?_
          refine gC_X3_75_9 Fx X dX3_addMisses_35 ?_
          refine lv_aload Fx.1 Fx.2.1 dX3_addMisses_38 (lv_at hl 0 rfl) ?_
          refine gf_X3_78 (q0 := 45 + k9) (v := .int (iI (((S 0 k9 : Nat) : Int)))) Fx X (tS_at (by omega) hcap.1) rfl dX3_addMisses_40 ?_
          refine ldC_28 (z := ((S 0 k9 : Nat) : Int)) (i := (S 0 k9)) (x := (iI (((wt (S 0 k9) : Nat) : Int)))) Fx X (rfl) (by omega) (hL.2.2.2.1 (S 0 k9) (by omega)) dX3_addMisses_43 ?_
          have blw_x := hLB.1 (S 0 k9)
          refine lv_istore (lv' := [(6, .int (iI (((wt (S 0 k9) : Nat) : Int)))), (5, .ref (sa k9)), (0, .ref (ad (40 + r))), (1, .int (iI (((s : Nat) : Int)))), (2, .ref (ad 1)), (3, .ref (ad 9)), (4, .int (iI (((k9 : Nat) : Int))))]) Fx.1 Fx.2.1 dX3_addMisses_44 hl (by decide) rfl (fun ls hl => ?_)
          refine lv_aload Fx.1 Fx.2.1 dX3_addMisses_46 (lv_at hl 1 rfl) ?_
          refine lv_aload Fx.1 Fx.2.1 dX3_addMisses_48 (lv_at hl 1 rfl) ?_
          refine gf_X3_81 (q0 := 45 + k9) (v := .int (iI (((S 3 k9 : Nat) : Int)))) Fx X (tS_at (by omega) hcap.1) rfl dX3_addMisses_50 ?_
          refine lv_aload_n Fx.1 Fx.2.1 dX3_addMisses_53 rfl (lv_at hl 5 rfl) ?_
          refine r_callVi (As := [.int (iI (((S 3 k9 : Nat) : Int))), .ref (ad 9)]) (rest := []) hE Fx X (c_X6_counted hE l (by exact hn9) hcap hB (by exact hL) hLB (i := k9) (t := S 3 k9) (by omega) (by omega)) cV_X3_84 (va_recv X.1 X.2.1 (ci := 7) (q0 := 45 + k9) rfl (tS_at (by omega) hcap.1)) rfl rfl (Nat.le_of_ble_eq_true rfl) (by decide) hl.1 dX3_addMisses_54 (fun H locs X => ?_)
          have bmv_54 := aMv_lt (S := S) (th := th) (i := k9) (f := S 3 k9) (by omega)
          refine lv_istore (lv' := [(7, .int (iI (((aMv S th k9 (S 3 k9) : Nat) : Int)))), (6, .int (iI (((wt (S 0 k9) : Nat) : Int)))), (5, .ref (sa k9)), (0, .ref (ad (40 + r))), (1, .int (iI (((s : Nat) : Int)))), (2, .ref (ad 1)), (3, .ref (ad 9)), (4, .int (iI (((k9 : Nat) : Int))))]) Fx.1 Fx.2.1 dX3_addMisses_57 hl (by decide) rfl (fun ls hl => ?_)
          refine lv_aload Fx.1 Fx.2.1 dX3_addMisses_59 (lv_at hl 2 rfl) ?_
          refine lv_aload Fx.1 Fx.2.1 dX3_addMisses_61 (lv_at hl 2 rfl) ?_
          refine gf_X3_88 (q0 := 45 + k9) (v := .int (iI (((S 4 k9 : Nat) : Int)))) Fx X (tS_at (by omega) hcap.1) rfl dX3_addMisses_63 ?_
          refine lv_aload_n Fx.1 Fx.2.1 dX3_addMisses_66 rfl (lv_at hl 6 rfl) ?_
          refine r_callVi (As := [.int (iI (((S 4 k9 : Nat) : Int))), .ref (ad 9)]) (rest := []) hE Fx X (c_X6_counted hE l (by exact hn9) hcap hB (by exact hL) hLB (i := k9) (t := S 4 k9) (by omega) (by omega)) cV_X3_84 (va_recv X.1 X.2.1 (ci := 7) (q0 := 45 + k9) rfl (tS_at (by omega) hcap.1)) rfl rfl (Nat.le_of_ble_eq_true rfl) (by decide) hl.1 dX3_addMisses_67 (fun H locs X => ?_)
          have bmv_67 := aMv_lt (S := S) (th := th) (i := k9) (f := S 4 k9) (by omega)
          refine lv_istore (lv' := [(8, .int (iI (((aMv S th k9 (S 4 k9) : Nat) : Int)))), (7, .int (iI (((aMv S th k9 (S 3 k9) : Nat) : Int)))), (6, .int (iI (((wt (S 0 k9) : Nat) : Int)))), (5, .ref (sa k9)), (0, .ref (ad (40 + r))), (1, .int (iI (((s : Nat) : Int)))), (2, .ref (ad 1)), (3, .ref (ad 9)), (4, .int (iI (((k9 : Nat) : Int))))]) Fx.1 Fx.2.1 dX3_addMisses_70 hl (by decide) rfl (fun ls hl => ?_)
          refine k_iconst Fx dX3_addMisses_72 ?_
          refine lv_istore (lv' := [(9, .int (iI (0))), (8, .int (iI (((aMv S th k9 (S 4 k9) : Nat) : Int)))), (7, .int (iI (((aMv S th k9 (S 3 k9) : Nat) : Int)))), (6, .int (iI (((wt (S 0 k9) : Nat) : Int)))), (5, .ref (sa k9)), (0, .ref (ad (40 + r))), (1, .int (iI (((s : Nat) : Int)))), (2, .ref (ad 1)), (3, .ref (ad 9)), (4, .int (iI (((k9 : Nat) : Int))))]) Fx.1 Fx.2.1 dX3_addMisses_73 hl (by decide) rfl (fun ls hl => ?_)
          have lp_75 : ∀ (nn : Nat) (t9 : Nat) (g2 : Nat → Nat → Int32), 80 - t9 < nn → (t9 ≤ 80) → (∀ t, t < t9 → g2 (40 + r) t = (fun q9 => iI ((R q9 + aCa n S wt nw th s q9 (k9 + 1) : Nat) : Int)) t) → (∀ t, t9 ≤ t → t < 80 → g2 (40 + r) t = (fun q9 => iI ((R q9 + aCa n S wt nw th s q9 (k9) : Nat) : Int)) t) → (LawC wt nw th ho be f g2) → (∀ j, j ≠ 40 + r → g2 j = g j) → ∀ (H : Heap) (locs : List Loc) (ls : Array Slot), Wd E Γ A s₀ H locs (wC Γ ad ed f g2 (tS Γ ed cap sa S n)) → lv_has ls 10 [(0, .ref (ad (40 + r))), (1, .int (iI (((s : Nat) : Int)))), (2, .ref (ad 1)), (3, .ref (ad 9)), (4, .int (iI (((k9 : Nat) : Int)))), (6, .int (iI (((wt (S 0 k9) : Nat) : Int)))), (7, .int (iI (((aMv S th k9 (S 3 k9) : Nat) : Int)))), (8, .int (iI (((aMv S th k9 (S 4 k9) : Nat) : Int)))), (9, .int (iI (((t9 : Nat) : Int))))] → W p l e rm_X3_addMisses s₀ m args below meth c H locs (0) (0) (RQ below args s₀ Γ A (fun v w2 => v = none ∧ ∃ g1, w2 = wC Γ ad ed f g1 (tS Γ ed cap sa S n) ∧ (∀ t, t < 80 → g1 (40 + r) t = iI ((R t + aCa n S wt nw th s t n : Nat) : Int)) ∧ (∀ j, j ≠ 40 + r → g1 j = g j)) rm_X3_addMisses) (F0 m 75 ls []) := by
            intro nn
            induction nn with
            | zero => intro t9 g2 hmu; exact absurd hmu (Nat.not_lt_zero _)
            | succ nn ih =>
              intro t9 g2 hmu ht hr1 hr2 hL hGr H locs ls X hl
              have ih_75 := ih
              refine lv_iload Fx.1 Fx.2.1 dX3_addMisses_75 (lv_at hl 8 rfl) ?_
              refine k_bipush Fx dX3_addMisses_77 (by decide) ?_
              refine k_icmp_ge (a := ((t9 : Nat) : Int)) (b := 80) (tgt := 107) Fx dX3_addMisses_79 (by decide) (by omega) (by omega) (fun c_79 => ?_) (fun c_79 => ?_)
              · refine k_iinc (k := 4) (a := ((k9 : Nat) : Int)) (lv' := [(4, .int (iI ((((k9 : Nat) : Int) + 1)))), (0, .ref (ad (40 + r))), (1, .int (iI (((s : Nat) : Int)))), (2, .ref (ad 1)), (3, .ref (ad 9)), (6, .int (iI (((wt (S 0 k9) : Nat) : Int)))), (7, .int (iI (((aMv S th k9 (S 3 k9) : Nat) : Int)))), (8, .int (iI (((aMv S th k9 (S 4 k9) : Nat) : Int)))), (9, .int (iI (((t9 : Nat) : Int))))]) Fx dX3_addMisses_107 hl rfl (by decide) rfl (fun ls hl => ?_)
                refine lv_goto (tgt := 3) Fx.1 Fx.2.1 dX3_addMisses_110 (by decide) ?_
                have hl_2 := lv_rp hl 0 rfl (show (iI ((((k9 : Nat) : Int) + 1))) = (iI ((((k9 + 1) : Nat) : Int))) from congrArg iI (by omega))
                exact ih_3 (k9 + 1) (g2) (by omega) (by omega) (fun t ht => hr1 t (by omega)) (hL) (hGr) _ _ _ X (lv_sub hl_2 [1, 2, 3, 4, 0] rfl)
              · refine lv_aload_n Fx.1 Fx.2.1 dX3_addMisses_82 rfl (lv_at hl 0 rfl) ?_
                refine lv_iload Fx.1 Fx.2.1 dX3_addMisses_83 (lv_at hl 8 rfl) ?_
                refine lv_dup2_11 Fx.1 Fx.2.1 dX3_addMisses_85 rfl rfl ?_
                refine r_ild (q0 := 32 + r) (z := ((t9 : Nat) : Int)) (i := t9) (x := (iI (((R t9 + aCa n S wt nw th s t9 k9 : Nat) : Int)))) Fx X (row_40 (by omega)) (rfl) (by omega) (by decide) (hr2 t9 (by omega) (by omega)) dX3_addMisses_86 ?_
                refine lv_iload Fx.1 Fx.2.1 dX3_addMisses_87 (lv_at hl 5 rfl) ?_
                refine lv_iload Fx.1 Fx.2.1 dX3_addMisses_89 (lv_at hl 8 rfl) ?_
                refine lv_iload Fx.1 Fx.2.1 dX3_addMisses_91 (lv_at hl 6 rfl) ?_
                refine lv_iload Fx.1 Fx.2.1 dX3_addMisses_93 (lv_at hl 7 rfl) ?_
                refine r_callSN (As := [.int (iI (((t9 : Nat) : Int))), .int (iI (((aMv S th k9 (S 3 k9) : Nat) : Int))), .int (iI (((aMv S th k9 (S 4 k9) : Nat) : Int)))]) (rest := [.int (iI (((wt (S 0 k9) : Nat) : Int))), .int (iI (((R t9 + aCa n S wt nw th s t9 k9 : Nat) : Int))), .int (iI (((t9 : Nat) : Int))), .ref (ad (40 + r))]) hE Fx X (c_X9_missOf hE l (t := t9) (lo := aMv S th k9 (S 3 k9)) (hi := aMv S th k9 (S 4 k9)) (by omega) (by omega) (by omega)) cN_X9_missOf (X.ef hN).1.2.2.2.2.2.1 rfl rfl (Nat.le_of_ble_eq_true rfl) (by decide) hl.1 dX3_addMisses_95 (fun H locs X => ?_)
                refine k_imul Fx dX3_addMisses_98 ?_
                refine k_iadd Fx dX3_addMisses_99 ?_
                refine k_cg (show (iI ((((R t9 + aCa n S wt nw th s t9 k9 : Nat) : Int) + (((wt (S 0 k9) : Nat) : Int) * (max 0 (max (((aMv S th k9 (S 3 k9) : Nat) : Int) - ((t9 : Nat) : Int)) (((t9 : Nat) : Int) - ((aMv S th k9 (S 4 k9) : Nat) : Int)))))))) = (iI (((R t9 + aCa n S wt nw th s t9 (k9 + 1) : Nat) : Int))) from congrArg iI (ca_m hB c_31)) ?_
                refine r_ist (q0 := 32 + r) (z := ((t9 : Nat) : Int)) (i := t9) Fx X (row_40 (by omega)) (rfl) (by omega) (by decide) dX3_addMisses_100 (fun H locs X => ?_)
                have X := Wd.to X (rowset_40 (by omega))
                refine k_iinc (k := 8) (a := ((t9 : Nat) : Int)) (lv' := [(9, .int (iI ((((t9 : Nat) : Int) + 1)))), (0, .ref (ad (40 + r))), (1, .int (iI (((s : Nat) : Int)))), (2, .ref (ad 1)), (3, .ref (ad 9)), (4, .int (iI (((k9 : Nat) : Int)))), (6, .int (iI (((wt (S 0 k9) : Nat) : Int)))), (7, .int (iI (((aMv S th k9 (S 3 k9) : Nat) : Int)))), (8, .int (iI (((aMv S th k9 (S 4 k9) : Nat) : Int))))]) Fx dX3_addMisses_101 hl rfl (by decide) rfl (fun ls hl => ?_)
                refine lv_goto (tgt := 75) Fx.1 Fx.2.1 dX3_addMisses_104 (by decide) ?_
                have hl_3 := lv_rp hl 0 rfl (show (iI ((((t9 : Nat) : Int) + 1))) = (iI ((((t9 + 1) : Nat) : Int))) from congrArg iI (by omega))
                exact ih_75 (t9 + 1) ((updA g2 (40 + r) (upd (g2 (40 + r)) t9 (iI (((R t9 + aCa n S wt nw th s t9 (k9 + 1) : Nat) : Int)))))) (by omega) (by omega) ((cr_1 (F := (fun q9 => iI ((R q9 + aCa n S wt nw th s q9 (k9 + 1) : Nat) : Int))) (G := (fun q9 => iI ((R q9 + aCa n S wt nw th s q9 (k9) : Nat) : Int))) rfl hr1 hr2).1) ((cr_1 (F := (fun q9 => iI ((R q9 + aCa n S wt nw th s q9 (k9 + 1) : Nat) : Int))) (G := (fun q9 => iI ((R q9 + aCa n S wt nw th s q9 (k9) : Nat) : Int))) rfl hr1 hr2).2) (LawC_g ⟨updA_n (by omega), updA_n (by omega)⟩ hL) (fun j h => (updA_n h).trans (hGr j h)) _ _ _ X (lv_sub hl_3 [1, 2, 3, 4, 5, 6, 7, 8, 0] rfl)
          have hl_4 := lv_rp hl 0 rfl (show (iI (0)) = (iI (((0 : Nat) : Int))) from congrArg iI (by omega))
          exact lp_75 _ (0) (g1) (Nat.lt_succ_self _) (by omega) (fun t h => absurd h (Nat.not_lt_zero t)) (fun t _ h => hrw t h) (hL) (hGr) _ _ _ X (lv_sub hl_4 [5, 6, 7, 8, 9, 3, 2, 1, 0] rfl)
  have hl_5 := lv_rp hl 0 rfl (show (iI (0)) = (iI (((0 : Nat) : Int))) from congrArg iI (by omega))
  exact lp_3 _ (0) (g) (Nat.lt_succ_self _) (by omega) (hR) (hL) (fun _ _ => rfl) _ _ _ X (lv_sub hl_5 [1, 2, 3, 4, 0] rfl)

abbrev rm_X3_bendTowards : Room := ({ frames := 1, cells := 0, slots := 0, locals := 60 } : Room)
set_option maxHeartbeats 4000000 in
set_option maxRecDepth 100000 in
theorem c_X3_bendTowards {E : XX} (hE : XS E) (l : Launch) {Γ : GG} {ad : Nat → Nat} {ed : Nat} {f g : Nat → Nat → Int32} {tl : va_W} {r be : Nat} {N : Nat → Nat} (hr9 : r < 9) (hbe : be ≤ 9) (hR : ∀ t, t < 80 → g (40 + (r + 1)) t = iI ((N t : Nat) : Int)) (hRB : ∀ t, t < 80 → N t ≤ 1000000) : Con E l yX3_bendTowards cX3_bendTowards 4 none rm_X3_bendTowards Γ (wC Γ ad ed f g tl) [.ref (ad (40 + (r + 1))), .ref (ad (40 + r)), .int (iI (((be : Nat) : Int)))] (fun v w2 => v = none ∧ ∃ g1, w2 = wC Γ ad ed f g1 tl ∧ (∀ t, t < 80 → g1 (40 + r) t = iI ((mnN (fun u => N u + be * aDs t u) 80 : Nat) : Int)) ∧ (∀ j, j ≠ 40 + r → g1 j = g j)) := by
  refine Con_mk (by decide) (Nat.le_of_ble_eq_true rfl) ?_
  intro p e s₀ m args below meth c A Fx hr hlk hnm X ls hl
  have hl : lv_has ls 4 [(0, .ref (ad (40 + (r + 1)))), (1, .ref (ad (40 + r))), (2, .int (iI (((be : Nat) : Int))))] := hl
  refine lv_aload_n Fx.1 Fx.2.1 dX3_bendTowards_0 rfl (lv_at hl 0 rfl) ?_
  refine k_iconst Fx dX3_bendTowards_1 ?_
  refine lv_aload_n Fx.1 Fx.2.1 dX3_bendTowards_2 rfl (lv_at hl 1 rfl) ?_
  refine k_iconst Fx dX3_bendTowards_3 ?_
  refine k_bipush Fx dX3_bendTowards_4 (by decide) ?_
  refine r_cpy (q0 := 32 + (r + 1)) (q1 := 32 + r) (n := 80) (F := g (40 + (r + 1))) (G := g (40 + r)) Fx X ml_cpy3 (row_40 (by omega)) (row_40 (by omega)) (by decide) hl.1 (by decide) (Nat.le_of_ble_eq_true rfl) dX3_bendTowards_6 (fun H locs X => ?_)
  have X := Wd.to X (rowset_40 (by omega))
  refine k_iconst Fx dX3_bendTowards_9 ?_
  refine lv_istore_n (lv' := [(3, .int (iI (1))), (0, .ref (ad (40 + (r + 1)))), (1, .ref (ad (40 + r))), (2, .int (iI (((be : Nat) : Int))))]) Fx.1 Fx.2.1 dX3_bendTowards_10 rfl hl (by decide) rfl (fun ls hl => ?_)
  have lp_11 : ∀ (nn : Nat) (t9 : Nat) (g2 : Nat → Nat → Int32), 80 - t9 < nn → (1 ≤ t9 ∧ t9 ≤ 80) → (∀ t, t < t9 → g2 (40 + r) t = (fun q9 => iI ((fwS N be q9 : Nat) : Int)) t) → (∀ t, t9 ≤ t → t < 80 → g2 (40 + r) t = (fun q9 => iI ((N q9 : Nat) : Int)) t) → (∀ j, j ≠ 40 + r → g2 j = g j) → ∀ (H : Heap) (locs : List Loc) (ls : Array Slot), Wd E Γ A s₀ H locs (wC Γ ad ed f g2 tl) → lv_has ls 4 [(0, .ref (ad (40 + (r + 1)))), (1, .ref (ad (40 + r))), (2, .int (iI (((be : Nat) : Int)))), (3, .int (iI (((t9 : Nat) : Int))))] → W p l e rm_X3_bendTowards s₀ m args below meth c H locs (0) (0) (RQ below args s₀ Γ A (fun v w2 => v = none ∧ ∃ g1, w2 = wC Γ ad ed f g1 tl ∧ (∀ t, t < 80 → g1 (40 + r) t = iI ((mnN (fun u => N u + be * aDs t u) 80 : Nat) : Int)) ∧ (∀ j, j ≠ 40 + r → g1 j = g j)) rm_X3_bendTowards) (F0 m 11 ls []) := by
    intro nn
    induction nn with
    | zero => intro t9 g2 hmu; exact absurd hmu (Nat.not_lt_zero _)
    | succ nn ih =>
      intro t9 g2 hmu ht hr1 hr2 hGr H locs ls X hl
      have ih_11 := ih
      refine lv_iload_n Fx.1 Fx.2.1 dX3_bendTowards_11 rfl (lv_at hl 3 rfl) ?_
      refine k_bipush Fx dX3_bendTowards_12 (by decide) ?_
      refine k_icmp_ge (a := ((t9 : Nat) : Int)) (b := 80) (tgt := 39) Fx dX3_bendTowards_14 (by decide) (by omega) (by omega) (fun c_14 => ?_) (fun c_14 => ?_)
      · refine k_bipush Fx dX3_bendTowards_39 (by decide) ?_
        refine lv_istore_n (lv' := [(3, .int (iI (78))), (0, .ref (ad (40 + (r + 1)))), (1, .ref (ad (40 + r))), (2, .int (iI (((be : Nat) : Int))))]) Fx.1 Fx.2.1 dX3_bendTowards_41 rfl hl (by decide) rfl (fun ls hl => ?_)
        have lp_42 : ∀ (nn : Nat) (c9 : Nat) (g2 : Nat → Nat → Int32), 79 - c9 < nn → (c9 ≤ 79) → (∀ t, 79 - c9 ≤ t → t < 80 → g2 (40 + r) t = (fun q9 => iI ((bwC N be (79 - q9) : Nat) : Int)) t) → (∀ t, t < 79 - c9 → g2 (40 + r) t = (fun q9 => iI ((fwS N be q9 : Nat) : Int)) t) → (∀ j, j ≠ 40 + r → g2 j = g j) → ∀ (H : Heap) (locs : List Loc) (ls : Array Slot), Wd E Γ A s₀ H locs (wC Γ ad ed f g2 tl) → lv_has ls 4 [(0, .ref (ad (40 + (r + 1)))), (1, .ref (ad (40 + r))), (2, .int (iI (((be : Nat) : Int)))), (3, .int (iI ((78 - ((c9 : Nat) : Int)))))] → W p l e rm_X3_bendTowards s₀ m args below meth c H locs (0) (0) (RQ below args s₀ Γ A (fun v w2 => v = none ∧ ∃ g1, w2 = wC Γ ad ed f g1 tl ∧ (∀ t, t < 80 → g1 (40 + r) t = iI ((mnN (fun u => N u + be * aDs t u) 80 : Nat) : Int)) ∧ (∀ j, j ≠ 40 + r → g1 j = g j)) rm_X3_bendTowards) (F0 m 42 ls []) := by
          intro nn
          induction nn with
          | zero => intro c9 g2 hmu; exact absurd hmu (Nat.not_lt_zero _)
          | succ nn ih =>
            intro c9 g2 hmu hc9 hr1 hr2 hGr H locs ls X hl
            have ih_42 := ih
            refine lv_iload_n Fx.1 Fx.2.1 dX3_bendTowards_42 rfl (lv_at hl 3 rfl) ?_
            refine k_if_lt (a := (78 - ((c9 : Nat) : Int))) (tgt := 68) Fx dX3_bendTowards_43 (by decide) (by omega) (fun c_43 => ?_) (fun c_43 => ?_)
            · exact r_vret Fx hr hlk X (by decide) dX3_bendTowards_68 (⟨rfl, _, rfl, fun t ht => by rw [← sweeps N be t ht]; exact hr1 t (by omega) ht, hGr⟩)
            · have hl := lv_rp hl 3 rfl (show (iI ((78 - ((c9 : Nat) : Int)))) = (iI (((78 - c9 : Nat) : Int))) from congrArg iI (by omega))
              refine lv_aload_n Fx.1 Fx.2.1 dX3_bendTowards_46 rfl (lv_at hl 1 rfl) ?_
              refine lv_iload_n Fx.1 Fx.2.1 dX3_bendTowards_47 rfl (lv_at hl 3 rfl) ?_
              refine lv_aload_n Fx.1 Fx.2.1 dX3_bendTowards_48 rfl (lv_at hl 1 rfl) ?_
              refine lv_iload_n Fx.1 Fx.2.1 dX3_bendTowards_49 rfl (lv_at hl 3 rfl) ?_
              refine r_ild (q0 := 32 + r) (z := ((78 - c9 : Nat) : Int)) (i := (78 - c9)) (x := (iI (((fwS N be (78 - c9) : Nat) : Int)))) Fx X (row_40 (by omega)) (rfl) (by omega) (by decide) (hr2 (78 - c9) (by omega)) dX3_bendTowards_50 ?_
              have hb2 := fw_le N be (78 - c9) 0 (by omega)
              have hb3 := hRB 0 (by omega)
              have hb4 : be * (78 - c9 - 0) ≤ 9 * 79 := Nat.mul_le_mul hbe (by omega)
              refine lv_aload_n Fx.1 Fx.2.1 dX3_bendTowards_51 rfl (lv_at hl 1 rfl) ?_
              refine lv_iload_n Fx.1 Fx.2.1 dX3_bendTowards_52 rfl (lv_at hl 3 rfl) ?_
              refine k_iconst Fx dX3_bendTowards_53 ?_
              refine k_iadd Fx dX3_bendTowards_54 ?_
              refine r_ild (q0 := 32 + r) (z := (((78 - c9 : Nat) : Int) + 1)) (i := (78 - c9 + 1)) (x := (iI (((bwC N be c9 : Nat) : Int)))) Fx X (row_40 (by omega)) (rfl) (by omega) (by decide) ((hr1 (78 - c9 + 1) (by omega) (by omega)).trans (congrArg (fun z9 : Nat => iI ((bwC N be z9 : Nat) : Int)) (show 79 - (78 - c9 + 1) = c9 by omega))) dX3_bendTowards_55 ?_
              have hb5 := bw_le N be c9 (by omega) (79 - c9) (by omega) (by omega)
              have hb6 := fw_le N be (79 - c9) 0 (by omega)
              have hb7 : be * (79 - c9 - 0) ≤ 9 * 79 := Nat.mul_le_mul hbe (by omega)
              rw [Nat.sub_self, Nat.mul_zero] at hb5
              refine lv_iload_n Fx.1 Fx.2.1 dX3_bendTowards_56 rfl (lv_at hl 2 rfl) ?_
              refine k_iadd Fx dX3_bendTowards_57 ?_
              refine r_min (a := ((fwS N be (78 - c9) : Nat) : Int)) (b := (((bwC N be c9 : Nat) : Int) + ((be : Nat) : Int))) Fx mlM_X3_53 (by omega) (by omega) hl.1 (by decide) (Nat.le_of_ble_eq_true rfl) (by decide) (by decide) dX3_bendTowards_58 ?_
              refine k_cg (show (iI ((if (((bwC N be c9 : Nat) : Int) + ((be : Nat) : Int)) < ((fwS N be (78 - c9) : Nat) : Int) then (((bwC N be c9 : Nat) : Int) + ((be : Nat) : Int)) else ((fwS N be (78 - c9) : Nat) : Int)))) = (iI (((bwC N be (c9 + 1) : Nat) : Int))) from congrArg iI bw_s) ?_
              refine r_ist (q0 := 32 + r) (z := ((78 - c9 : Nat) : Int)) (i := (78 - c9)) Fx X (row_40 (by omega)) (rfl) (by omega) (by decide) dX3_bendTowards_61 (fun H locs X => ?_)
              have X := Wd.to X (rowset_40 (by omega))
              refine k_iinc (k := 3) (a := ((78 - c9 : Nat) : Int)) (lv' := [(3, .int (iI ((((78 - c9 : Nat) : Int) + (-1))))), (0, .ref (ad (40 + (r + 1)))), (1, .ref (ad (40 + r))), (2, .int (iI (((be : Nat) : Int))))]) Fx dX3_bendTowards_62 hl rfl (by decide) rfl (fun ls hl => ?_)
              refine lv_goto (tgt := 42) Fx.1 Fx.2.1 dX3_bendTowards_65 (by decide) ?_
              have hl_1 := lv_rp hl 0 rfl (show (iI ((((78 - c9 : Nat) : Int) + (-1)))) = (iI ((78 - (((c9 + 1) : Nat) : Int)))) from congrArg iI (by omega))
              exact ih_42 (c9 + 1) ((updA g2 (40 + r) (upd (g2 (40 + r)) (78 - c9) (iI (((bwC N be (c9 + 1) : Nat) : Int)))))) (by omega) (by omega) ((cr_2 (F := (fun q9 => iI ((bwC N be (79 - q9) : Nat) : Int))) (G := (fun q9 => iI ((fwS N be q9 : Nat) : Int))) (by omega) (by show _ = iI ((bwC N be (79 - (78 - c9)) : Nat) : Int); rw [show 79 - (78 - c9) = c9 + 1 by omega]) hr1 hr2).1) ((cr_2 (F := (fun q9 => iI ((bwC N be (79 - q9) : Nat) : Int))) (G := (fun q9 => iI ((fwS N be q9 : Nat) : Int))) (by omega) (by show _ = iI ((bwC N be (79 - (78 - c9)) : Nat) : Int); rw [show 79 - (78 - c9) = c9 + 1 by omega]) hr1 hr2).2) (fun j h => (updA_n h).trans (hGr j h)) _ _ _ X (lv_sub hl_1 [1, 2, 3, 0] rfl)
        have hl_2 := lv_rp hl 0 rfl (show (iI (78)) = (iI ((78 - ((0 : Nat) : Int)))) from congrArg iI (by omega))
        exact lp_42 _ (0) (g2) (Nat.lt_succ_self _) (by omega) (fun t h1 h2 => by rw [hr1 t (by omega), show t = 79 by omega]; rfl) (fun t h => hr1 t (by omega)) (hGr) _ _ _ X (lv_sub hl_2 [1, 2, 3, 0] rfl)
      · refine lv_aload_n Fx.1 Fx.2.1 dX3_bendTowards_17 rfl (lv_at hl 1 rfl) ?_
        refine lv_iload_n Fx.1 Fx.2.1 dX3_bendTowards_18 rfl (lv_at hl 3 rfl) ?_
        refine lv_aload_n Fx.1 Fx.2.1 dX3_bendTowards_19 rfl (lv_at hl 1 rfl) ?_
        refine lv_iload_n Fx.1 Fx.2.1 dX3_bendTowards_20 rfl (lv_at hl 3 rfl) ?_
        refine r_ild (q0 := 32 + r) (z := ((t9 : Nat) : Int)) (i := t9) (x := (iI (((N t9 : Nat) : Int)))) Fx X (row_40 (by omega)) (rfl) (by omega) (by decide) (hr2 t9 (by omega) (by omega)) dX3_bendTowards_21 ?_
        refine lv_aload_n Fx.1 Fx.2.1 dX3_bendTowards_22 rfl (lv_at hl 1 rfl) ?_
        refine lv_iload_n Fx.1 Fx.2.1 dX3_bendTowards_23 rfl (lv_at hl 3 rfl) ?_
        refine k_iconst Fx dX3_bendTowards_24 ?_
        refine k_isub Fx dX3_bendTowards_25 ?_
        refine r_ild (q0 := 32 + r) (z := (((t9 : Nat) : Int) - 1)) (i := (t9 - 1)) (x := (iI (((fwS N be (t9 - 1) : Nat) : Int)))) Fx X (row_40 (by omega)) (by omega) (by omega) (by decide) (hr1 (t9 - 1) (by omega)) dX3_bendTowards_26 ?_
        have hb1 := hRB t9 (by omega)
        have hb2 := fw_le N be (t9 - 1) 0 (by omega)
        have hb3 := hRB 0 (by omega)
        have hb4 : be * (t9 - 1 - 0) ≤ 9 * 79 := Nat.mul_le_mul hbe (by omega)
        refine lv_iload_n Fx.1 Fx.2.1 dX3_bendTowards_27 rfl (lv_at hl 2 rfl) ?_
        refine k_iadd Fx dX3_bendTowards_28 ?_
        refine r_min (a := ((N t9 : Nat) : Int)) (b := (((fwS N be (t9 - 1) : Nat) : Int) + ((be : Nat) : Int))) Fx mlM_X3_53 (by omega) (by omega) hl.1 (by decide) (Nat.le_of_ble_eq_true rfl) (by decide) (by decide) dX3_bendTowards_29 ?_
        refine k_cg (show (iI ((if (((fwS N be (t9 - 1) : Nat) : Int) + ((be : Nat) : Int)) < ((N t9 : Nat) : Int) then (((fwS N be (t9 - 1) : Nat) : Int) + ((be : Nat) : Int)) else ((N t9 : Nat) : Int)))) = (iI (((fwS N be t9 : Nat) : Int))) from congrArg iI (fw_s (by omega))) ?_
        refine r_ist (q0 := 32 + r) (z := ((t9 : Nat) : Int)) (i := t9) Fx X (row_40 (by omega)) (rfl) (by omega) (by decide) dX3_bendTowards_32 (fun H locs X => ?_)
        have X := Wd.to X (rowset_40 (by omega))
        refine k_iinc (k := 3) (a := ((t9 : Nat) : Int)) (lv' := [(3, .int (iI ((((t9 : Nat) : Int) + 1)))), (0, .ref (ad (40 + (r + 1)))), (1, .ref (ad (40 + r))), (2, .int (iI (((be : Nat) : Int))))]) Fx dX3_bendTowards_33 hl rfl (by decide) rfl (fun ls hl => ?_)
        refine lv_goto (tgt := 11) Fx.1 Fx.2.1 dX3_bendTowards_36 (by decide) ?_
        have hl_3 := lv_rp hl 0 rfl (show (iI ((((t9 : Nat) : Int) + 1))) = (iI ((((t9 + 1) : Nat) : Int))) from congrArg iI (by omega))
        exact ih_11 (t9 + 1) ((updA g2 (40 + r) (upd (g2 (40 + r)) t9 (iI (((fwS N be t9 : Nat) : Int)))))) (by omega) (by omega) ((cr_1 (F := (fun q9 => iI ((fwS N be q9 : Nat) : Int))) (G := (fun q9 => iI ((N q9 : Nat) : Int))) rfl hr1 hr2).1) ((cr_1 (F := (fun q9 => iI ((fwS N be q9 : Nat) : Int))) (G := (fun q9 => iI ((N q9 : Nat) : Int))) rfl hr1 hr2).2) (fun j h => (updA_n h).trans (hGr j h)) _ _ _ X (lv_sub hl_3 [1, 2, 3, 0] rfl)
  have hl_4 := lv_rp hl 0 rfl (show (iI (1)) = (iI (((1 : Nat) : Int))) from congrArg iI (by omega))
  exact lp_11 _ (1) ((updA g (40 + r) (va_cpy (g (40 + (r + 1))) (g (40 + r)) 0 0 80))) (Nat.lt_succ_self _) (by omega) (fun t h => by rw [updA_s]; unfold va_cpy; rw [if_pos (by omega), show 0 + (t - 0) = t by omega, hR t (by omega), show t = 0 by omega]; rfl) (fun t _ h => by rw [updA_s]; unfold va_cpy; rw [if_pos (by omega), show 0 + (t - 0) = t by omega]; exact hR t h) (fun j h => updA_n h) _ _ _ X (lv_sub hl_4 [1, 2, 3, 0] rfl)

abbrev rm_X3_priceOf : Room := ({ frames := 1, cells := 0, slots := 0, locals := 15 } : Room)
set_option maxHeartbeats 4000000 in
set_option maxRecDepth 100000 in
theorem c_X3_priceOf {E : XX} (hE : XS E) (l : Launch) {Γ : GG} {ad : Nat → Nat} {ed : Nat} {f g : Nat → Nat → Int32} {tl : va_W} {r be u0 t9 : Nat} {F : Nat → Nat} (ht9 : t9 < 80) (hr9 : r < 10) (hbe : be ≤ 9) (hu0 : u0 < 80) (hR : ∀ t, t < 80 → g (40 + r) t = iI ((F t : Nat) : Int)) (hRB : ∀ t, t < 80 → F t ≤ 1000000) : Con E l yX3_priceOf cX3_priceOf 4 (some .int) rm_X3_priceOf Γ (wC Γ ad ed f g tl) [.ref (ad (40 + r)), .int (iI (((t9 : Nat) : Int))), .int (iI (((u0 : Nat) : Int))), .int (iI (((be : Nat) : Int)))] (Qi (iI ((F t9 + be * aDs t9 u0 : Nat) : Int)) (wC Γ ad ed f g tl)) := by
  refine Con_mk (by decide) (Nat.le_of_ble_eq_true rfl) ?_
  intro p e s₀ m args below meth c A Fx hr hlk hnm X ls hl
  have hl : lv_has ls 4 [(0, .ref (ad (40 + r))), (1, .int (iI (((t9 : Nat) : Int)))), (2, .int (iI (((u0 : Nat) : Int)))), (3, .int (iI (((be : Nat) : Int))))] := hl
  refine lv_aload_n Fx.1 Fx.2.1 dX3_priceOf_0 rfl (lv_at hl 0 rfl) ?_
  refine lv_iload_n Fx.1 Fx.2.1 dX3_priceOf_1 rfl (lv_at hl 1 rfl) ?_
  refine r_ild (q0 := 32 + r) (z := ((t9 : Nat) : Int)) (i := t9) (x := (iI (((F t9 : Nat) : Int)))) Fx X (row_40 (by omega)) (rfl) (by omega) (by decide) (hR t9 (by omega)) dX3_priceOf_2 ?_
  refine lv_iload_n Fx.1 Fx.2.1 dX3_priceOf_3 rfl (lv_at hl 3 rfl) ?_
  refine lv_iload_n Fx.1 Fx.2.1 dX3_priceOf_4 rfl (lv_at hl 1 rfl) ?_
  refine lv_iload_n Fx.1 Fx.2.1 dX3_priceOf_5 rfl (lv_at hl 2 rfl) ?_
  refine k_isub Fx dX3_priceOf_6 ?_
  refine r_abs (a := (((t9 : Nat) : Int) - ((u0 : Nat) : Int))) Fx mlM_X3_103 (by omega) hl.1 (by decide) (Nat.le_of_ble_eq_true rfl) (by decide) (by decide) dX3_priceOf_7 ?_
  refine k_imul Fx dX3_priceOf_10 ?_
  refine k_iadd Fx dX3_priceOf_11 ?_
  refine k_cg (show (iI ((((F t9 : Nat) : Int) + (((be : Nat) : Int) * (if (((t9 : Nat) : Int) - ((u0 : Nat) : Int)) < 0 then -(((t9 : Nat) : Int) - ((u0 : Nat) : Int)) else (((t9 : Nat) : Int) - ((u0 : Nat) : Int))))))) = (iI (((F t9 + be * aDs t9 u0 : Nat) : Int))) from congrArg iI (on_cv _ be t9 u0)) ?_
  exact r_iret Fx hr hlk X (by decide) dX3_priceOf_12 (Qi_mk rfl)

abbrev rm_X3_cheapest : Room := ({ frames := 2, cells := 0, slots := 0, locals := 38 } : Room)
set_option maxHeartbeats 4000000 in
set_option maxRecDepth 100000 in
theorem c_X3_cheapest {E : XX} (hE : XS E) (l : Launch) {Γ : GG} {ad : Nat → Nat} {ed : Nat} {f g : Nat → Nat → Int32} {tl : va_W} {r be u0 : Nat} {F : Nat → Nat} (hr9 : r < 10) (hbe : be ≤ 9) (hu0 : u0 < 80) (hR : ∀ t, t < 80 → g (40 + r) t = iI ((F t : Nat) : Int)) (hRB : ∀ t, t < 80 → F t ≤ 1000000) : Con E l yX3_cheapest cX3_cheapest 5 (some .int) rm_X3_cheapest Γ (wC Γ ad ed f g tl) [.ref (ad (40 + r)), .int (iI (((u0 : Nat) : Int))), .int (iI (((be : Nat) : Int)))] (Qi (iI (amN (fun t => F t + be * aDs t u0) 80 : Nat)) (wC Γ ad ed f g tl)) := by
  refine Con_mk (by decide) (Nat.le_of_ble_eq_true rfl) ?_
  intro p e s₀ m args below meth c A Fx hr hlk hnm X ls hl
  have hl : lv_has ls 5 [(0, .ref (ad (40 + r))), (1, .int (iI (((u0 : Nat) : Int)))), (2, .int (iI (((be : Nat) : Int))))] := hl
  refine k_iconst Fx dX3_cheapest_0 ?_
  refine lv_istore_n (lv' := [(3, .int (iI (0))), (0, .ref (ad (40 + r))), (1, .int (iI (((u0 : Nat) : Int)))), (2, .int (iI (((be : Nat) : Int))))]) Fx.1 Fx.2.1 dX3_cheapest_1 rfl hl (by decide) rfl (fun ls hl => ?_)
  refine k_iconst Fx dX3_cheapest_2 ?_
  refine lv_istore (lv' := [(4, .int (iI (1))), (3, .int (iI (0))), (0, .ref (ad (40 + r))), (1, .int (iI (((u0 : Nat) : Int)))), (2, .int (iI (((be : Nat) : Int))))]) Fx.1 Fx.2.1 dX3_cheapest_3 hl (by decide) rfl (fun ls hl => ?_)
  have lp_5 : ∀ (nn : Nat) (t9 : Nat), 80 - t9 < nn → (1 ≤ t9 ∧ t9 ≤ 80) → ∀ (H : Heap) (locs : List Loc) (ls : Array Slot), Wd E Γ A s₀ H locs (wC Γ ad ed f g tl) → lv_has ls 5 [(0, .ref (ad (40 + r))), (1, .int (iI (((u0 : Nat) : Int)))), (2, .int (iI (((be : Nat) : Int)))), (3, .int (iI (((amN (fun t => F t + be * aDs t u0) t9 : Nat) : Int)))), (4, .int (iI (((t9 : Nat) : Int))))] → W p l e rm_X3_cheapest s₀ m args below meth c H locs (0) (0) (RQ below args s₀ Γ A (Qi (iI (amN (fun t => F t + be * aDs t u0) 80 : Nat)) (wC Γ ad ed f g tl)) rm_X3_cheapest) (F0 m 5 ls []) := by
    intro nn
    induction nn with
    | zero => intro t9 hmu; exact absurd hmu (Nat.not_lt_zero _)
    | succ nn ih =>
      intro t9 hmu ht H locs ls X hl
      have ih_5 := ih
      refine lv_iload Fx.1 Fx.2.1 dX3_cheapest_5 (lv_at hl 4 rfl) ?_
      refine k_bipush Fx dX3_cheapest_7 (by decide) ?_
      refine k_icmp_ge (a := ((t9 : Nat) : Int)) (b := 80) (tgt := 39) Fx dX3_cheapest_9 (by decide) (by omega) (by omega) (fun c_9 => ?_) (fun c_9 => ?_)
      · refine lv_iload_n Fx.1 Fx.2.1 dX3_cheapest_39 rfl (lv_at hl 3 rfl) ?_
        exact r_iret Fx hr hlk X (by decide) dX3_cheapest_40 (Qi_mk (by rw [show t9 = 80 by omega]))
      · have hb4 := amN_lt (fun t => F t + be * aDs t u0) t9 (by omega)
        refine lv_aload_n Fx.1 Fx.2.1 dX3_cheapest_12 rfl (lv_at hl 0 rfl) ?_
        refine lv_iload Fx.1 Fx.2.1 dX3_cheapest_13 (lv_at hl 4 rfl) ?_
        refine lv_iload_n Fx.1 Fx.2.1 dX3_cheapest_15 rfl (lv_at hl 1 rfl) ?_
        refine lv_iload_n Fx.1 Fx.2.1 dX3_cheapest_16 rfl (lv_at hl 2 rfl) ?_
        refine r_callSi (As := [.ref (ad (40 + r)), .int (iI (((t9 : Nat) : Int))), .int (iI (((u0 : Nat) : Int))), .int (iI (((be : Nat) : Int)))]) (rest := []) hE Fx X (c_X3_priceOf hE l (r := r) (be := be) (u0 := u0) (t9 := t9) (F := F) (by omega) hr9 hbe hu0 hR hRB) cS_X3_99 rfl rfl (Nat.le_of_ble_eq_true rfl) (by decide) hl.1 dX3_cheapest_17 (fun H locs X => ?_)
        refine lv_aload_n Fx.1 Fx.2.1 dX3_cheapest_20 rfl (lv_at hl 0 rfl) ?_
        refine lv_iload_n Fx.1 Fx.2.1 dX3_cheapest_21 rfl (lv_at hl 3 rfl) ?_
        refine lv_iload_n Fx.1 Fx.2.1 dX3_cheapest_22 rfl (lv_at hl 1 rfl) ?_
        refine lv_iload_n Fx.1 Fx.2.1 dX3_cheapest_23 rfl (lv_at hl 2 rfl) ?_
        refine r_callSi (As := [.ref (ad (40 + r)), .int (iI (((amN (fun t => F t + be * aDs t u0) t9 : Nat) : Int))), .int (iI (((u0 : Nat) : Int))), .int (iI (((be : Nat) : Int)))]) (rest := [.int (iI (((F t9 + be * aDs t9 u0 : Nat) : Int)))]) hE Fx X (c_X3_priceOf hE l (r := r) (be := be) (u0 := u0) (t9 := amN (fun t => F t + be * aDs t u0) t9) (F := F) (by omega) hr9 hbe hu0 hR hRB) cS_X3_99 rfl rfl (Nat.le_of_ble_eq_true rfl) (by decide) hl.1 dX3_cheapest_24 (fun H locs X => ?_)
        have hb1 := hRB t9 (by omega)
        have hb2 : be * aDs t9 u0 ≤ 9 * 79 := Nat.mul_le_mul hbe (aDs_le (by omega) (by omega))
        have hb5 := hRB (amN (fun t => F t + be * aDs t u0) t9) (by omega)
        have hb6 : be * aDs (amN (fun t => F t + be * aDs t u0) t9) u0 ≤ 9 * 79 := Nat.mul_le_mul hbe (aDs_le (by omega) (by omega))
        refine k_icmp_ge (a := ((F t9 + be * aDs t9 u0 : Nat) : Int)) (b := ((F (amN (fun t => F t + be * aDs t u0) t9) + be * aDs (amN (fun t => F t + be * aDs t u0) t9) u0 : Nat) : Int)) (tgt := 33) Fx dX3_cheapest_27 (by decide) (by omega) (by omega) (fun c_27 => ?_) (fun c_27 => ?_)
        · refine k_iinc (k := 4) (a := ((t9 : Nat) : Int)) (lv' := [(4, .int (iI ((((t9 : Nat) : Int) + 1)))), (0, .ref (ad (40 + r))), (1, .int (iI (((u0 : Nat) : Int)))), (2, .int (iI (((be : Nat) : Int)))), (3, .int (iI (((amN (fun t => F t + be * aDs t u0) t9 : Nat) : Int))))]) Fx dX3_cheapest_33 hl rfl (by decide) rfl (fun ls hl => ?_)
          refine lv_goto (tgt := 5) Fx.1 Fx.2.1 dX3_cheapest_36 (by decide) ?_
          have hl_1 := lv_rp hl 4 rfl (show (iI (((amN (fun t => F t + be * aDs t u0) t9 : Nat) : Int))) = (iI (((amN (fun t => F t + be * aDs t u0) (t9 + 1) : Nat) : Int))) from congrArg (fun z9 : Nat => iI z9) (am_2 (F := (fun t => F t + be * aDs t u0)) (by show _ + _ ≤ _ + _; omega)))
          have hl_2 := lv_rp hl_1 0 rfl (show (iI ((((t9 : Nat) : Int) + 1))) = (iI ((((t9 + 1) : Nat) : Int))) from congrArg iI (by omega))
          exact ih_5 (t9 + 1) (by omega) (by omega) _ _ _ X (lv_sub hl_2 [1, 2, 3, 4, 0] rfl)
        · refine lv_iload Fx.1 Fx.2.1 dX3_cheapest_30 (lv_at hl 4 rfl) ?_
          refine lv_istore_n (lv' := [(3, .int (iI (((t9 : Nat) : Int)))), (0, .ref (ad (40 + r))), (1, .int (iI (((u0 : Nat) : Int)))), (2, .int (iI (((be : Nat) : Int)))), (4, .int (iI (((t9 : Nat) : Int))))]) Fx.1 Fx.2.1 dX3_cheapest_32 rfl hl (by decide) rfl (fun ls hl => ?_)
          refine k_iinc (k := 4) (a := ((t9 : Nat) : Int)) (lv' := [(4, .int (iI ((((t9 : Nat) : Int) + 1)))), (3, .int (iI (((t9 : Nat) : Int)))), (0, .ref (ad (40 + r))), (1, .int (iI (((u0 : Nat) : Int)))), (2, .int (iI (((be : Nat) : Int))))]) Fx dX3_cheapest_33 hl rfl (by decide) rfl (fun ls hl => ?_)
          refine lv_goto (tgt := 5) Fx.1 Fx.2.1 dX3_cheapest_36 (by decide) ?_
          have hl_3 := lv_rp hl 1 rfl (show (iI (((t9 : Nat) : Int))) = (iI (((amN (fun t => F t + be * aDs t u0) (t9 + 1) : Nat) : Int))) from congrArg (fun z9 : Nat => iI z9) (am_1 (F := (fun t => F t + be * aDs t u0)) (by show _ + _ < _ + _; omega)))
          have hl_4 := lv_rp hl_3 0 rfl (show (iI ((((t9 : Nat) : Int) + 1))) = (iI ((((t9 + 1) : Nat) : Int))) from congrArg iI (by omega))
          exact ih_5 (t9 + 1) (by omega) (by omega) _ _ _ X (lv_sub hl_4 [2, 3, 4, 1, 0] rfl)
  have hl_5 := lv_rp hl 1 rfl (show (iI (0)) = (iI (((amN (fun t => F t + be * aDs t u0) 1 : Nat) : Int))) from congrArg (fun z9 : Nat => iI z9) (am_0 (fun t => F t + be * aDs t u0)))
  have hl_6 := lv_rp hl_5 0 rfl (show (iI (1)) = (iI (((1 : Nat) : Int))) from congrArg iI (by omega))
  exact lp_5 _ (1) (Nat.lt_succ_self _) (by omega) _ _ _ X (lv_sub hl_6 [2, 3, 4, 1, 0] rfl)

