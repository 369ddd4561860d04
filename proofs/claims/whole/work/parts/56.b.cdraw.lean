theorem dr_init {F : Nat → Nat → Int} {B : Nat → Nat → Prop} {ho : Nat} {pf : Int} {Y : Nat → Nat} {f g : Nat → Nat → Int32} (h1 : f 7 0 = iI pf) (h2 : f 7 1 = iI (-1)) (h3 : ∀ n, n < 2 → g 22 n = iI 0) (h4 : ∀ n, n < 2 → g 23 n = iI 0) : TrJ F B ho pf Y 0 f g := ⟨h1, h2, fun n hn => ⟨h3 n hn, h4 n hn, fun k hk => absurd hk (Nat.not_lt_zero k)⟩⟩
theorem dr_end {F : Nat → Nat → Int} {B : Nat → Nat → Prop} {ho : Nat} {pf : Int} {Y : Nat → Nat} {yc i : Nat} {f g f0 g0 : Nat → Nat → Int32} (hh : 1 ≤ ho) (hN : YrN B yc Y) (hB : YrB yc Y) (hi : i = yc) (h : TrJ F B ho pf Y i f g) (hF : ∀ o j, ¬ (o = 7 ∧ j < 2) → f o j = f0 o j) (hG : ∀ j, j ≠ 22 → j ≠ 23 → j ≠ 50 → j ≠ 51 → g j = g0 j) : f 7 0 = iI (aTL F B ho pf 2000).1 ∧ f 7 1 = iI (aTL F B ho pf 2000).2 ∧ (∀ n, n < 2 → g 22 n = iI (aMy B ho n 1000 : Nat)) ∧ (∀ o j, ¬ (o = 7 ∧ j < 2) → f o j = f0 o j) ∧ (∀ j, j ≠ 22 → j ≠ 23 → j ≠ 50 → j ≠ 51 → g j = g0 j) := by
  subst hi
  have q := yr_end (F := F) (pf := pf) hh hN hB
  exact ⟨by rw [q.2]; exact h.1, by rw [q.2]; exact h.2.1, fun n hn => by rw [q.1 n hn]; exact (h.2.2 n hn).1, hF, hG⟩

abbrev rm_X8_draw : Room := ({ frames := 2, cells := 0, slots := 0, locals := 52 } : Room)
set_option maxHeartbeats 4000000 in
set_option maxRecDepth 100000 in
theorem c_X8_draw {E : XX} (hE : XS E) (l : Launch) {Γ : GG} {ad : Nat → Nat} {ed : Nat} {f g : Nat → Nat → Int32} {tl : va_W} {mn : Nat} {M : Nat → Nat → Nat} (hM : MowC mn M f g) (hMB : MowB mn M) {pn : Nat} {P : Nat → Nat → Nat} (hP : ProC pn P f g) (hPB : ProB pn P) {yc : Nat} {Y : Nat → Nat} (hY : YrC yc Y f g) (hYB : YrB yc Y) {ho s pf : Nat} (hh : 1 ≤ ho ∧ ho ≤ 99) (hs : s < 10) (hyc : yc ≤ 60) (hpf : pf < 80) (hYN : YrN (spB M mn P pn s ((pf : Nat) : Int)) yc Y) : Con E l yX8_draw cX8_draw 6 none rm_X8_draw Γ (wC Γ ad ed f g tl) [.ref (ad 7), .int (iI (((s : Nat) : Int))), .int (iI (((pf : Nat) : Int))), .int (iI (((ho : Nat) : Int)))] (fun v w2 => v = none ∧ ∃ f1 g1, w2 = wC Γ ad ed f1 g1 tl ∧ f1 7 0 = iI (aTL (spF M mn s) (spB M mn P pn s ((pf : Nat) : Int)) ho ((pf : Nat) : Int) 2000).1 ∧ f1 7 1 = iI (aTL (spF M mn s) (spB M mn P pn s ((pf : Nat) : Int)) ho ((pf : Nat) : Int) 2000).2 ∧ (∀ n, n < 2 → g1 22 n = iI (aMy (spB M mn P pn s ((pf : Nat) : Int)) ho n 1000 : Nat)) ∧ (∀ o j, ¬ (o = 7 ∧ j < 2) → f1 o j = f o j) ∧ (∀ j, j ≠ 22 → j ≠ 23 → j ≠ 50 → j ≠ 51 → g1 j = g j)) := by
  refine Con_mk (by decide) (Nat.le_of_ble_eq_true rfl) ?_
  intro p e s₀ m args below meth c A Fx hr hlk hnm X ls hl
  have hl : lv_has ls 6 [(0, .ref (ad 7)), (1, .int (iI (((s : Nat) : Int)))), (2, .int (iI (((pf : Nat) : Int)))), (3, .int (iI (((ho : Nat) : Int))))] := hl
  refine lv_aload_n Fx.1 Fx.2.1 dX8_draw_0 rfl (lv_at hl 0 rfl) ?_
  refine lv_iload_n Fx.1 Fx.2.1 dX8_draw_1 rfl (lv_at hl 2 rfl) ?_
  refine pC_X8_9_7 Fx X dX8_draw_2 (fun H locs X => ?_)
  refine lv_aload_n Fx.1 Fx.2.1 dX8_draw_5 rfl (lv_at hl 0 rfl) ?_
  refine k_iconst Fx dX8_draw_6 ?_
  refine pC_X8_15_7 Fx X dX8_draw_7 (fun H locs X => ?_)
  refine lv_aload_n Fx.1 Fx.2.1 dX8_draw_10 rfl (lv_at hl 0 rfl) ?_
  refine gC_X8_18_7 Fx X dX8_draw_11 ?_
  refine k_iconst Fx dX8_draw_14 ?_
  refine r_callS (As := [.ref (ad 22), .int (iI (0))]) (rest := []) hE Fx X (c_J7_fill_53178 hE l (q0 := 22) (n := 2) (F := g 22) (x := (iI (0))) rfl (by decide)) cS_X8_38 rfl rfl (Nat.le_of_ble_eq_true rfl) (by decide) hl.1 dX8_draw_15 (fun v9 w9 H locs hq X => ?_)
  obtain ⟨rfl, F_1, rfl, hF_1⟩ := hq
  have X : Wd E Γ A s₀ H locs (wC Γ ad ed (updA (updA f 7 (upd (f 7) 0 (iI (((pf : Nat) : Int))))) 7 (upd ((updA f 7 (upd (f 7) 0 (iI (((pf : Nat) : Int))))) 7) 1 (iI ((-1))))) (updA g 22 F_1) tl) := X
  refine lv_aload_n Fx.1 Fx.2.1 dX8_draw_18 rfl (lv_at hl 0 rfl) ?_
  refine gC_X8_22_7 Fx X dX8_draw_19 ?_
  refine k_iconst Fx dX8_draw_22 ?_
  refine r_callS (As := [.ref (ad 23), .int (iI (0))]) (rest := []) hE Fx X (c_J7_fill_53178 hE l (q0 := 23) (n := 2) (F := (updA g 22 F_1) 23) (x := (iI (0))) rfl (by decide)) cS_X8_38 rfl rfl (Nat.le_of_ble_eq_true rfl) (by decide) hl.1 dX8_draw_23 (fun v9 w9 H locs hq X => ?_)
  obtain ⟨rfl, F_2, rfl, hF_2⟩ := hq
  have X : Wd E Γ A s₀ H locs (wC Γ ad ed (updA (updA f 7 (upd (f 7) 0 (iI (((pf : Nat) : Int))))) 7 (upd ((updA f 7 (upd (f 7) 0 (iI (((pf : Nat) : Int))))) 7) 1 (iI ((-1))))) (updA (updA g 22 F_1) 23 F_2) tl) := X
  have hJ : TrJ (spF M mn s) (spB M mn P pn s ((pf : Nat) : Int)) ho ((pf : Nat) : Int) Y 0 (updA (updA f 7 (upd (f 7) 0 (iI (((pf : Nat) : Int))))) 7 (upd ((updA f 7 (upd (f 7) 0 (iI (((pf : Nat) : Int))))) 7) 1 (iI ((-1))))) (updA (updA g 22 F_1) 23 F_2) := dr_init rfl rfl hF_1 hF_2
  refine k_iconst Fx dX8_draw_26 ?_
  refine lv_istore (lv' := [(4, .int (iI (0))), (0, .ref (ad 7)), (1, .int (iI (((s : Nat) : Int)))), (2, .int (iI (((pf : Nat) : Int)))), (3, .int (iI (((ho : Nat) : Int))))]) Fx.1 Fx.2.1 dX8_draw_27 hl (by decide) rfl (fun ls hl => ?_)
  have lp_29 : ∀ (nn : Nat) (i : Nat) (f2 : Nat → Nat → Int32) (g2 : Nat → Nat → Int32), yc - i < nn → (i ≤ yc) → (TrJ (spF M mn s) (spB M mn P pn s ((pf : Nat) : Int)) ho ((pf : Nat) : Int) Y i f2 g2) → (MowC mn M f2 g2) → (ProC pn P f2 g2) → (YrC yc Y f2 g2) → (∀ o j, ¬ (o = 7 ∧ j < 2) → f2 o j = f o j) → (∀ j, j ≠ 22 → j ≠ 23 → j ≠ 50 → j ≠ 51 → g2 j = g j) → ∀ (H : Heap) (locs : List Loc) (ls : Array Slot), Wd E Γ A s₀ H locs (wC Γ ad ed f2 g2 tl) → lv_has ls 6 [(0, .ref (ad 7)), (1, .int (iI (((s : Nat) : Int)))), (2, .int (iI (((pf : Nat) : Int)))), (3, .int (iI (((ho : Nat) : Int)))), (4, .int (iI (((i : Nat) : Int))))] → W p l e rm_X8_draw s₀ m args below meth c H locs (0) (0) (RQ below args s₀ Γ A (fun v w2 => v = none ∧ ∃ f1 g1, w2 = wC Γ ad ed f1 g1 tl ∧ f1 7 0 = iI (aTL (spF M mn s) (spB M mn P pn s ((pf : Nat) : Int)) ho ((pf : Nat) : Int) 2000).1 ∧ f1 7 1 = iI (aTL (spF M mn s) (spB M mn P pn s ((pf : Nat) : Int)) ho ((pf : Nat) : Int) 2000).2 ∧ (∀ n, n < 2 → g1 22 n = iI (aMy (spB M mn P pn s ((pf : Nat) : Int)) ho n 1000 : Nat)) ∧ (∀ o j, ¬ (o = 7 ∧ j < 2) → f1 o j = f o j) ∧ (∀ j, j ≠ 22 → j ≠ 23 → j ≠ 50 → j ≠ 51 → g1 j = g j)) rm_X8_draw) (F0 m 29 ls []) := by
    intro nn
    induction nn with
    | zero => intro i f2 g2 hmu; exact absurd hmu (Nat.not_lt_zero _)
    | succ nn ih =>
      intro i f2 g2 hmu hi hJ hM hP hY hFr hGr H locs ls X hl
      have ih_29 := ih
      refine lv_iload Fx.1 Fx.2.1 dX8_draw_29 (lv_at hl 4 rfl) ?_
      refine lv_aload_n Fx.1 Fx.2.1 dX8_draw_31 rfl (lv_at hl 0 rfl) ?_
      refine gC_X8_30_7 Fx X dX8_draw_32 ?_
      refine gC_X8_44_5 (x := (iI (((yc : Nat) : Int)))) Fx X (hY.1) dX8_draw_35 ?_
      refine k_icmp_ge (a := ((i : Nat) : Int)) (b := ((yc : Nat) : Int)) (tgt := 119) Fx dX8_draw_38 (by decide) (by omega) (by omega) (fun c_38 => ?_) (fun c_38 => ?_)
      · exact r_vret Fx hr hlk X (by decide) dX8_draw_119 (⟨rfl, _, _, rfl, dr_end hh.1 hYN hYB (by omega) hJ hFr hGr⟩)
      · have hi9 : i < yc := by omega
        have hTr := tr_in hh.1 hYN hYB hi9 hJ
        refine k_iconst Fx dX8_draw_41 ?_
        refine lv_istore (lv' := [(5, .int (iI (0))), (0, .ref (ad 7)), (1, .int (iI (((s : Nat) : Int)))), (2, .int (iI (((pf : Nat) : Int)))), (3, .int (iI (((ho : Nat) : Int)))), (4, .int (iI (((i : Nat) : Int))))]) Fx.1 Fx.2.1 dX8_draw_42 hl (by decide) rfl (fun ls hl => ?_)
        have lp_44 : ∀ (nn : Nat) (x9 : Nat) (f3 : Nat → Nat → Int32) (g3 : Nat → Nat → Int32), 2 - x9 < nn → (x9 ≤ 2) → (TrI (spF M mn s) (spB M mn P pn s ((pf : Nat) : Int)) ho ((pf : Nat) : Int) Y i x9 f3 g3) → (MowC mn M f3 g3) → (ProC pn P f3 g3) → (YrC yc Y f3 g3) → (∀ o j, ¬ (o = 7 ∧ j < 2) → f3 o j = f o j) → (∀ j, j ≠ 22 → j ≠ 23 → j ≠ 50 → j ≠ 51 → g3 j = g j) → ∀ (H : Heap) (locs : List Loc) (ls : Array Slot), Wd E Γ A s₀ H locs (wC Γ ad ed f3 g3 tl) → lv_has ls 6 [(0, .ref (ad 7)), (1, .int (iI (((s : Nat) : Int)))), (2, .int (iI (((pf : Nat) : Int)))), (3, .int (iI (((ho : Nat) : Int)))), (4, .int (iI (((i : Nat) : Int)))), (5, .int (iI (((x9 : Nat) : Int))))] → W p l e rm_X8_draw s₀ m args below meth c H locs (0) (0) (RQ below args s₀ Γ A (fun v w2 => v = none ∧ ∃ f1 g1, w2 = wC Γ ad ed f1 g1 tl ∧ f1 7 0 = iI (aTL (spF M mn s) (spB M mn P pn s ((pf : Nat) : Int)) ho ((pf : Nat) : Int) 2000).1 ∧ f1 7 1 = iI (aTL (spF M mn s) (spB M mn P pn s ((pf : Nat) : Int)) ho ((pf : Nat) : Int) 2000).2 ∧ (∀ n, n < 2 → g1 22 n = iI (aMy (spB M mn P pn s ((pf : Nat) : Int)) ho n 1000 : Nat)) ∧ (∀ o j, ¬ (o = 7 ∧ j < 2) → f1 o j = f o j) ∧ (∀ j, j ≠ 22 → j ≠ 23 → j ≠ 50 → j ≠ 51 → g1 j = g j)) rm_X8_draw) (F0 m 44 ls []) := by
          intro nn
          induction nn with
          | zero => intro x9 f3 g3 hmu; exact absurd hmu (Nat.not_lt_zero _)
          | succ nn ih =>
            intro x9 f3 g3 hmu hx9 hTr hM hP hY hFr hGr H locs ls X hl
            have ih_44 := ih
            refine lv_iload Fx.1 Fx.2.1 dX8_draw_44 (lv_at hl 5 rfl) ?_
            refine k_iconst Fx dX8_draw_46 ?_
            refine k_icmp_ge (a := ((x9 : Nat) : Int)) (b := 2) (tgt := 113) Fx dX8_draw_47 (by decide) (by omega) (by omega) (fun c_47 => ?_) (fun c_47 => ?_)
            · refine k_iinc (k := 4) (a := ((i : Nat) : Int)) (lv' := [(4, .int (iI ((((i : Nat) : Int) + 1)))), (0, .ref (ad 7)), (1, .int (iI (((s : Nat) : Int)))), (2, .int (iI (((pf : Nat) : Int)))), (3, .int (iI (((ho : Nat) : Int)))), (5, .int (iI (((x9 : Nat) : Int))))]) Fx dX8_draw_113 hl rfl (by decide) rfl (fun ls hl => ?_)
              refine lv_goto (tgt := 29) Fx.1 Fx.2.1 dX8_draw_116 (by decide) ?_
              have hl_3 := lv_rp hl 0 rfl (show (iI ((((i : Nat) : Int) + 1))) = (iI ((((i + 1) : Nat) : Int))) from congrArg iI (by omega))
              exact ih_29 (i + 1) (f3) (g3) (by omega) (by omega) (tr_out ((show x9 = 2 by omega) ▸ hTr)) (hM) (hP) (hY) (hFr) (hGr) _ _ _ X (lv_sub hl_3 [1, 2, 3, 4, 0] rfl)
            · refine lv_aload_n Fx.1 Fx.2.1 dX8_draw_50 rfl (lv_at hl 0 rfl) ?_
              refine lv_iload Fx.1 Fx.2.1 dX8_draw_51 (lv_at hl 5 rfl) ?_
              refine lv_iload_n Fx.1 Fx.2.1 dX8_draw_53 rfl (lv_at hl 1 rfl) ?_
              refine lv_iload Fx.1 Fx.2.1 dX8_draw_54 (lv_at hl 4 rfl) ?_
              refine lv_iload_n Fx.1 Fx.2.1 dX8_draw_56 rfl (lv_at hl 2 rfl) ?_
              have hyh := (yr_here (F := spF M mn s) (pf := ((pf : Nat) : Int)) (ho := ho) hh.1 hYN hYB hi9).1 x9 (by omega)
              have hr0 := (hTr.2.2 x9 (by omega)).2.1
              rw [if_neg (Nat.lt_irrefl _)] at hr0
              refine r_callV (As := [.int (iI (((x9 : Nat) : Int))), .int (iI (((s : Nat) : Int))), .int (iI (((i : Nat) : Int))), .int (iI (((pf : Nat) : Int)))]) (rest := []) hE Fx X (c_X8_extendRun hE l (by exact hM) hMB (by exact hP) hPB (by exact hY) hYB (q := x9) (s := s) (i := i) (pf := pf) (r0 := aRn (spB M mn P pn s ((pf : Nat) : Int)) x9 (yAf Y i)) (by omega) hs hi9 (by omega) hpf hr0 hyh.2.2 hyh.2.1) cV_X8_49 (recC_7 X) rfl rfl (Nat.le_of_ble_eq_true rfl) (by decide) hl.1 dX8_draw_57 (fun v9 w9 H locs hq X => ?_)
              obtain ⟨rfl, g_4, rfl, hEx⟩ := hq
              have hEx : ExG (spF M mn s) (spB M mn P pn s ((pf : Nat) : Int)) Y i x9 g3 g_4 := hEx
              have hgr := hEx.2.2.1
              have hM := MowC_g (fun j h1 h2 h3 => hgr j h2 (by omega) (by omega)) hM
              have hP := ProC_g2 (fun j h1 h2 h3 => hgr j h2 (by omega) (by omega)) hP
              have hY := YrC_g (fun j h1 h2 h3 => hgr j h2 (by omega) (by omega)) hY
              have hGr : ∀ j, j ≠ 22 → j ≠ 23 → j ≠ 50 → j ≠ 51 → g_4 j = g j := fun j h1 h2 h3 h4 => (hgr j h2 h3 h4).trans (hGr j h1 h2 h3 h4)
              refine lv_aload_n Fx.1 Fx.2.1 dX8_draw_60 rfl (lv_at hl 0 rfl) ?_
              refine gC_X8_22_7 Fx X dX8_draw_61 ?_
              refine lv_iload Fx.1 Fx.2.1 dX8_draw_64 (lv_at hl 5 rfl) ?_
              refine ldC_23 (z := ((x9 : Nat) : Int)) (i := x9) (x := (iI (((aRn (spB M mn P pn s ((pf : Nat) : Int)) x9 (Y i + 1) : Nat) : Int)))) Fx X (rfl) (by omega) (hEx.2.1) dX8_draw_66 ?_
              have hrl := rn_le (spB M mn P pn s ((pf : Nat) : Int)) x9 (Y i + 1)
              have hyl := hYB.2 i hi9
              refine lv_iload_n Fx.1 Fx.2.1 dX8_draw_67 rfl (lv_at hl 3 rfl) ?_
              refine k_icmp_lt (a := ((aRn (spB M mn P pn s ((pf : Nat) : Int)) x9 (Y i + 1) : Nat) : Int)) (b := ((ho : Nat) : Int)) (tgt := 107) Fx dX8_draw_68 (by decide) (by omega) (by omega) (fun c_68 => ?_) (fun c_68 => ?_)
              · refine k_iinc (k := 5) (a := ((x9 : Nat) : Int)) (lv' := [(5, .int (iI ((((x9 : Nat) : Int) + 1)))), (0, .ref (ad 7)), (1, .int (iI (((s : Nat) : Int)))), (2, .int (iI (((pf : Nat) : Int)))), (3, .int (iI (((ho : Nat) : Int)))), (4, .int (iI (((i : Nat) : Int))))]) Fx dX8_draw_107 hl rfl (by decide) rfl (fun ls hl => ?_)
                refine lv_goto (tgt := 44) Fx.1 Fx.2.1 dX8_draw_110 (by decide) ?_
                have hl_5 := lv_rp hl 0 rfl (show (iI ((((x9 : Nat) : Int) + 1))) = (iI ((((x9 + 1) : Nat) : Int))) from congrArg iI (by omega))
                exact ih_44 (x9 + 1) (f3) (g_4) (by omega) (by omega) (tr_a (by omega) hTr hEx (by omega)) (hM) (hP) (hY) (hFr) (hGr) _ _ _ X (lv_sub hl_5 [1, 2, 3, 4, 5, 0] rfl)
              · have hnr9 := tr_nr (by omega) hYB hYN hi9 hTr hEx (by omega)
                have hrow9 := hnr9.2
                refine lv_aload_n Fx.1 Fx.2.1 dX8_draw_71 rfl (lv_at hl 0 rfl) ?_
                refine gC_X8_18_7 Fx X dX8_draw_72 ?_
                refine lv_iload Fx.1 Fx.2.1 dX8_draw_75 (lv_at hl 5 rfl) ?_
                refine lv_dup2_11 Fx.1 Fx.2.1 dX8_draw_77 rfl rfl ?_
                refine ldC_22 (z := ((x9 : Nat) : Int)) (i := x9) (x := (iI (((aMy (spB M mn P pn s ((pf : Nat) : Int)) ho x9 (Y i) : Nat) : Int)))) Fx X (rfl) (by omega) (by have h9 := (hTr.2.2 x9 (by omega)).1; rw [if_neg (Nat.lt_irrefl _)] at h9; exact (congrFun (hgr 22 (by omega) (by omega) (by omega)) x9).trans h9) dX8_draw_78 ?_
                refine k_iconst Fx dX8_draw_79 ?_
                refine k_iadd Fx dX8_draw_80 ?_
                refine stC_22 (z := ((x9 : Nat) : Int)) (i := x9) Fx X (rfl) (by omega) dX8_draw_81 (fun H locs X => ?_)
                refine lv_aload_n Fx.1 Fx.2.1 dX8_draw_82 rfl (lv_at hl 0 rfl) ?_
                refine lv_iload Fx.1 Fx.2.1 dX8_draw_83 (lv_at hl 5 rfl) ?_
                refine lv_aload_n Fx.1 Fx.2.1 dX8_draw_85 rfl (lv_at hl 0 rfl) ?_
                refine lv_iload Fx.1 Fx.2.1 dX8_draw_86 (lv_at hl 5 rfl) ?_
                refine lv_iload Fx.1 Fx.2.1 dX8_draw_88 (lv_at hl 4 rfl) ?_
                refine lv_iload_n Fx.1 Fx.2.1 dX8_draw_90 rfl (lv_at hl 3 rfl) ?_
                refine r_callVi (As := [.int (iI (((x9 : Nat) : Int))), .int (iI (((i : Nat) : Int))), .int (iI (((ho : Nat) : Int)))]) (rest := [.int (iI (((x9 : Nat) : Int))), .ref (ad 7)]) hE Fx X (c_X8_nearest hE l (F := spF M mn s) (spF_b hMB s) (q := x9) (la := i) (ho := ho) (y := Y i) (by omega) (by omega) (by omega) (fun d hd => (congrFun (updA_n (by omega)) _).trans (hrow9 d hd))) cV_X8_53 (recC_7 X) rfl rfl (Nat.le_of_ble_eq_true rfl) (by decide) hl.1 dX8_draw_91 (fun H locs X => ?_)
                refine lv_aload_n Fx.1 Fx.2.1 dX8_draw_94 rfl (lv_at hl 0 rfl) ?_
                refine gC_X8_30_7 Fx X dX8_draw_95 ?_
                refine gC_X8_57_5 Fx X dX8_draw_98 ?_
                refine lv_iload Fx.1 Fx.2.1 dX8_draw_101 (lv_at hl 4 rfl) ?_
                refine ldC_14 (z := ((i : Nat) : Int)) (i := i) (x := (iI (((Y i : Nat) : Int)))) Fx X (rfl) (by omega) (hY.2 i hi9) dX8_draw_103 ?_
                have hnb : -1 ≤ aNr (spF M mn s) ho x9 (Y i) ∧ aNr (spF M mn s) ho x9 (Y i) < 80 := nrD_b (spF_b hMB s) x9 (Y i) (ho - 1)
                have htb := tl_b (B := (spB M mn P pn s ((pf : Nat) : Int))) (ho := ho) (pf := ((pf : Nat) : Int)) (spF_b hMB s) (by omega) (2 * Y i + x9)
                refine r_callV (As := [.int (iI (((x9 : Nat) : Int))), .int (iI (aNr (spF M mn s) ho x9 (Y i))), .int (iI (((Y i : Nat) : Int)))]) (rest := []) hE Fx X (c_X8_moveLine hE l (q := x9) (y := Y i) (a := aNr (spF M mn s) ho x9 (Y i)) (x := (aTL (spF M mn s) (spB M mn P pn s ((pf : Nat) : Int)) ho ((pf : Nat) : Int) (2 * Y i + x9)).1) (by omega) (by omega) (by omega) (hTr.1)) cV_X8_60 (recC_7 X) rfl rfl (Nat.le_of_ble_eq_true rfl) (by decide) hl.1 dX8_draw_104 (fun v9 w9 H locs hq X => ?_)
                rcases hq with ⟨rfl, hbd, rfl⟩ | ⟨rfl, hbd, rfl⟩
                · refine k_iinc (k := 5) (a := ((x9 : Nat) : Int)) (lv' := [(5, .int (iI ((((x9 : Nat) : Int) + 1)))), (0, .ref (ad 7)), (1, .int (iI (((s : Nat) : Int)))), (2, .int (iI (((pf : Nat) : Int)))), (3, .int (iI (((ho : Nat) : Int)))), (4, .int (iI (((i : Nat) : Int))))]) Fx dX8_draw_107 hl rfl (by decide) rfl (fun ls hl => ?_)
                  refine lv_goto (tgt := 44) Fx.1 Fx.2.1 dX8_draw_110 (by decide) ?_
                  have hl_6 := lv_rp hl 0 rfl (show (iI ((((x9 : Nat) : Int) + 1))) = (iI ((((x9 + 1) : Nat) : Int))) from congrArg iI (by omega))
                  exact ih_44 (x9 + 1) ((updA (updA f3 7 (upd (f3 7) 0 (iI (aNr (spF M mn s) ho x9 (Y i))))) 7 (upd (updA f3 7 (upd (f3 7) 0 (iI (aNr (spF M mn s) ho x9 (Y i)))) 7) 1 (iI ((Y i : Nat) : Int))))) ((updA g_4 22 (upd (g_4 22) x9 (iI ((((aMy (spB M mn P pn s ((pf : Nat) : Int)) ho x9 (Y i) : Nat) : Int) + 1)))))) (by omega) (by omega) (tr_c (by omega) hTr hEx (by omega) hbd) (hM) (hP) (hY) (fun o j h => ((frF (by omega)).trans (frF (by omega))).trans (hFr o j h)) (fun j h1 h2 h3 h4 => (updA_n h1).trans (hGr j h1 h2 h3 h4)) _ _ _ X (lv_sub hl_6 [1, 2, 3, 4, 5, 0] rfl)
                · refine k_iinc (k := 5) (a := ((x9 : Nat) : Int)) (lv' := [(5, .int (iI ((((x9 : Nat) : Int) + 1)))), (0, .ref (ad 7)), (1, .int (iI (((s : Nat) : Int)))), (2, .int (iI (((pf : Nat) : Int)))), (3, .int (iI (((ho : Nat) : Int)))), (4, .int (iI (((i : Nat) : Int))))]) Fx dX8_draw_107 hl rfl (by decide) rfl (fun ls hl => ?_)
                  refine lv_goto (tgt := 44) Fx.1 Fx.2.1 dX8_draw_110 (by decide) ?_
                  have hl_7 := lv_rp hl 0 rfl (show (iI ((((x9 : Nat) : Int) + 1))) = (iI ((((x9 + 1) : Nat) : Int))) from congrArg iI (by omega))
                  exact ih_44 (x9 + 1) (f3) ((updA g_4 22 (upd (g_4 22) x9 (iI ((((aMy (spB M mn P pn s ((pf : Nat) : Int)) ho x9 (Y i) : Nat) : Int) + 1)))))) (by omega) (by omega) (tr_b (by omega) hTr hEx (by omega) hbd) (hM) (hP) (hY) (hFr) (fun j h1 h2 h3 h4 => (updA_n h1).trans (hGr j h1 h2 h3 h4)) _ _ _ X (lv_sub hl_7 [1, 2, 3, 4, 5, 0] rfl)
        have hl_8 := lv_rp hl 0 rfl (show (iI (0)) = (iI (((0 : Nat) : Int))) from congrArg iI (by omega))
        exact lp_44 _ (0) (f2) (g2) (Nat.lt_succ_self _) (by omega) (hTr) (hM) (hP) (hY) (hFr) (hGr) _ _ _ X (lv_sub hl_8 [1, 2, 3, 4, 5, 0] rfl)
  have hl_9 := lv_rp hl 0 rfl (show (iI (0)) = (iI (((0 : Nat) : Int))) from congrArg iI (by omega))
  exact lp_29 _ (0) ((updA (updA f 7 (upd (f 7) 0 (iI (((pf : Nat) : Int))))) 7 (upd ((updA f 7 (upd (f 7) 0 (iI (((pf : Nat) : Int))))) 7) 1 (iI ((-1)))))) ((updA (updA g 22 F_1) 23 F_2)) (Nat.lt_succ_self _) (by omega) (hJ) (hM) (hP) (hY) (fun o j h => (frF (by omega)).trans (frF (by omega))) (fun j h1 h2 h3 h4 => (updA_n h2).trans (updA_n h1)) _ _ _ X (lv_sub hl_9 [1, 2, 3, 4, 0] rfl)

