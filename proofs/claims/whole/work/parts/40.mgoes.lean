abbrev rm_X10_goes : Room := ({ frames := 2, cells := 0, slots := 0, locals := 47 } : Room)
set_option maxHeartbeats 4000000 in
set_option maxRecDepth 100000 in
theorem c_X10_goes {E : XX} (hE : XS E) (l : Launch) {Γ : GG} {ad : Nat → Nat} {f : Nat → Int32} {g : Nat → Nat → Int32} {mn : Nat} {M : Nat → Nat → Nat} (hM : MowM mn M f g) (hMB : MowB mn M) {pn : Nat} {P : Nat → Nat → Nat} (hP : ProM pn P f g) (hPB : ProB pn P) {ho pf : Nat} (hho : f 11 = iI (ho : Nat)) (hh : 1 ≤ ho ∧ ho ≤ 99) {q s y t : Nat} (hq : q < 2) (hs : s < 10) (hy : y < 1000) (ht : t = 2 * y + q) (hpf : pf < 80) (hpp : g 28 s = iI (pf : Nat)) (hSp : SpM (spF M mn s) (spB M mn P pn s ((pf : Nat) : Int)) ho ((pf : Nat) : Int) t f g) : Con E l yX10_goes cX10_goes 9 none rm_X10_goes Γ (wM Γ ad f g) [.ref (ad 0), .int (iI (((q : Nat) : Int))), .int (iI (((s : Nat) : Int))), .int (iI (((y : Nat) : Int)))] (fun v w2 => v = none ∧ ∃ f1 g1, w2 = wM Γ ad f1 g1 ∧ SpM (spF M mn s) (spB M mn P pn s ((pf : Nat) : Int)) ho ((pf : Nat) : Int) (t + 1) f1 g1 ∧ (∀ k, k ≠ 39 → k ≠ 40 → f1 k = f k) ∧ (∀ k, k ≠ 36 → k ≠ 37 → k ≠ 38 → g1 k = g k)) := by
  refine Con_mk (by decide) (Nat.le_of_ble_eq_true rfl) ?_
  intro p e s₀ m args below meth c A Fx hr hlk hnm X ls hl
  have hl : lv_has ls 9 [(0, .ref (ad 0)), (1, .int (iI (((q : Nat) : Int)))), (2, .int (iI (((s : Nat) : Int)))), (3, .int (iI (((y : Nat) : Int))))] := hl
  refine lv_aload_n Fx.1 Fx.2.1 dX10_goes_0 rfl (lv_at hl 0 rfl) ?_
  refine lv_iload_n Fx.1 Fx.2.1 dX10_goes_1 rfl (lv_at hl 1 rfl) ?_
  refine lv_iload_n Fx.1 Fx.2.1 dX10_goes_2 rfl (lv_at hl 2 rfl) ?_
  refine lv_iload_n Fx.1 Fx.2.1 dX10_goes_3 rfl (lv_at hl 3 rfl) ?_
  refine r_callVi (As := [.int (iI (((q : Nat) : Int))), .int (iI (((s : Nat) : Int))), .int (iI (((y : Nat) : Int)))]) (rest := []) hE Fx X (c_X10_mowedIn hE l hM hMB (q := q) (s := s) (y := y) (by omega) (by omega) (by omega)) cV_X10_224 (recM X) rfl rfl (Nat.le_of_ble_eq_true rfl) (by decide) hl.1 dX10_goes_4 (fun H locs X => ?_)
  refine lv_istore (lv' := [(4, .int (iI ((aMw M q s y mn)))), (0, .ref (ad 0)), (1, .int (iI (((q : Nat) : Int)))), (2, .int (iI (((s : Nat) : Int)))), (3, .int (iI (((y : Nat) : Int))))]) Fx.1 Fx.2.1 dX10_goes_7 hl (by decide) rfl (fun ls hl => ?_)
  have hfb := aMw_b hMB q s y mn
  refine lv_iload Fx.1 Fx.2.1 dX10_goes_9 (lv_at hl 0 rfl) ?_
  refine k_iconst Fx dX10_goes_11 ?_
  refine k_icmp_eq (a := (aMw M q s y mn)) (b := (-1)) (tgt := 48) Fx dX10_goes_12 (by decide) (by omega) (by omega) (fun c_12 => ?_) (fun c_12 => ?_)
  · refine k_iconst Fx dX10_goes_48 ?_
    refine lv_istore (lv' := [(5, .int (iI (0))), (4, .int (iI ((aMw M q s y mn)))), (0, .ref (ad 0)), (1, .int (iI (((q : Nat) : Int)))), (2, .int (iI (((s : Nat) : Int)))), (3, .int (iI (((y : Nat) : Int))))]) Fx.1 Fx.2.1 dX10_goes_49 hl (by decide) rfl (fun ls hl => ?_)
    refine lv_iload Fx.1 Fx.2.1 dX10_goes_51 (lv_at hl 0 rfl) ?_
    refine k_if_eq (a := 0) (tgt := 65) Fx dX10_goes_53 (by decide) (by omega) (fun c_53 => ?_) (fun c_53 => ?_)
    rotate_left
    · exact absurd c_53 (by omega)
    refine lv_aload_n Fx.1 Fx.2.1 dX10_goes_65 rfl (lv_at hl 2 rfl) ?_
    refine gM_37 Fx X dX10_goes_66 ?_
    refine lv_iload_n Fx.1 Fx.2.1 dX10_goes_69 rfl (lv_at hl 3 rfl) ?_
    refine k_iconst Fx dX10_goes_70 ?_
    refine stM_37 (z := ((q : Nat) : Int)) (i := q) Fx X (rfl) (by omega) dX10_goes_71 (fun H locs X => ?_)
    exact r_vret Fx hr hlk X (by decide) dX10_goes_72 (⟨rfl, _, _, rfl, sp_0 hSp ht hq hh.1 (fun z => z.1.1 c_12), fun _ _ _ => rfl, fun k h1 h2 h3 => updA_n h2⟩)
  · refine lv_iload_n Fx.1 Fx.2.1 dX10_goes_15 rfl (lv_at hl 2 rfl) ?_
    refine k_if_ne (a := ((q : Nat) : Int)) (tgt := 33) Fx dX10_goes_16 (by decide) (by omega) (fun c_16 => ?_) (fun c_16 => ?_)
    · refine lv_iload Fx.1 Fx.2.1 dX10_goes_33 (lv_at hl 0 rfl) ?_
      refine lv_aload_n Fx.1 Fx.2.1 dX10_goes_35 rfl (lv_at hl 1 rfl) ?_
      refine gM_28 Fx X dX10_goes_36 ?_
      refine lv_iload_n Fx.1 Fx.2.1 dX10_goes_39 rfl (lv_at hl 3 rfl) ?_
      refine ldM_28 (z := ((s : Nat) : Int)) (i := s) (x := (iI (((pf : Nat) : Int)))) Fx X (rfl) (by omega) (hpp) dX10_goes_40 ?_
      refine k_icmp_ge (a := (aMw M q s y mn)) (b := ((pf : Nat) : Int)) (tgt := 48) Fx dX10_goes_41 (by decide) (by omega) (by omega) (fun c_41 => ?_) (fun c_41 => ?_)
      · refine k_iconst Fx dX10_goes_48 ?_
        refine lv_istore (lv' := [(5, .int (iI (0))), (4, .int (iI ((aMw M q s y mn)))), (0, .ref (ad 0)), (1, .int (iI (((q : Nat) : Int)))), (2, .int (iI (((s : Nat) : Int)))), (3, .int (iI (((y : Nat) : Int))))]) Fx.1 Fx.2.1 dX10_goes_49 hl (by decide) rfl (fun ls hl => ?_)
        refine lv_iload Fx.1 Fx.2.1 dX10_goes_51 (lv_at hl 0 rfl) ?_
        refine k_if_eq (a := 0) (tgt := 65) Fx dX10_goes_53 (by decide) (by omega) (fun c_53 => ?_) (fun c_53 => ?_)
        rotate_left
        · exact absurd c_53 (by omega)
        refine lv_aload_n Fx.1 Fx.2.1 dX10_goes_65 rfl (lv_at hl 2 rfl) ?_
        refine gM_37 Fx X dX10_goes_66 ?_
        refine lv_iload_n Fx.1 Fx.2.1 dX10_goes_69 rfl (lv_at hl 3 rfl) ?_
        refine k_iconst Fx dX10_goes_70 ?_
        refine stM_37 (z := ((q : Nat) : Int)) (i := q) Fx X (rfl) (by omega) dX10_goes_71 (fun H locs X => ?_)
        exact r_vret Fx hr hlk X (by decide) dX10_goes_72 (⟨rfl, _, _, rfl, sp_0 hSp ht hq hh.1 (fun z => absurd (z.1.2.2 (by omega)) (by omega)), fun _ _ _ => rfl, fun k h1 h2 h3 => updA_n h2⟩)
      · refine k_iconst Fx dX10_goes_44 ?_
        refine lv_goto (tgt := 49) Fx.1 Fx.2.1 dX10_goes_45 (by decide) ?_
        refine lv_istore (lv' := [(5, .int (iI (1))), (4, .int (iI ((aMw M q s y mn)))), (0, .ref (ad 0)), (1, .int (iI (((q : Nat) : Int)))), (2, .int (iI (((s : Nat) : Int)))), (3, .int (iI (((y : Nat) : Int))))]) Fx.1 Fx.2.1 dX10_goes_49 hl (by decide) rfl (fun ls hl => ?_)
        refine lv_iload Fx.1 Fx.2.1 dX10_goes_51 (lv_at hl 0 rfl) ?_
        refine k_if_eq (a := 1) (tgt := 65) Fx dX10_goes_53 (by decide) (by omega) (fun c_53 => ?_) (fun c_53 => ?_)
        · exact absurd c_53 (by omega)
        refine lv_aload_n Fx.1 Fx.2.1 dX10_goes_56 rfl (lv_at hl 2 rfl) ?_
        refine lv_iload_n Fx.1 Fx.2.1 dX10_goes_57 rfl (lv_at hl 4 rfl) ?_
        refine lv_iload_n Fx.1 Fx.2.1 dX10_goes_58 rfl (lv_at hl 5 rfl) ?_
        refine r_callVi (As := [.int (iI (((s : Nat) : Int))), .int (iI (((y : Nat) : Int)))]) (rest := []) hE Fx X (c_X10_isProtested hE l hP hPB (s := s) (y := y) (by omega) (by omega)) cV_X10_221 (recM X) rfl rfl (Nat.le_of_ble_eq_true rfl) (by decide) hl.1 dX10_goes_59 (fun H locs X => ?_)
        refine k_bif_eq (tgt := 73) Fx dX10_goes_62 (by decide) (fun c_62 => ?_) (fun c_62 => ?_)
        · have hBy : (spB M mn P pn s ((pf : Nat) : Int)) q y := ⟨⟨c_12, fun _ => by omega, fun _ => by omega⟩, c_62⟩
          have hrn := sp_rn hSp ht hq
          have hft := sp_ft hSp ht hq hy hBy
          have hrl := rn_le (spB M mn P pn s ((pf : Nat) : Int)) q y
          have hml := my_le (spB M mn P pn s ((pf : Nat) : Int)) ho q y
          have htb := tl_b (B := (spB M mn P pn s ((pf : Nat) : Int))) (ho := ho) (pf := ((pf : Nat) : Int)) (spF_b hMB s) (by omega) t
          refine lv_aload_n Fx.1 Fx.2.1 dX10_goes_73 rfl (lv_at hl 2 rfl) ?_
          refine gM_38 Fx X dX10_goes_74 ?_
          refine k_sipush Fx dX10_goes_77 (by decide) ?_
          refine lv_iload_n Fx.1 Fx.2.1 dX10_goes_80 rfl (lv_at hl 3 rfl) ?_
          refine k_imul Fx dX10_goes_81 ?_
          refine lv_iload_n Fx.1 Fx.2.1 dX10_goes_82 rfl (lv_at hl 5 rfl) ?_
          refine k_iadd Fx dX10_goes_83 ?_
          refine lv_iload Fx.1 Fx.2.1 dX10_goes_84 (lv_at hl 1 rfl) ?_
          refine stM_38 (z := ((1000 * ((q : Nat) : Int)) + ((y : Nat) : Int))) (i := (1000 * q + y)) Fx X (by omega) (by omega) dX10_goes_86 (fun H locs X => ?_)
          refine lv_aload_n Fx.1 Fx.2.1 dX10_goes_87 rfl (lv_at hl 2 rfl) ?_
          refine gM_37 Fx X dX10_goes_88 ?_
          refine lv_iload_n Fx.1 Fx.2.1 dX10_goes_91 rfl (lv_at hl 3 rfl) ?_
          refine lv_dup2_11 Fx.1 Fx.2.1 dX10_goes_92 rfl rfl ?_
          refine ldM_37 (z := ((q : Nat) : Int)) (i := q) (x := (iI (((aRn (spB M mn P pn s ((pf : Nat) : Int)) q y : Nat) : Int)))) Fx X (rfl) (by omega) (hrn.1) dX10_goes_93 ?_
          refine k_iconst Fx dX10_goes_94 ?_
          refine k_iadd Fx dX10_goes_95 ?_
          refine stM_37 (z := ((q : Nat) : Int)) (i := q) Fx X (rfl) (by omega) dX10_goes_96 (fun H locs X => ?_)
          refine lv_aload_n Fx.1 Fx.2.1 dX10_goes_97 rfl (lv_at hl 2 rfl) ?_
          refine gM_37 Fx X dX10_goes_98 ?_
          refine lv_iload_n Fx.1 Fx.2.1 dX10_goes_101 rfl (lv_at hl 3 rfl) ?_
          refine ldM_37 (z := ((q : Nat) : Int)) (i := q) (x := (iI ((((aRn (spB M mn P pn s ((pf : Nat) : Int)) q y : Nat) : Int) + 1)))) Fx X (rfl) (by omega) (by rw [updA_s, upd_s]) dX10_goes_102 ?_
          refine lv_aload_n Fx.1 Fx.2.1 dX10_goes_103 rfl (lv_at hl 2 rfl) ?_
          refine gM_11 (x := (iI (((ho : Nat) : Int)))) Fx X (hho) dX10_goes_104 ?_
          refine k_icmp_ge (a := (((aRn (spB M mn P pn s ((pf : Nat) : Int)) q y : Nat) : Int) + 1)) (b := ((ho : Nat) : Int)) (tgt := 111) Fx dX10_goes_107 (by decide) (by omega) (by omega) (fun c_107 => ?_) (fun c_107 => ?_)
          · refine lv_aload_n Fx.1 Fx.2.1 dX10_goes_111 rfl (lv_at hl 2 rfl) ?_
            refine gM_36 Fx X dX10_goes_112 ?_
            refine lv_iload_n Fx.1 Fx.2.1 dX10_goes_115 rfl (lv_at hl 3 rfl) ?_
            refine lv_dup2_11 Fx.1 Fx.2.1 dX10_goes_116 rfl rfl ?_
            refine ldM_36 (z := ((q : Nat) : Int)) (i := q) (x := (iI (((aMy (spB M mn P pn s ((pf : Nat) : Int)) ho q y : Nat) : Int)))) Fx X (rfl) (by omega) (hrn.2) dX10_goes_117 ?_
            refine k_iconst Fx dX10_goes_118 ?_
            refine k_iadd Fx dX10_goes_119 ?_
            refine stM_36 (z := ((q : Nat) : Int)) (i := q) Fx X (rfl) (by omega) dX10_goes_120 (fun H locs X => ?_)
            refine lv_iload Fx.1 Fx.2.1 dX10_goes_121 (lv_at hl 1 rfl) ?_
            refine lv_istore (lv' := [(6, .int (iI ((aMw M q s y mn)))), (5, .int (iI (1))), (4, .int (iI ((aMw M q s y mn)))), (0, .ref (ad 0)), (1, .int (iI (((q : Nat) : Int)))), (2, .int (iI (((s : Nat) : Int)))), (3, .int (iI (((y : Nat) : Int))))]) Fx.1 Fx.2.1 dX10_goes_123 hl (by decide) rfl (fun ls hl => ?_)
            refine lv_iload_n Fx.1 Fx.2.1 dX10_goes_125 rfl (lv_at hl 6 rfl) ?_
            refine lv_aload_n Fx.1 Fx.2.1 dX10_goes_126 rfl (lv_at hl 3 rfl) ?_
            refine gM_11 (x := (iI (((ho : Nat) : Int)))) Fx X (hho) dX10_goes_127 ?_
            refine k_isub Fx dX10_goes_130 ?_
            refine k_iconst Fx dX10_goes_131 ?_
            refine k_iadd Fx dX10_goes_132 ?_
            refine lv_istore (lv' := [(7, .int (iI (((((y : Nat) : Int) - ((ho : Nat) : Int)) + 1)))), (6, .int (iI ((aMw M q s y mn)))), (5, .int (iI (1))), (4, .int (iI ((aMw M q s y mn)))), (0, .ref (ad 0)), (1, .int (iI (((q : Nat) : Int)))), (2, .int (iI (((s : Nat) : Int)))), (3, .int (iI (((y : Nat) : Int))))]) Fx.1 Fx.2.1 dX10_goes_133 hl (by decide) rfl (fun ls hl => ?_)
            have lp_135 : ∀ (nn : Nat) (c9 : Nat), ho - c9 < nn → (y + 1 - ho + c9 ≤ y) → ∀ (H : Heap) (locs : List Loc) (ls : Array Slot), Wd E Γ A s₀ H locs (wM Γ ad f (updA (updA (updA g 38 (upd (g 38) (1000 * q + y) (iI ((aMw M q s y mn))))) 37 (upd ((updA g 38 (upd (g 38) (1000 * q + y) (iI ((aMw M q s y mn))))) 37) q (iI ((((aRn (spB M mn P pn s ((pf : Nat) : Int)) q y : Nat) : Int) + 1))))) 36 (upd ((updA (updA g 38 (upd (g 38) (1000 * q + y) (iI ((aMw M q s y mn))))) 37 (upd ((updA g 38 (upd (g 38) (1000 * q + y) (iI ((aMw M q s y mn))))) 37) q (iI ((((aRn (spB M mn P pn s ((pf : Nat) : Int)) q y : Nat) : Int) + 1))))) 36) q (iI ((((aMy (spB M mn P pn s ((pf : Nat) : Int)) ho q y : Nat) : Int) + 1)))))) → lv_has ls 9 [(0, .ref (ad 0)), (1, .int (iI (((q : Nat) : Int)))), (2, .int (iI (((s : Nat) : Int)))), (3, .int (iI (((y : Nat) : Int)))), (6, .int (iI (nrA (spF M mn s) q y (y + 1 - ho) c9))), (7, .int (iI (((y + 1 - ho + c9 : Nat) : Int))))] → W p l e rm_X10_goes s₀ m args below meth c H locs (0) (0) (RQ below args s₀ Γ A (fun v w2 => v = none ∧ ∃ f1 g1, w2 = wM Γ ad f1 g1 ∧ SpM (spF M mn s) (spB M mn P pn s ((pf : Nat) : Int)) ho ((pf : Nat) : Int) (t + 1) f1 g1 ∧ (∀ k, k ≠ 39 → k ≠ 40 → f1 k = f k) ∧ (∀ k, k ≠ 36 → k ≠ 37 → k ≠ 38 → g1 k = g k)) rm_X10_goes) (F0 m 135 ls []) := by
              intro nn
              induction nn with
              | zero => intro c9 hmu; exact absurd hmu (Nat.not_lt_zero _)
              | succ nn ih =>
                intro c9 hmu hc H locs ls X hl
                have ih_135 := ih
                refine lv_iload Fx.1 Fx.2.1 dX10_goes_135 (lv_at hl 5 rfl) ?_
                refine lv_iload_n Fx.1 Fx.2.1 dX10_goes_137 rfl (lv_at hl 3 rfl) ?_
                have hnb := nrA_b (spF_b hMB s) q y (y + 1 - ho) c9
                refine k_icmp_ge (a := ((y + 1 - ho + c9 : Nat) : Int)) (b := ((y : Nat) : Int)) (tgt := 199) Fx dX10_goes_138 (by decide) (by omega) (by omega) (fun c_138 => ?_) (fun c_138 => ?_)
                · have hnr : nrA (spF M mn s) q y (y + 1 - ho) c9 = aNr (spF M mn s) ho q y := nr_eq hh.1 (by omega) (by omega)
                  refine lv_iload_n Fx.1 Fx.2.1 dX10_goes_199 rfl (lv_at hl 1 rfl) ?_
                  refine k_if_ne (a := ((q : Nat) : Int)) (tgt := 215) Fx dX10_goes_200 (by decide) (by omega) (fun c_200 => ?_) (fun c_200 => ?_)
                  · refine lv_iload Fx.1 Fx.2.1 dX10_goes_215 (lv_at hl 4 rfl) ?_
                    refine lv_aload_n Fx.1 Fx.2.1 dX10_goes_217 rfl (lv_at hl 0 rfl) ?_
                    refine gM_39 (x := (iI ((aTL (spF M mn s) (spB M mn P pn s ((pf : Nat) : Int)) ho ((pf : Nat) : Int) t).1))) Fx X (hSp.1) dX10_goes_218 ?_
                    refine k_icmp_lt (a := nrA (spF M mn s) q y (y + 1 - ho) c9) (b := (aTL (spF M mn s) (spB M mn P pn s ((pf : Nat) : Int)) ho ((pf : Nat) : Int) t).1) (tgt := 225) Fx dX10_goes_221 (by decide) (by omega) (by omega) (fun c_221 => ?_) (fun c_221 => ?_)
                    · refine lv_aload_n Fx.1 Fx.2.1 dX10_goes_225 rfl (lv_at hl 0 rfl) ?_
                      refine lv_iload Fx.1 Fx.2.1 dX10_goes_226 (lv_at hl 4 rfl) ?_
                      refine pM_39 Fx X dX10_goes_228 (fun H locs X => ?_)
                      refine lv_aload_n Fx.1 Fx.2.1 dX10_goes_231 rfl (lv_at hl 0 rfl) ?_
                      refine lv_iload_n Fx.1 Fx.2.1 dX10_goes_232 rfl (lv_at hl 3 rfl) ?_
                      refine pM_40 Fx X dX10_goes_233 (fun H locs X => ?_)
                      exact r_vret Fx hr hlk X (by decide) dX10_goes_236 (⟨rfl, _, _, rfl, hnr ▸ sp_7 hSp ht hq hy hBy (by omega) (by rw [← hnr]; exact ⟨fun _ => by omega, fun _ => by omega⟩), fun k h1 h2 => (upd_n h2).trans (upd_n h1), fun k h1 h2 h3 => ((updA_n h1).trans (updA_n h2)).trans (updA_n h3)⟩)
                    · exact r_vret Fx hr hlk X (by decide) dX10_goes_224 (⟨rfl, _, _, rfl, sp_6 hSp ht hq hy hBy (by omega) (by rw [← hnr]; exact fun z => absurd (z.2 (by omega)) (by omega)), fun _ _ _ => rfl, fun k h1 h2 h3 => ((updA_n h1).trans (updA_n h2)).trans (updA_n h3)⟩)
                  · refine lv_iload Fx.1 Fx.2.1 dX10_goes_203 (lv_at hl 4 rfl) ?_
                    refine lv_aload_n Fx.1 Fx.2.1 dX10_goes_205 rfl (lv_at hl 0 rfl) ?_
                    refine gM_39 (x := (iI ((aTL (spF M mn s) (spB M mn P pn s ((pf : Nat) : Int)) ho ((pf : Nat) : Int) t).1))) Fx X (hSp.1) dX10_goes_206 ?_
                    refine k_icmp_gt (a := nrA (spF M mn s) q y (y + 1 - ho) c9) (b := (aTL (spF M mn s) (spB M mn P pn s ((pf : Nat) : Int)) ho ((pf : Nat) : Int) t).1) (tgt := 225) Fx dX10_goes_209 (by decide) (by omega) (by omega) (fun c_209 => ?_) (fun c_209 => ?_)
                    · refine lv_aload_n Fx.1 Fx.2.1 dX10_goes_225 rfl (lv_at hl 0 rfl) ?_
                      refine lv_iload Fx.1 Fx.2.1 dX10_goes_226 (lv_at hl 4 rfl) ?_
                      refine pM_39 Fx X dX10_goes_228 (fun H locs X => ?_)
                      refine lv_aload_n Fx.1 Fx.2.1 dX10_goes_231 rfl (lv_at hl 0 rfl) ?_
                      refine lv_iload_n Fx.1 Fx.2.1 dX10_goes_232 rfl (lv_at hl 3 rfl) ?_
                      refine pM_40 Fx X dX10_goes_233 (fun H locs X => ?_)
                      exact r_vret Fx hr hlk X (by decide) dX10_goes_236 (⟨rfl, _, _, rfl, hnr ▸ sp_7 hSp ht hq hy hBy (by omega) (by rw [← hnr]; exact ⟨fun _ => by omega, fun _ => by omega⟩), fun k h1 h2 => (upd_n h2).trans (upd_n h1), fun k h1 h2 h3 => ((updA_n h1).trans (updA_n h2)).trans (updA_n h3)⟩)
                    · refine lv_goto (tgt := 224) Fx.1 Fx.2.1 dX10_goes_212 (by decide) ?_
                      exact r_vret Fx hr hlk X (by decide) dX10_goes_224 (⟨rfl, _, _, rfl, sp_6 hSp ht hq hy hBy (by omega) (by rw [← hnr]; exact fun z => absurd (z.1 (by omega)) (by omega)), fun _ _ _ => rfl, fun k h1 h2 h3 => ((updA_n h1).trans (updA_n h2)).trans (updA_n h3)⟩)
                · refine lv_aload_n Fx.1 Fx.2.1 dX10_goes_141 rfl (lv_at hl 0 rfl) ?_
                  refine gM_38 Fx X dX10_goes_142 ?_
                  refine k_sipush Fx dX10_goes_145 (by decide) ?_
                  refine lv_iload_n Fx.1 Fx.2.1 dX10_goes_148 rfl (lv_at hl 1 rfl) ?_
                  refine k_imul Fx dX10_goes_149 ?_
                  refine lv_iload Fx.1 Fx.2.1 dX10_goes_150 (lv_at hl 5 rfl) ?_
                  refine k_iadd Fx dX10_goes_152 ?_
                  refine ldM_38 (z := ((1000 * ((q : Nat) : Int)) + ((y + 1 - ho + c9 : Nat) : Int))) (i := (1000 * q + (y + 1 - ho + c9))) (x := (iI ((spF M mn s) q (y + 1 - ho + c9)))) Fx X (by omega) (by omega) (hft (y + 1 - ho + c9) (by omega) (by omega)) dX10_goes_153 ?_
                  have hfb2 := spF_b hMB s q (y + 1 - ho + c9)
                  refine lv_istore (lv' := [(8, .int (iI ((spF M mn s) q (y + 1 - ho + c9)))), (0, .ref (ad 0)), (1, .int (iI (((q : Nat) : Int)))), (2, .int (iI (((s : Nat) : Int)))), (3, .int (iI (((y : Nat) : Int)))), (6, .int (iI (nrA (spF M mn s) q y (y + 1 - ho) c9))), (7, .int (iI (((y + 1 - ho + c9 : Nat) : Int))))]) Fx.1 Fx.2.1 dX10_goes_154 hl (by decide) rfl (fun ls hl => ?_)
                  refine lv_iload_n Fx.1 Fx.2.1 dX10_goes_156 rfl (lv_at hl 2 rfl) ?_
                  refine k_if_ne (a := ((q : Nat) : Int)) (tgt := 177) Fx dX10_goes_157 (by decide) (by omega) (fun c_157 => ?_) (fun c_157 => ?_)
                  · refine lv_iload Fx.1 Fx.2.1 dX10_goes_177 (lv_at hl 0 rfl) ?_
                    refine lv_iload Fx.1 Fx.2.1 dX10_goes_179 (lv_at hl 5 rfl) ?_
                    refine k_icmp_le (a := (spF M mn s) q (y + 1 - ho + c9)) (b := nrA (spF M mn s) q y (y + 1 - ho) c9) (tgt := 189) Fx dX10_goes_181 (by decide) (by omega) (by omega) (fun c_181 => ?_) (fun c_181 => ?_)
                    · refine lv_iload Fx.1 Fx.2.1 dX10_goes_189 (lv_at hl 5 rfl) ?_
                      refine lv_istore (lv' := [(6, .int (iI (nrA (spF M mn s) q y (y + 1 - ho) c9))), (8, .int (iI ((spF M mn s) q (y + 1 - ho + c9)))), (0, .ref (ad 0)), (1, .int (iI (((q : Nat) : Int)))), (2, .int (iI (((s : Nat) : Int)))), (3, .int (iI (((y : Nat) : Int)))), (7, .int (iI (((y + 1 - ho + c9 : Nat) : Int))))]) Fx.1 Fx.2.1 dX10_goes_191 hl (by decide) rfl (fun ls hl => ?_)
                      refine k_iinc (k := 6) (a := ((y + 1 - ho + c9 : Nat) : Int)) (lv' := [(7, .int (iI ((((y + 1 - ho + c9 : Nat) : Int) + 1)))), (6, .int (iI (nrA (spF M mn s) q y (y + 1 - ho) c9))), (8, .int (iI ((spF M mn s) q (y + 1 - ho + c9)))), (0, .ref (ad 0)), (1, .int (iI (((q : Nat) : Int)))), (2, .int (iI (((s : Nat) : Int)))), (3, .int (iI (((y : Nat) : Int))))]) Fx dX10_goes_193 hl rfl (by decide) rfl (fun ls hl => ?_)
                      refine lv_goto (tgt := 135) Fx.1 Fx.2.1 dX10_goes_196 (by decide) ?_
                      have hl_1 := lv_rp hl 1 rfl (show (iI (nrA (spF M mn s) q y (y + 1 - ho) c9)) = (iI (nrA (spF M mn s) q y (y + 1 - ho) (c9 + 1))) from congrArg iI (show nrA (spF M mn s) q y (y + 1 - ho) c9 = nrA (spF M mn s) q y (y + 1 - ho) (c9 + 1) from pick_a (by omega)))
                      have hl_2 := lv_rp hl_1 0 rfl (show (iI ((((y + 1 - ho + c9 : Nat) : Int) + 1))) = (iI (((y + 1 - ho + (c9 + 1) : Nat) : Int))) from congrArg iI (by omega))
                      exact ih_135 (c9 + 1) (by omega) (by omega) _ _ _ X (lv_sub hl_2 [3, 4, 5, 6, 1, 0] rfl)
                    · refine lv_iload Fx.1 Fx.2.1 dX10_goes_184 (lv_at hl 0 rfl) ?_
                      refine lv_goto (tgt := 191) Fx.1 Fx.2.1 dX10_goes_186 (by decide) ?_
                      refine lv_istore (lv' := [(6, .int (iI ((spF M mn s) q (y + 1 - ho + c9)))), (8, .int (iI ((spF M mn s) q (y + 1 - ho + c9)))), (0, .ref (ad 0)), (1, .int (iI (((q : Nat) : Int)))), (2, .int (iI (((s : Nat) : Int)))), (3, .int (iI (((y : Nat) : Int)))), (7, .int (iI (((y + 1 - ho + c9 : Nat) : Int))))]) Fx.1 Fx.2.1 dX10_goes_191 hl (by decide) rfl (fun ls hl => ?_)
                      refine k_iinc (k := 6) (a := ((y + 1 - ho + c9 : Nat) : Int)) (lv' := [(7, .int (iI ((((y + 1 - ho + c9 : Nat) : Int) + 1)))), (6, .int (iI ((spF M mn s) q (y + 1 - ho + c9)))), (8, .int (iI ((spF M mn s) q (y + 1 - ho + c9)))), (0, .ref (ad 0)), (1, .int (iI (((q : Nat) : Int)))), (2, .int (iI (((s : Nat) : Int)))), (3, .int (iI (((y : Nat) : Int))))]) Fx dX10_goes_193 hl rfl (by decide) rfl (fun ls hl => ?_)
                      refine lv_goto (tgt := 135) Fx.1 Fx.2.1 dX10_goes_196 (by decide) ?_
                      have hl_3 := lv_rp hl 1 rfl (show (iI ((spF M mn s) q (y + 1 - ho + c9))) = (iI (nrA (spF M mn s) q y (y + 1 - ho) (c9 + 1))) from congrArg iI (show (spF M mn s) q (y + 1 - ho + c9) = nrA (spF M mn s) q y (y + 1 - ho) (c9 + 1) from pick_b (by omega)))
                      have hl_4 := lv_rp hl_3 0 rfl (show (iI ((((y + 1 - ho + c9 : Nat) : Int) + 1))) = (iI (((y + 1 - ho + (c9 + 1) : Nat) : Int))) from congrArg iI (by omega))
                      exact ih_135 (c9 + 1) (by omega) (by omega) _ _ _ X (lv_sub hl_4 [3, 4, 5, 6, 1, 0] rfl)
                  · refine lv_iload Fx.1 Fx.2.1 dX10_goes_160 (lv_at hl 0 rfl) ?_
                    refine lv_iload Fx.1 Fx.2.1 dX10_goes_162 (lv_at hl 5 rfl) ?_
                    refine k_icmp_ge (a := (spF M mn s) q (y + 1 - ho + c9)) (b := nrA (spF M mn s) q y (y + 1 - ho) c9) (tgt := 172) Fx dX10_goes_164 (by decide) (by omega) (by omega) (fun c_164 => ?_) (fun c_164 => ?_)
                    · refine lv_iload Fx.1 Fx.2.1 dX10_goes_172 (lv_at hl 5 rfl) ?_
                      refine lv_goto (tgt := 191) Fx.1 Fx.2.1 dX10_goes_174 (by decide) ?_
                      refine lv_istore (lv' := [(6, .int (iI (nrA (spF M mn s) q y (y + 1 - ho) c9))), (8, .int (iI ((spF M mn s) q (y + 1 - ho + c9)))), (0, .ref (ad 0)), (1, .int (iI (((q : Nat) : Int)))), (2, .int (iI (((s : Nat) : Int)))), (3, .int (iI (((y : Nat) : Int)))), (7, .int (iI (((y + 1 - ho + c9 : Nat) : Int))))]) Fx.1 Fx.2.1 dX10_goes_191 hl (by decide) rfl (fun ls hl => ?_)
                      refine k_iinc (k := 6) (a := ((y + 1 - ho + c9 : Nat) : Int)) (lv' := [(7, .int (iI ((((y + 1 - ho + c9 : Nat) : Int) + 1)))), (6, .int (iI (nrA (spF M mn s) q y (y + 1 - ho) c9))), (8, .int (iI ((spF M mn s) q (y + 1 - ho + c9)))), (0, .ref (ad 0)), (1, .int (iI (((q : Nat) : Int)))), (2, .int (iI (((s : Nat) : Int)))), (3, .int (iI (((y : Nat) : Int))))]) Fx dX10_goes_193 hl rfl (by decide) rfl (fun ls hl => ?_)
                      refine lv_goto (tgt := 135) Fx.1 Fx.2.1 dX10_goes_196 (by decide) ?_
                      have hl_5 := lv_rp hl 1 rfl (show (iI (nrA (spF M mn s) q y (y + 1 - ho) c9)) = (iI (nrA (spF M mn s) q y (y + 1 - ho) (c9 + 1))) from congrArg iI (show nrA (spF M mn s) q y (y + 1 - ho) c9 = nrA (spF M mn s) q y (y + 1 - ho) (c9 + 1) from pick_a (by omega)))
                      have hl_6 := lv_rp hl_5 0 rfl (show (iI ((((y + 1 - ho + c9 : Nat) : Int) + 1))) = (iI (((y + 1 - ho + (c9 + 1) : Nat) : Int))) from congrArg iI (by omega))
                      exact ih_135 (c9 + 1) (by omega) (by omega) _ _ _ X (lv_sub hl_6 [3, 4, 5, 6, 1, 0] rfl)
                    · refine lv_iload Fx.1 Fx.2.1 dX10_goes_167 (lv_at hl 0 rfl) ?_
                      refine lv_goto (tgt := 191) Fx.1 Fx.2.1 dX10_goes_169 (by decide) ?_
                      refine lv_istore (lv' := [(6, .int (iI ((spF M mn s) q (y + 1 - ho + c9)))), (8, .int (iI ((spF M mn s) q (y + 1 - ho + c9)))), (0, .ref (ad 0)), (1, .int (iI (((q : Nat) : Int)))), (2, .int (iI (((s : Nat) : Int)))), (3, .int (iI (((y : Nat) : Int)))), (7, .int (iI (((y + 1 - ho + c9 : Nat) : Int))))]) Fx.1 Fx.2.1 dX10_goes_191 hl (by decide) rfl (fun ls hl => ?_)
                      refine k_iinc (k := 6) (a := ((y + 1 - ho + c9 : Nat) : Int)) (lv' := [(7, .int (iI ((((y + 1 - ho + c9 : Nat) : Int) + 1)))), (6, .int (iI ((spF M mn s) q (y + 1 - ho + c9)))), (8, .int (iI ((spF M mn s) q (y + 1 - ho + c9)))), (0, .ref (ad 0)), (1, .int (iI (((q : Nat) : Int)))), (2, .int (iI (((s : Nat) : Int)))), (3, .int (iI (((y : Nat) : Int))))]) Fx dX10_goes_193 hl rfl (by decide) rfl (fun ls hl => ?_)
                      refine lv_goto (tgt := 135) Fx.1 Fx.2.1 dX10_goes_196 (by decide) ?_
                      have hl_7 := lv_rp hl 1 rfl (show (iI ((spF M mn s) q (y + 1 - ho + c9))) = (iI (nrA (spF M mn s) q y (y + 1 - ho) (c9 + 1))) from congrArg iI (show (spF M mn s) q (y + 1 - ho + c9) = nrA (spF M mn s) q y (y + 1 - ho) (c9 + 1) from pick_b (by omega)))
                      have hl_8 := lv_rp hl_7 0 rfl (show (iI ((((y + 1 - ho + c9 : Nat) : Int) + 1))) = (iI (((y + 1 - ho + (c9 + 1) : Nat) : Int))) from congrArg iI (by omega))
                      exact ih_135 (c9 + 1) (by omega) (by omega) _ _ _ X (lv_sub hl_8 [3, 4, 5, 6, 1, 0] rfl)
            have hl_9 := lv_rp hl 1 rfl (show (iI ((aMw M q s y mn))) = (iI (nrA (spF M mn s) q y (y + 1 - ho) 0)) from rfl)
            have hl_10 := lv_rp hl_9 0 rfl (show (iI (((((y : Nat) : Int) - ((ho : Nat) : Int)) + 1))) = (iI (((y + 1 - ho + 0 : Nat) : Int))) from congrArg iI (by omega))
            exact lp_135 _ (0) (Nat.lt_succ_self _) (by omega) _ _ _ X (lv_sub hl_10 [4, 5, 6, 7, 1, 0] rfl)
          · exact r_vret Fx hr hlk X (by decide) dX10_goes_110 (⟨rfl, _, _, rfl, sp_5 hSp ht hq hy hBy (by omega), fun _ _ _ => rfl, fun k h1 h2 h3 => (updA_n h2).trans (updA_n h3)⟩)
        · refine lv_aload_n Fx.1 Fx.2.1 dX10_goes_65 rfl (lv_at hl 2 rfl) ?_
          refine gM_37 Fx X dX10_goes_66 ?_
          refine lv_iload_n Fx.1 Fx.2.1 dX10_goes_69 rfl (lv_at hl 3 rfl) ?_
          refine k_iconst Fx dX10_goes_70 ?_
          refine stM_37 (z := ((q : Nat) : Int)) (i := q) Fx X (rfl) (by omega) dX10_goes_71 (fun H locs X => ?_)
          exact r_vret Fx hr hlk X (by decide) dX10_goes_72 (⟨rfl, _, _, rfl, sp_0 hSp ht hq hh.1 (fun z => z.2 c_62), fun _ _ _ => rfl, fun k h1 h2 h3 => updA_n h2⟩)
    · refine lv_iload Fx.1 Fx.2.1 dX10_goes_19 (lv_at hl 0 rfl) ?_
      refine lv_aload_n Fx.1 Fx.2.1 dX10_goes_21 rfl (lv_at hl 1 rfl) ?_
      refine gM_28 Fx X dX10_goes_22 ?_
      refine lv_iload_n Fx.1 Fx.2.1 dX10_goes_25 rfl (lv_at hl 3 rfl) ?_
      refine ldM_28 (z := ((s : Nat) : Int)) (i := s) (x := (iI (((pf : Nat) : Int)))) Fx X (rfl) (by omega) (hpp) dX10_goes_26 ?_
      refine k_icmp_le (a := (aMw M q s y mn)) (b := ((pf : Nat) : Int)) (tgt := 48) Fx dX10_goes_27 (by decide) (by omega) (by omega) (fun c_27 => ?_) (fun c_27 => ?_)
      · refine k_iconst Fx dX10_goes_48 ?_
        refine lv_istore (lv' := [(5, .int (iI (0))), (4, .int (iI ((aMw M q s y mn)))), (0, .ref (ad 0)), (1, .int (iI (((q : Nat) : Int)))), (2, .int (iI (((s : Nat) : Int)))), (3, .int (iI (((y : Nat) : Int))))]) Fx.1 Fx.2.1 dX10_goes_49 hl (by decide) rfl (fun ls hl => ?_)
        refine lv_iload Fx.1 Fx.2.1 dX10_goes_51 (lv_at hl 0 rfl) ?_
        refine k_if_eq (a := 0) (tgt := 65) Fx dX10_goes_53 (by decide) (by omega) (fun c_53 => ?_) (fun c_53 => ?_)
        rotate_left
        · exact absurd c_53 (by omega)
        refine lv_aload_n Fx.1 Fx.2.1 dX10_goes_65 rfl (lv_at hl 2 rfl) ?_
        refine gM_37 Fx X dX10_goes_66 ?_
        refine lv_iload_n Fx.1 Fx.2.1 dX10_goes_69 rfl (lv_at hl 3 rfl) ?_
        refine k_iconst Fx dX10_goes_70 ?_
        refine stM_37 (z := ((q : Nat) : Int)) (i := q) Fx X (rfl) (by omega) dX10_goes_71 (fun H locs X => ?_)
        exact r_vret Fx hr hlk X (by decide) dX10_goes_72 (⟨rfl, _, _, rfl, sp_0 hSp ht hq hh.1 (fun z => absurd (z.1.2.1 (by omega)) (by unfold spF at *; omega)), fun _ _ _ => rfl, fun k h1 h2 h3 => updA_n h2⟩)
      · refine lv_goto (tgt := 44) Fx.1 Fx.2.1 dX10_goes_30 (by decide) ?_
        refine k_iconst Fx dX10_goes_44 ?_
        refine lv_goto (tgt := 49) Fx.1 Fx.2.1 dX10_goes_45 (by decide) ?_
        refine lv_istore (lv' := [(5, .int (iI (1))), (4, .int (iI ((aMw M q s y mn)))), (0, .ref (ad 0)), (1, .int (iI (((q : Nat) : Int)))), (2, .int (iI (((s : Nat) : Int)))), (3, .int (iI (((y : Nat) : Int))))]) Fx.1 Fx.2.1 dX10_goes_49 hl (by decide) rfl (fun ls hl => ?_)
        refine lv_iload Fx.1 Fx.2.1 dX10_goes_51 (lv_at hl 0 rfl) ?_
        refine k_if_eq (a := 1) (tgt := 65) Fx dX10_goes_53 (by decide) (by omega) (fun c_53 => ?_) (fun c_53 => ?_)
        · exact absurd c_53 (by omega)
        refine lv_aload_n Fx.1 Fx.2.1 dX10_goes_56 rfl (lv_at hl 2 rfl) ?_
        refine lv_iload_n Fx.1 Fx.2.1 dX10_goes_57 rfl (lv_at hl 4 rfl) ?_
        refine lv_iload_n Fx.1 Fx.2.1 dX10_goes_58 rfl (lv_at hl 5 rfl) ?_
        refine r_callVi (As := [.int (iI (((s : Nat) : Int))), .int (iI (((y : Nat) : Int)))]) (rest := []) hE Fx X (c_X10_isProtested hE l hP hPB (s := s) (y := y) (by omega) (by omega)) cV_X10_221 (recM X) rfl rfl (Nat.le_of_ble_eq_true rfl) (by decide) hl.1 dX10_goes_59 (fun H locs X => ?_)
        refine k_bif_eq (tgt := 73) Fx dX10_goes_62 (by decide) (fun c_62 => ?_) (fun c_62 => ?_)
        · have hBy : (spB M mn P pn s ((pf : Nat) : Int)) q y := ⟨⟨c_12, fun _ => by omega, fun _ => by omega⟩, c_62⟩
          have hrn := sp_rn hSp ht hq
          have hft := sp_ft hSp ht hq hy hBy
          have hrl := rn_le (spB M mn P pn s ((pf : Nat) : Int)) q y
          have hml := my_le (spB M mn P pn s ((pf : Nat) : Int)) ho q y
          have htb := tl_b (B := (spB M mn P pn s ((pf : Nat) : Int))) (ho := ho) (pf := ((pf : Nat) : Int)) (spF_b hMB s) (by omega) t
          refine lv_aload_n Fx.1 Fx.2.1 dX10_goes_73 rfl (lv_at hl 2 rfl) ?_
          refine gM_38 Fx X dX10_goes_74 ?_
          refine k_sipush Fx dX10_goes_77 (by decide) ?_
          refine lv_iload_n Fx.1 Fx.2.1 dX10_goes_80 rfl (lv_at hl 3 rfl) ?_
          refine k_imul Fx dX10_goes_81 ?_
          refine lv_iload_n Fx.1 Fx.2.1 dX10_goes_82 rfl (lv_at hl 5 rfl) ?_
          refine k_iadd Fx dX10_goes_83 ?_
          refine lv_iload Fx.1 Fx.2.1 dX10_goes_84 (lv_at hl 1 rfl) ?_
          refine stM_38 (z := ((1000 * ((q : Nat) : Int)) + ((y : Nat) : Int))) (i := (1000 * q + y)) Fx X (by omega) (by omega) dX10_goes_86 (fun H locs X => ?_)
          refine lv_aload_n Fx.1 Fx.2.1 dX10_goes_87 rfl (lv_at hl 2 rfl) ?_
          refine gM_37 Fx X dX10_goes_88 ?_
          refine lv_iload_n Fx.1 Fx.2.1 dX10_goes_91 rfl (lv_at hl 3 rfl) ?_
          refine lv_dup2_11 Fx.1 Fx.2.1 dX10_goes_92 rfl rfl ?_
          refine ldM_37 (z := ((q : Nat) : Int)) (i := q) (x := (iI (((aRn (spB M mn P pn s ((pf : Nat) : Int)) q y : Nat) : Int)))) Fx X (rfl) (by omega) (hrn.1) dX10_goes_93 ?_
          refine k_iconst Fx dX10_goes_94 ?_
          refine k_iadd Fx dX10_goes_95 ?_
          refine stM_37 (z := ((q : Nat) : Int)) (i := q) Fx X (rfl) (by omega) dX10_goes_96 (fun H locs X => ?_)
          refine lv_aload_n Fx.1 Fx.2.1 dX10_goes_97 rfl (lv_at hl 2 rfl) ?_
          refine gM_37 Fx X dX10_goes_98 ?_
          refine lv_iload_n Fx.1 Fx.2.1 dX10_goes_101 rfl (lv_at hl 3 rfl) ?_
          refine ldM_37 (z := ((q : Nat) : Int)) (i := q) (x := (iI ((((aRn (spB M mn P pn s ((pf : Nat) : Int)) q y : Nat) : Int) + 1)))) Fx X (rfl) (by omega) (by rw [updA_s, upd_s]) dX10_goes_102 ?_
          refine lv_aload_n Fx.1 Fx.2.1 dX10_goes_103 rfl (lv_at hl 2 rfl) ?_
          refine gM_11 (x := (iI (((ho : Nat) : Int)))) Fx X (hho) dX10_goes_104 ?_
          refine k_icmp_ge (a := (((aRn (spB M mn P pn s ((pf : Nat) : Int)) q y : Nat) : Int) + 1)) (b := ((ho : Nat) : Int)) (tgt := 111) Fx dX10_goes_107 (by decide) (by omega) (by omega) (fun c_107 => ?_) (fun c_107 => ?_)
          · refine lv_aload_n Fx.1 Fx.2.1 dX10_goes_111 rfl (lv_at hl 2 rfl) ?_
            refine gM_36 Fx X dX10_goes_112 ?_
            refine lv_iload_n Fx.1 Fx.2.1 dX10_goes_115 rfl (lv_at hl 3 rfl) ?_
            refine lv_dup2_11 Fx.1 Fx.2.1 dX10_goes_116 rfl rfl ?_
            refine ldM_36 (z := ((q : Nat) : Int)) (i := q) (x := (iI (((aMy (spB M mn P pn s ((pf : Nat) : Int)) ho q y : Nat) : Int)))) Fx X (rfl) (by omega) (hrn.2) dX10_goes_117 ?_
            refine k_iconst Fx dX10_goes_118 ?_
            refine k_iadd Fx dX10_goes_119 ?_
            refine stM_36 (z := ((q : Nat) : Int)) (i := q) Fx X (rfl) (by omega) dX10_goes_120 (fun H locs X => ?_)
            refine lv_iload Fx.1 Fx.2.1 dX10_goes_121 (lv_at hl 1 rfl) ?_
            refine lv_istore (lv' := [(6, .int (iI ((aMw M q s y mn)))), (5, .int (iI (1))), (4, .int (iI ((aMw M q s y mn)))), (0, .ref (ad 0)), (1, .int (iI (((q : Nat) : Int)))), (2, .int (iI (((s : Nat) : Int)))), (3, .int (iI (((y : Nat) : Int))))]) Fx.1 Fx.2.1 dX10_goes_123 hl (by decide) rfl (fun ls hl => ?_)
            refine lv_iload_n Fx.1 Fx.2.1 dX10_goes_125 rfl (lv_at hl 6 rfl) ?_
            refine lv_aload_n Fx.1 Fx.2.1 dX10_goes_126 rfl (lv_at hl 3 rfl) ?_
            refine gM_11 (x := (iI (((ho : Nat) : Int)))) Fx X (hho) dX10_goes_127 ?_
            refine k_isub Fx dX10_goes_130 ?_
            refine k_iconst Fx dX10_goes_131 ?_
            refine k_iadd Fx dX10_goes_132 ?_
            refine lv_istore (lv' := [(7, .int (iI (((((y : Nat) : Int) - ((ho : Nat) : Int)) + 1)))), (6, .int (iI ((aMw M q s y mn)))), (5, .int (iI (1))), (4, .int (iI ((aMw M q s y mn)))), (0, .ref (ad 0)), (1, .int (iI (((q : Nat) : Int)))), (2, .int (iI (((s : Nat) : Int)))), (3, .int (iI (((y : Nat) : Int))))]) Fx.1 Fx.2.1 dX10_goes_133 hl (by decide) rfl (fun ls hl => ?_)
            have lp_135 : ∀ (nn : Nat) (c9 : Nat), ho - c9 < nn → (y + 1 - ho + c9 ≤ y) → ∀ (H : Heap) (locs : List Loc) (ls : Array Slot), Wd E Γ A s₀ H locs (wM Γ ad f (updA (updA (updA g 38 (upd (g 38) (1000 * q + y) (iI ((aMw M q s y mn))))) 37 (upd ((updA g 38 (upd (g 38) (1000 * q + y) (iI ((aMw M q s y mn))))) 37) q (iI ((((aRn (spB M mn P pn s ((pf : Nat) : Int)) q y : Nat) : Int) + 1))))) 36 (upd ((updA (updA g 38 (upd (g 38) (1000 * q + y) (iI ((aMw M q s y mn))))) 37 (upd ((updA g 38 (upd (g 38) (1000 * q + y) (iI ((aMw M q s y mn))))) 37) q (iI ((((aRn (spB M mn P pn s ((pf : Nat) : Int)) q y : Nat) : Int) + 1))))) 36) q (iI ((((aMy (spB M mn P pn s ((pf : Nat) : Int)) ho q y : Nat) : Int) + 1)))))) → lv_has ls 9 [(0, .ref (ad 0)), (1, .int (iI (((q : Nat) : Int)))), (2, .int (iI (((s : Nat) : Int)))), (3, .int (iI (((y : Nat) : Int)))), (6, .int (iI (nrA (spF M mn s) q y (y + 1 - ho) c9))), (7, .int (iI (((y + 1 - ho + c9 : Nat) : Int))))] → W p l e rm_X10_goes s₀ m args below meth c H locs (0) (0) (RQ below args s₀ Γ A (fun v w2 => v = none ∧ ∃ f1 g1, w2 = wM Γ ad f1 g1 ∧ SpM (spF M mn s) (spB M mn P pn s ((pf : Nat) : Int)) ho ((pf : Nat) : Int) (t + 1) f1 g1 ∧ (∀ k, k ≠ 39 → k ≠ 40 → f1 k = f k) ∧ (∀ k, k ≠ 36 → k ≠ 37 → k ≠ 38 → g1 k = g k)) rm_X10_goes) (F0 m 135 ls []) := by
              intro nn
              induction nn with
              | zero => intro c9 hmu; exact absurd hmu (Nat.not_lt_zero _)
              | succ nn ih =>
                intro c9 hmu hc H locs ls X hl
                have ih_135 := ih
                refine lv_iload Fx.1 Fx.2.1 dX10_goes_135 (lv_at hl 5 rfl) ?_
                refine lv_iload_n Fx.1 Fx.2.1 dX10_goes_137 rfl (lv_at hl 3 rfl) ?_
                have hnb := nrA_b (spF_b hMB s) q y (y + 1 - ho) c9
                refine k_icmp_ge (a := ((y + 1 - ho + c9 : Nat) : Int)) (b := ((y : Nat) : Int)) (tgt := 199) Fx dX10_goes_138 (by decide) (by omega) (by omega) (fun c_138 => ?_) (fun c_138 => ?_)
                · have hnr : nrA (spF M mn s) q y (y + 1 - ho) c9 = aNr (spF M mn s) ho q y := nr_eq hh.1 (by omega) (by omega)
                  refine lv_iload_n Fx.1 Fx.2.1 dX10_goes_199 rfl (lv_at hl 1 rfl) ?_
                  refine k_if_ne (a := ((q : Nat) : Int)) (tgt := 215) Fx dX10_goes_200 (by decide) (by omega) (fun c_200 => ?_) (fun c_200 => ?_)
                  · refine lv_iload Fx.1 Fx.2.1 dX10_goes_215 (lv_at hl 4 rfl) ?_
                    refine lv_aload_n Fx.1 Fx.2.1 dX10_goes_217 rfl (lv_at hl 0 rfl) ?_
                    refine gM_39 (x := (iI ((aTL (spF M mn s) (spB M mn P pn s ((pf : Nat) : Int)) ho ((pf : Nat) : Int) t).1))) Fx X (hSp.1) dX10_goes_218 ?_
                    refine k_icmp_lt (a := nrA (spF M mn s) q y (y + 1 - ho) c9) (b := (aTL (spF M mn s) (spB M mn P pn s ((pf : Nat) : Int)) ho ((pf : Nat) : Int) t).1) (tgt := 225) Fx dX10_goes_221 (by decide) (by omega) (by omega) (fun c_221 => ?_) (fun c_221 => ?_)
                    · refine lv_aload_n Fx.1 Fx.2.1 dX10_goes_225 rfl (lv_at hl 0 rfl) ?_
                      refine lv_iload Fx.1 Fx.2.1 dX10_goes_226 (lv_at hl 4 rfl) ?_
                      refine pM_39 Fx X dX10_goes_228 (fun H locs X => ?_)
                      refine lv_aload_n Fx.1 Fx.2.1 dX10_goes_231 rfl (lv_at hl 0 rfl) ?_
                      refine lv_iload_n Fx.1 Fx.2.1 dX10_goes_232 rfl (lv_at hl 3 rfl) ?_
                      refine pM_40 Fx X dX10_goes_233 (fun H locs X => ?_)
                      exact r_vret Fx hr hlk X (by decide) dX10_goes_236 (⟨rfl, _, _, rfl, hnr ▸ sp_7 hSp ht hq hy hBy (by omega) (by rw [← hnr]; exact ⟨fun _ => by omega, fun _ => by omega⟩), fun k h1 h2 => (upd_n h2).trans (upd_n h1), fun k h1 h2 h3 => ((updA_n h1).trans (updA_n h2)).trans (updA_n h3)⟩)
                    · exact r_vret Fx hr hlk X (by decide) dX10_goes_224 (⟨rfl, _, _, rfl, sp_6 hSp ht hq hy hBy (by omega) (by rw [← hnr]; exact fun z => absurd (z.2 (by omega)) (by omega)), fun _ _ _ => rfl, fun k h1 h2 h3 => ((updA_n h1).trans (updA_n h2)).trans (updA_n h3)⟩)
                  · refine lv_iload Fx.1 Fx.2.1 dX10_goes_203 (lv_at hl 4 rfl) ?_
                    refine lv_aload_n Fx.1 Fx.2.1 dX10_goes_205 rfl (lv_at hl 0 rfl) ?_
                    refine gM_39 (x := (iI ((aTL (spF M mn s) (spB M mn P pn s ((pf : Nat) : Int)) ho ((pf : Nat) : Int) t).1))) Fx X (hSp.1) dX10_goes_206 ?_
                    refine k_icmp_gt (a := nrA (spF M mn s) q y (y + 1 - ho) c9) (b := (aTL (spF M mn s) (spB M mn P pn s ((pf : Nat) : Int)) ho ((pf : Nat) : Int) t).1) (tgt := 225) Fx dX10_goes_209 (by decide) (by omega) (by omega) (fun c_209 => ?_) (fun c_209 => ?_)
                    · refine lv_aload_n Fx.1 Fx.2.1 dX10_goes_225 rfl (lv_at hl 0 rfl) ?_
                      refine lv_iload Fx.1 Fx.2.1 dX10_goes_226 (lv_at hl 4 rfl) ?_
                      refine pM_39 Fx X dX10_goes_228 (fun H locs X => ?_)
                      refine lv_aload_n Fx.1 Fx.2.1 dX10_goes_231 rfl (lv_at hl 0 rfl) ?_
                      refine lv_iload_n Fx.1 Fx.2.1 dX10_goes_232 rfl (lv_at hl 3 rfl) ?_
                      refine pM_40 Fx X dX10_goes_233 (fun H locs X => ?_)
                      exact r_vret Fx hr hlk X (by decide) dX10_goes_236 (⟨rfl, _, _, rfl, hnr ▸ sp_7 hSp ht hq hy hBy (by omega) (by rw [← hnr]; exact ⟨fun _ => by omega, fun _ => by omega⟩), fun k h1 h2 => (upd_n h2).trans (upd_n h1), fun k h1 h2 h3 => ((updA_n h1).trans (updA_n h2)).trans (updA_n h3)⟩)
                    · refine lv_goto (tgt := 224) Fx.1 Fx.2.1 dX10_goes_212 (by decide) ?_
                      exact r_vret Fx hr hlk X (by decide) dX10_goes_224 (⟨rfl, _, _, rfl, sp_6 hSp ht hq hy hBy (by omega) (by rw [← hnr]; exact fun z => absurd (z.1 (by omega)) (by omega)), fun _ _ _ => rfl, fun k h1 h2 h3 => ((updA_n h1).trans (updA_n h2)).trans (updA_n h3)⟩)
                · refine lv_aload_n Fx.1 Fx.2.1 dX10_goes_141 rfl (lv_at hl 0 rfl) ?_
                  refine gM_38 Fx X dX10_goes_142 ?_
                  refine k_sipush Fx dX10_goes_145 (by decide) ?_
                  refine lv_iload_n Fx.1 Fx.2.1 dX10_goes_148 rfl (lv_at hl 1 rfl) ?_
                  refine k_imul Fx dX10_goes_149 ?_
                  refine lv_iload Fx.1 Fx.2.1 dX10_goes_150 (lv_at hl 5 rfl) ?_
                  refine k_iadd Fx dX10_goes_152 ?_
                  refine ldM_38 (z := ((1000 * ((q : Nat) : Int)) + ((y + 1 - ho + c9 : Nat) : Int))) (i := (1000 * q + (y + 1 - ho + c9))) (x := (iI ((spF M mn s) q (y + 1 - ho + c9)))) Fx X (by omega) (by omega) (hft (y + 1 - ho + c9) (by omega) (by omega)) dX10_goes_153 ?_
                  have hfb2 := spF_b hMB s q (y + 1 - ho + c9)
                  refine lv_istore (lv' := [(8, .int (iI ((spF M mn s) q (y + 1 - ho + c9)))), (0, .ref (ad 0)), (1, .int (iI (((q : Nat) : Int)))), (2, .int (iI (((s : Nat) : Int)))), (3, .int (iI (((y : Nat) : Int)))), (6, .int (iI (nrA (spF M mn s) q y (y + 1 - ho) c9))), (7, .int (iI (((y + 1 - ho + c9 : Nat) : Int))))]) Fx.1 Fx.2.1 dX10_goes_154 hl (by decide) rfl (fun ls hl => ?_)
                  refine lv_iload_n Fx.1 Fx.2.1 dX10_goes_156 rfl (lv_at hl 2 rfl) ?_
                  refine k_if_ne (a := ((q : Nat) : Int)) (tgt := 177) Fx dX10_goes_157 (by decide) (by omega) (fun c_157 => ?_) (fun c_157 => ?_)
                  · refine lv_iload Fx.1 Fx.2.1 dX10_goes_177 (lv_at hl 0 rfl) ?_
                    refine lv_iload Fx.1 Fx.2.1 dX10_goes_179 (lv_at hl 5 rfl) ?_
                    refine k_icmp_le (a := (spF M mn s) q (y + 1 - ho + c9)) (b := nrA (spF M mn s) q y (y + 1 - ho) c9) (tgt := 189) Fx dX10_goes_181 (by decide) (by omega) (by omega) (fun c_181 => ?_) (fun c_181 => ?_)
                    · refine lv_iload Fx.1 Fx.2.1 dX10_goes_189 (lv_at hl 5 rfl) ?_
                      refine lv_istore (lv' := [(6, .int (iI (nrA (spF M mn s) q y (y + 1 - ho) c9))), (8, .int (iI ((spF M mn s) q (y + 1 - ho + c9)))), (0, .ref (ad 0)), (1, .int (iI (((q : Nat) : Int)))), (2, .int (iI (((s : Nat) : Int)))), (3, .int (iI (((y : Nat) : Int)))), (7, .int (iI (((y + 1 - ho + c9 : Nat) : Int))))]) Fx.1 Fx.2.1 dX10_goes_191 hl (by decide) rfl (fun ls hl => ?_)
                      refine k_iinc (k := 6) (a := ((y + 1 - ho + c9 : Nat) : Int)) (lv' := [(7, .int (iI ((((y + 1 - ho + c9 : Nat) : Int) + 1)))), (6, .int (iI (nrA (spF M mn s) q y (y + 1 - ho) c9))), (8, .int (iI ((spF M mn s) q (y + 1 - ho + c9)))), (0, .ref (ad 0)), (1, .int (iI (((q : Nat) : Int)))), (2, .int (iI (((s : Nat) : Int)))), (3, .int (iI (((y : Nat) : Int))))]) Fx dX10_goes_193 hl rfl (by decide) rfl (fun ls hl => ?_)
                      refine lv_goto (tgt := 135) Fx.1 Fx.2.1 dX10_goes_196 (by decide) ?_
                      have hl_11 := lv_rp hl 1 rfl (show (iI (nrA (spF M mn s) q y (y + 1 - ho) c9)) = (iI (nrA (spF M mn s) q y (y + 1 - ho) (c9 + 1))) from congrArg iI (show nrA (spF M mn s) q y (y + 1 - ho) c9 = nrA (spF M mn s) q y (y + 1 - ho) (c9 + 1) from pick_a (by omega)))
                      have hl_12 := lv_rp hl_11 0 rfl (show (iI ((((y + 1 - ho + c9 : Nat) : Int) + 1))) = (iI (((y + 1 - ho + (c9 + 1) : Nat) : Int))) from congrArg iI (by omega))
                      exact ih_135 (c9 + 1) (by omega) (by omega) _ _ _ X (lv_sub hl_12 [3, 4, 5, 6, 1, 0] rfl)
                    · refine lv_iload Fx.1 Fx.2.1 dX10_goes_184 (lv_at hl 0 rfl) ?_
                      refine lv_goto (tgt := 191) Fx.1 Fx.2.1 dX10_goes_186 (by decide) ?_
                      refine lv_istore (lv' := [(6, .int (iI ((spF M mn s) q (y + 1 - ho + c9)))), (8, .int (iI ((spF M mn s) q (y + 1 - ho + c9)))), (0, .ref (ad 0)), (1, .int (iI (((q : Nat) : Int)))), (2, .int (iI (((s : Nat) : Int)))), (3, .int (iI (((y : Nat) : Int)))), (7, .int (iI (((y + 1 - ho + c9 : Nat) : Int))))]) Fx.1 Fx.2.1 dX10_goes_191 hl (by decide) rfl (fun ls hl => ?_)
                      refine k_iinc (k := 6) (a := ((y + 1 - ho + c9 : Nat) : Int)) (lv' := [(7, .int (iI ((((y + 1 - ho + c9 : Nat) : Int) + 1)))), (6, .int (iI ((spF M mn s) q (y + 1 - ho + c9)))), (8, .int (iI ((spF M mn s) q (y + 1 - ho + c9)))), (0, .ref (ad 0)), (1, .int (iI (((q : Nat) : Int)))), (2, .int (iI (((s : Nat) : Int)))), (3, .int (iI (((y : Nat) : Int))))]) Fx dX10_goes_193 hl rfl (by decide) rfl (fun ls hl => ?_)
                      refine lv_goto (tgt := 135) Fx.1 Fx.2.1 dX10_goes_196 (by decide) ?_
                      have hl_13 := lv_rp hl 1 rfl (show (iI ((spF M mn s) q (y + 1 - ho + c9))) = (iI (nrA (spF M mn s) q y (y + 1 - ho) (c9 + 1))) from congrArg iI (show (spF M mn s) q (y + 1 - ho + c9) = nrA (spF M mn s) q y (y + 1 - ho) (c9 + 1) from pick_b (by omega)))
                      have hl_14 := lv_rp hl_13 0 rfl (show (iI ((((y + 1 - ho + c9 : Nat) : Int) + 1))) = (iI (((y + 1 - ho + (c9 + 1) : Nat) : Int))) from congrArg iI (by omega))
                      exact ih_135 (c9 + 1) (by omega) (by omega) _ _ _ X (lv_sub hl_14 [3, 4, 5, 6, 1, 0] rfl)
                  · refine lv_iload Fx.1 Fx.2.1 dX10_goes_160 (lv_at hl 0 rfl) ?_
                    refine lv_iload Fx.1 Fx.2.1 dX10_goes_162 (lv_at hl 5 rfl) ?_
                    refine k_icmp_ge (a := (spF M mn s) q (y + 1 - ho + c9)) (b := nrA (spF M mn s) q y (y + 1 - ho) c9) (tgt := 172) Fx dX10_goes_164 (by decide) (by omega) (by omega) (fun c_164 => ?_) (fun c_164 => ?_)
                    · refine lv_iload Fx.1 Fx.2.1 dX10_goes_172 (lv_at hl 5 rfl) ?_
                      refine lv_goto (tgt := 191) Fx.1 Fx.2.1 dX10_goes_174 (by decide) ?_
                      refine lv_istore (lv' := [(6, .int (iI (nrA (spF M mn s) q y (y + 1 - ho) c9))), (8, .int (iI ((spF M mn s) q (y + 1 - ho + c9)))), (0, .ref (ad 0)), (1, .int (iI (((q : Nat) : Int)))), (2, .int (iI (((s : Nat) : Int)))), (3, .int (iI (((y : Nat) : Int)))), (7, .int (iI (((y + 1 - ho + c9 : Nat) : Int))))]) Fx.1 Fx.2.1 dX10_goes_191 hl (by decide) rfl (fun ls hl => ?_)
                      refine k_iinc (k := 6) (a := ((y + 1 - ho + c9 : Nat) : Int)) (lv' := [(7, .int (iI ((((y + 1 - ho + c9 : Nat) : Int) + 1)))), (6, .int (iI (nrA (spF M mn s) q y (y + 1 - ho) c9))), (8, .int (iI ((spF M mn s) q (y + 1 - ho + c9)))), (0, .ref (ad 0)), (1, .int (iI (((q : Nat) : Int)))), (2, .int (iI (((s : Nat) : Int)))), (3, .int (iI (((y : Nat) : Int))))]) Fx dX10_goes_193 hl rfl (by decide) rfl (fun ls hl => ?_)
                      refine lv_goto (tgt := 135) Fx.1 Fx.2.1 dX10_goes_196 (by decide) ?_
                      have hl_15 := lv_rp hl 1 rfl (show (iI (nrA (spF M mn s) q y (y + 1 - ho) c9)) = (iI (nrA (spF M mn s) q y (y + 1 - ho) (c9 + 1))) from congrArg iI (show nrA (spF M mn s) q y (y + 1 - ho) c9 = nrA (spF M mn s) q y (y + 1 - ho) (c9 + 1) from pick_a (by omega)))
                      have hl_16 := lv_rp hl_15 0 rfl (show (iI ((((y + 1 - ho + c9 : Nat) : Int) + 1))) = (iI (((y + 1 - ho + (c9 + 1) : Nat) : Int))) from congrArg iI (by omega))
                      exact ih_135 (c9 + 1) (by omega) (by omega) _ _ _ X (lv_sub hl_16 [3, 4, 5, 6, 1, 0] rfl)
                    · refine lv_iload Fx.1 Fx.2.1 dX10_goes_167 (lv_at hl 0 rfl) ?_
                      refine lv_goto (tgt := 191) Fx.1 Fx.2.1 dX10_goes_169 (by decide) ?_
                      refine lv_istore (lv' := [(6, .int (iI ((spF M mn s) q (y + 1 - ho + c9)))), (8, .int (iI ((spF M mn s) q (y + 1 - ho + c9)))), (0, .ref (ad 0)), (1, .int (iI (((q : Nat) : Int)))), (2, .int (iI (((s : Nat) : Int)))), (3, .int (iI (((y : Nat) : Int)))), (7, .int (iI (((y + 1 - ho + c9 : Nat) : Int))))]) Fx.1 Fx.2.1 dX10_goes_191 hl (by decide) rfl (fun ls hl => ?_)
                      refine k_iinc (k := 6) (a := ((y + 1 - ho + c9 : Nat) : Int)) (lv' := [(7, .int (iI ((((y + 1 - ho + c9 : Nat) : Int) + 1)))), (6, .int (iI ((spF M mn s) q (y + 1 - ho + c9)))), (8, .int (iI ((spF M mn s) q (y + 1 - ho + c9)))), (0, .ref (ad 0)), (1, .int (iI (((q : Nat) : Int)))), (2, .int (iI (((s : Nat) : Int)))), (3, .int (iI (((y : Nat) : Int))))]) Fx dX10_goes_193 hl rfl (by decide) rfl (fun ls hl => ?_)
                      refine lv_goto (tgt := 135) Fx.1 Fx.2.1 dX10_goes_196 (by decide) ?_
                      have hl_17 := lv_rp hl 1 rfl (show (iI ((spF M mn s) q (y + 1 - ho + c9))) = (iI (nrA (spF M mn s) q y (y + 1 - ho) (c9 + 1))) from congrArg iI (show (spF M mn s) q (y + 1 - ho + c9) = nrA (spF M mn s) q y (y + 1 - ho) (c9 + 1) from pick_b (by omega)))
                      have hl_18 := lv_rp hl_17 0 rfl (show (iI ((((y + 1 - ho + c9 : Nat) : Int) + 1))) = (iI (((y + 1 - ho + (c9 + 1) : Nat) : Int))) from congrArg iI (by omega))
                      exact ih_135 (c9 + 1) (by omega) (by omega) _ _ _ X (lv_sub hl_18 [3, 4, 5, 6, 1, 0] rfl)
            have hl_19 := lv_rp hl 1 rfl (show (iI ((aMw M q s y mn))) = (iI (nrA (spF M mn s) q y (y + 1 - ho) 0)) from rfl)
            have hl_20 := lv_rp hl_19 0 rfl (show (iI (((((y : Nat) : Int) - ((ho : Nat) : Int)) + 1))) = (iI (((y + 1 - ho + 0 : Nat) : Int))) from congrArg iI (by omega))
            exact lp_135 _ (0) (Nat.lt_succ_self _) (by omega) _ _ _ X (lv_sub hl_20 [4, 5, 6, 7, 1, 0] rfl)
          · exact r_vret Fx hr hlk X (by decide) dX10_goes_110 (⟨rfl, _, _, rfl, sp_5 hSp ht hq hy hBy (by omega), fun _ _ _ => rfl, fun k h1 h2 h3 => (updA_n h2).trans (updA_n h3)⟩)
        · refine lv_aload_n Fx.1 Fx.2.1 dX10_goes_65 rfl (lv_at hl 2 rfl) ?_
          refine gM_37 Fx X dX10_goes_66 ?_
          refine lv_iload_n Fx.1 Fx.2.1 dX10_goes_69 rfl (lv_at hl 3 rfl) ?_
          refine k_iconst Fx dX10_goes_70 ?_
          refine stM_37 (z := ((q : Nat) : Int)) (i := q) Fx X (rfl) (by omega) dX10_goes_71 (fun H locs X => ?_)
          exact r_vret Fx hr hlk X (by decide) dX10_goes_72 (⟨rfl, _, _, rfl, sp_0 hSp ht hq hh.1 (fun z => z.2 c_62), fun _ _ _ => rfl, fun k h1 h2 h3 => updA_n h2⟩)

theorem MowM_f2 {k : Nat} {M : Nat → Nat → Nat} {f f1 : Nat → Int32} {g g1 : Nat → Nat → Int32} (hf : ∀ k, k ≠ 39 → k ≠ 40 → f1 k = f k) (hg : ∀ k, k ≠ 36 → k ≠ 37 → k ≠ 38 → g1 k = g k) (h : MowM k M f g) : MowM k M f1 g1 := by
  unfold MowM at *
  rw [hf 1 (by omega) (by omega), hg 29 (by omega) (by omega) (by omega), hg 30 (by omega) (by omega) (by omega), hg 31 (by omega) (by omega) (by omega), hg 32 (by omega) (by omega) (by omega), hg 33 (by omega) (by omega) (by omega)]
  exact h
theorem ProM_f2 {k : Nat} {M : Nat → Nat → Nat} {f f1 : Nat → Int32} {g g1 : Nat → Nat → Int32} (hf : ∀ k, k ≠ 39 → k ≠ 40 → f1 k = f k) (hg : ∀ k, k ≠ 36 → k ≠ 37 → k ≠ 38 → g1 k = g k) (h : ProM k M f g) : ProM k M f1 g1 := by
  unfold ProM at *
  rw [hf 2 (by omega) (by omega), hg 34 (by omega) (by omega) (by omega), hg 35 (by omega) (by omega) (by omega)]
  exact h
theorem MowM_f1 {k : Nat} {M : Nat → Nat → Nat} {f : Nat → Int32} {g g1 : Nat → Nat → Int32} (hg : ∀ k, k ≠ 27 → k ≠ 28 → g1 k = g k) (h : MowM k M f g) : MowM k M f g1 := by
  unfold MowM at *
  rw [hg 29 (by omega) (by omega), hg 30 (by omega) (by omega), hg 31 (by omega) (by omega), hg 32 (by omega) (by omega), hg 33 (by omega) (by omega)]
  exact h
theorem ProM_f1 {k : Nat} {M : Nat → Nat → Nat} {f : Nat → Int32} {g g1 : Nat → Nat → Int32} (hg : ∀ k, k ≠ 27 → k ≠ 28 → g1 k = g k) (h : ProM k M f g) : ProM k M f g1 := by
  unfold ProM at *
  rw [hg 34 (by omega) (by omega), hg 35 (by omega) (by omega)]
  exact h
theorem sp_init {F : Nat → Nat → Int} {B : Nat → Nat → Prop} {ho : Nat} {pf : Int} {f : Nat → Int32} {g : Nat → Nat → Int32} (h1 : f 39 = iI pf) (h2 : f 40 = iI (-1)) (h3 : ∀ n, n < 2 → g 36 n = iI 0) (h4 : ∀ n, n < 2 → g 37 n = iI 0) : SpM F B ho pf 0 f g := by
  refine ⟨h1, h2, fun n hn => ?_, fun n hn => ?_, fun n hn r r1 r2 => ?_⟩
  · rw [h3 n hn, show kyT 0 n = 0 by unfold kyT; split <;> rfl]; rfl
  · rw [h4 n hn, show kyT 0 n = 0 by unfold kyT; split <;> rfl]; rfl
  · rw [show kyT 0 n = 0 by unfold kyT; split <;> rfl] at r2; omega

abbrev rm_X10_spells : Room := ({ frames := 4, cells := 0, slots := 0, locals := 97 } : Room)
set_option maxHeartbeats 4000000 in
set_option maxRecDepth 100000 in
theorem c_X10_spells {E : XX} (hE : XS E) (l : Launch) {Γ : GG} {ad : Nat → Nat} {f : Nat → Int32} {g : Nat → Nat → Int32} {n : Nat} {S : Nat → Nat → Nat} (hS : SayM n S f g) (hB : SayB n S) {wt : Nat → Nat} {nw : Nat → Prop} {th ho be : Nat} (hL : LawM wt nw th ho be f g) (hLB : LawB wt th ho be) {mn : Nat} {M : Nat → Nat → Nat} (hM : MowM mn M f g) (hMB : MowB mn M) {pn : Nat} {P : Nat → Nat → Nat} (hP : ProM pn P f g) (hPB : ProB pn P) {s : Nat} (hs : s < 10) : Con E l yX10_spells cX10_spells 4 none rm_X10_spells Γ (wM Γ ad f g) [.ref (ad 0), .int (iI (((s : Nat) : Int)))] (fun v w2 => v = none ∧ ∃ f1 g1, w2 = wM Γ ad f1 g1 ∧ SpM (spF M mn s) (spB M mn P pn s ((aPp n S wt nw th be s : Nat) : Int)) ho ((aPp n S wt nw th be s : Nat) : Int) 2000 f1 g1 ∧ (∀ k, k ≠ 39 → k ≠ 40 → f1 k = f k) ∧ (∀ k, k ≠ 27 → k ≠ 28 → k ≠ 36 → k ≠ 37 → k ≠ 38 → g1 k = g k)) := by
  refine Con_mk (by decide) (Nat.le_of_ble_eq_true rfl) ?_
  intro p e s₀ m args below meth c A Fx hr hlk hnm X ls hl
  have hl : lv_has ls 4 [(0, .ref (ad 0)), (1, .int (iI (((s : Nat) : Int))))] := hl
  have hh := hLB.2.2.1
  refine lv_aload_n Fx.1 Fx.2.1 dX10_spells_0 rfl (lv_at hl 0 rfl) ?_
  refine r_callV (As := []) (rest := []) hE Fx X (c_X10_lines hE l hS hB hL hLB) cV_X10_216 (recM X) rfl rfl (Nat.le_of_ble_eq_true rfl) (by decide) hl.1 dX10_spells_1 (fun v9 w9 H locs hq X => ?_)
  obtain ⟨rfl, g_1, rfl, hF, hC, hPp⟩ := hq
  have hS := SayM_fr hF hS
  have hL := LawM_fr hF hL
  refine lv_aload_n Fx.1 Fx.2.1 dX10_spells_4 rfl (lv_at hl 0 rfl) ?_
  refine lv_aload_n Fx.1 Fx.2.1 dX10_spells_5 rfl (lv_at hl 0 rfl) ?_
  refine gM_28 Fx X dX10_spells_6 ?_
  refine lv_iload_n Fx.1 Fx.2.1 dX10_spells_9 rfl (lv_at hl 1 rfl) ?_
  refine ldM_28 (z := ((s : Nat) : Int)) (i := s) (x := (iI (((aPp n S wt nw th be s : Nat) : Int)))) Fx X (rfl) (by omega) (hPp s hs) dX10_spells_10 ?_
  refine pM_39 Fx X dX10_spells_11 (fun H locs X => ?_)
  refine lv_aload_n Fx.1 Fx.2.1 dX10_spells_14 rfl (lv_at hl 0 rfl) ?_
  refine k_iconst Fx dX10_spells_15 ?_
  refine pM_40 Fx X dX10_spells_16 (fun H locs X => ?_)
  refine lv_aload_n Fx.1 Fx.2.1 dX10_spells_19 rfl (lv_at hl 0 rfl) ?_
  refine gM_36 Fx X dX10_spells_20 ?_
  refine k_iconst Fx dX10_spells_23 ?_
  refine k_iconst Fx dX10_spells_24 ?_
  refine stM_36 (z := 0) (i := 0) Fx X (rfl) (by omega) dX10_spells_25 (fun H locs X => ?_)
  refine lv_aload_n Fx.1 Fx.2.1 dX10_spells_26 rfl (lv_at hl 0 rfl) ?_
  refine gM_36 Fx X dX10_spells_27 ?_
  refine k_iconst Fx dX10_spells_30 ?_
  refine k_iconst Fx dX10_spells_31 ?_
  refine stM_36 (z := 1) (i := 1) Fx X (rfl) (by omega) dX10_spells_32 (fun H locs X => ?_)
  refine lv_aload_n Fx.1 Fx.2.1 dX10_spells_33 rfl (lv_at hl 0 rfl) ?_
  refine gM_37 Fx X dX10_spells_34 ?_
  refine k_iconst Fx dX10_spells_37 ?_
  refine k_iconst Fx dX10_spells_38 ?_
  refine stM_37 (z := 0) (i := 0) Fx X (rfl) (by omega) dX10_spells_39 (fun H locs X => ?_)
  refine lv_aload_n Fx.1 Fx.2.1 dX10_spells_40 rfl (lv_at hl 0 rfl) ?_
  refine gM_37 Fx X dX10_spells_41 ?_
  refine k_iconst Fx dX10_spells_44 ?_
  refine k_iconst Fx dX10_spells_45 ?_
  refine stM_37 (z := 1) (i := 1) Fx X (rfl) (by omega) dX10_spells_46 (fun H locs X => ?_)
  have hSp : SpM (spF M mn s) (spB M mn P pn s ((aPp n S wt nw th be s : Nat) : Int)) ho ((aPp n S wt nw th be s : Nat) : Int) 0 (upd (upd f 39 (iI (((aPp n S wt nw th be s : Nat) : Int)))) 40 (iI ((-1)))) (updA (updA (updA (updA g_1 36 (upd (g_1 36) 0 (iI (0)))) 36 (upd ((updA g_1 36 (upd (g_1 36) 0 (iI (0)))) 36) 1 (iI (0)))) 37 (upd ((updA (updA g_1 36 (upd (g_1 36) 0 (iI (0)))) 36 (upd ((updA g_1 36 (upd (g_1 36) 0 (iI (0)))) 36) 1 (iI (0)))) 37) 0 (iI (0)))) 37 (upd ((updA (updA (updA g_1 36 (upd (g_1 36) 0 (iI (0)))) 36 (upd ((updA g_1 36 (upd (g_1 36) 0 (iI (0)))) 36) 1 (iI (0)))) 37 (upd ((updA (updA g_1 36 (upd (g_1 36) 0 (iI (0)))) 36 (upd ((updA g_1 36 (upd (g_1 36) 0 (iI (0)))) 36) 1 (iI (0)))) 37) 0 (iI (0)))) 37) 1 (iI (0)))) := sp_init rfl rfl (fun m9 hm => by rcases (show m9 = 0 ∨ m9 = 1 by omega) with e9 | e9 <;> subst e9 <;> rfl) (fun m9 hm => by rcases (show m9 = 0 ∨ m9 = 1 by omega) with e9 | e9 <;> subst e9 <;> rfl)
  refine k_iconst Fx dX10_spells_47 ?_
  refine lv_istore_n (lv' := [(2, .int (iI (0))), (0, .ref (ad 0)), (1, .int (iI (((s : Nat) : Int))))]) Fx.1 Fx.2.1 dX10_spells_48 rfl hl (by decide) rfl (fun ls hl => ?_)
  have lp_49 : ∀ (nn : Nat) (y : Nat) (f2 : Nat → Int32) (g2 : Nat → Nat → Int32), 1000 - y < nn → (y ≤ 1000) → (SpM (spF M mn s) (spB M mn P pn s ((aPp n S wt nw th be s : Nat) : Int)) ho ((aPp n S wt nw th be s : Nat) : Int) (2 * y) f2 g2) → (MowM mn M f2 g2) → (ProM pn P f2 g2) → (f2 11 = iI (ho : Nat)) → (g2 28 s = iI (aPp n S wt nw th be s : Nat)) → (∀ k, k ≠ 39 → k ≠ 40 → f2 k = f k) → (∀ k, k ≠ 27 → k ≠ 28 → k ≠ 36 → k ≠ 37 → k ≠ 38 → g2 k = g k) → ∀ (H : Heap) (locs : List Loc) (ls : Array Slot), Wd E Γ A s₀ H locs (wM Γ ad f2 g2) → lv_has ls 4 [(0, .ref (ad 0)), (1, .int (iI (((s : Nat) : Int)))), (2, .int (iI (((y : Nat) : Int))))] → W p l e rm_X10_spells s₀ m args below meth c H locs (0) (0) (RQ below args s₀ Γ A (fun v w2 => v = none ∧ ∃ f1 g1, w2 = wM Γ ad f1 g1 ∧ SpM (spF M mn s) (spB M mn P pn s ((aPp n S wt nw th be s : Nat) : Int)) ho ((aPp n S wt nw th be s : Nat) : Int) 2000 f1 g1 ∧ (∀ k, k ≠ 39 → k ≠ 40 → f1 k = f k) ∧ (∀ k, k ≠ 27 → k ≠ 28 → k ≠ 36 → k ≠ 37 → k ≠ 38 → g1 k = g k)) rm_X10_spells) (F0 m 49 ls []) := by
    intro nn
    induction nn with
    | zero => intro y f2 g2 hmu; exact absurd hmu (Nat.not_lt_zero _)
    | succ nn ih =>
      intro y f2 g2 hmu hy hSp hM hP hho hpp hFr hGr H locs ls X hl
      have ih_49 := ih
      refine lv_iload_n Fx.1 Fx.2.1 dX10_spells_49 rfl (lv_at hl 2 rfl) ?_
      refine k_sipush Fx dX10_spells_50 (by decide) ?_
      refine k_icmp_ge (a := ((y : Nat) : Int)) (b := 1000) (tgt := 82) Fx dX10_spells_53 (by decide) (by omega) (by omega) (fun c_53 => ?_) (fun c_53 => ?_)
      · exact r_vret Fx hr hlk X (by decide) dX10_spells_82 (⟨rfl, _, _, rfl, (show 2 * y = 2000 by omega) ▸ hSp, hFr, hGr⟩)
      · refine k_iconst Fx dX10_spells_56 ?_
        refine lv_istore_n (lv' := [(3, .int (iI (0))), (0, .ref (ad 0)), (1, .int (iI (((s : Nat) : Int)))), (2, .int (iI (((y : Nat) : Int))))]) Fx.1 Fx.2.1 dX10_spells_57 rfl hl (by decide) rfl (fun ls hl => ?_)
        have lp_58 : ∀ (nn : Nat) (x9 : Nat) (f3 : Nat → Int32) (g3 : Nat → Nat → Int32), 2 - x9 < nn → (x9 ≤ 2) → (SpM (spF M mn s) (spB M mn P pn s ((aPp n S wt nw th be s : Nat) : Int)) ho ((aPp n S wt nw th be s : Nat) : Int) (2 * y + x9) f3 g3) → (MowM mn M f3 g3) → (ProM pn P f3 g3) → (f3 11 = iI (ho : Nat)) → (g3 28 s = iI (aPp n S wt nw th be s : Nat)) → (∀ k, k ≠ 39 → k ≠ 40 → f3 k = f k) → (∀ k, k ≠ 27 → k ≠ 28 → k ≠ 36 → k ≠ 37 → k ≠ 38 → g3 k = g k) → ∀ (H : Heap) (locs : List Loc) (ls : Array Slot), Wd E Γ A s₀ H locs (wM Γ ad f3 g3) → lv_has ls 4 [(0, .ref (ad 0)), (1, .int (iI (((s : Nat) : Int)))), (2, .int (iI (((y : Nat) : Int)))), (3, .int (iI (((x9 : Nat) : Int))))] → W p l e rm_X10_spells s₀ m args below meth c H locs (0) (0) (RQ below args s₀ Γ A (fun v w2 => v = none ∧ ∃ f1 g1, w2 = wM Γ ad f1 g1 ∧ SpM (spF M mn s) (spB M mn P pn s ((aPp n S wt nw th be s : Nat) : Int)) ho ((aPp n S wt nw th be s : Nat) : Int) 2000 f1 g1 ∧ (∀ k, k ≠ 39 → k ≠ 40 → f1 k = f k) ∧ (∀ k, k ≠ 27 → k ≠ 28 → k ≠ 36 → k ≠ 37 → k ≠ 38 → g1 k = g k)) rm_X10_spells) (F0 m 58 ls []) := by
          intro nn
          induction nn with
          | zero => intro x9 f3 g3 hmu; exact absurd hmu (Nat.not_lt_zero _)
          | succ nn ih =>
            intro x9 f3 g3 hmu hx9 hSp hM hP hho hpp hFr hGr H locs ls X hl
            have ih_58 := ih
            refine lv_iload_n Fx.1 Fx.2.1 dX10_spells_58 rfl (lv_at hl 3 rfl) ?_
            refine k_iconst Fx dX10_spells_59 ?_
            refine k_icmp_ge (a := ((x9 : Nat) : Int)) (b := 2) (tgt := 76) Fx dX10_spells_60 (by decide) (by omega) (by omega) (fun c_60 => ?_) (fun c_60 => ?_)
            · refine k_iinc (k := 2) (a := ((y : Nat) : Int)) (lv' := [(2, .int (iI ((((y : Nat) : Int) + 1)))), (0, .ref (ad 0)), (1, .int (iI (((s : Nat) : Int)))), (3, .int (iI (((x9 : Nat) : Int))))]) Fx dX10_spells_76 hl rfl (by decide) rfl (fun ls hl => ?_)
              refine lv_goto (tgt := 49) Fx.1 Fx.2.1 dX10_spells_79 (by decide) ?_
              have hl_2 := lv_rp hl 0 rfl (show (iI ((((y : Nat) : Int) + 1))) = (iI ((((y + 1) : Nat) : Int))) from congrArg iI (by omega))
              exact ih_49 (y + 1) (f3) (g3) (by omega) (by omega) ((show 2 * y + x9 = 2 * (y + 1) by omega) ▸ hSp) (hM) (hP) (hho) (hpp) (hFr) (hGr) _ _ _ X (lv_sub hl_2 [1, 2, 0] rfl)
            · refine lv_aload_n Fx.1 Fx.2.1 dX10_spells_63 rfl (lv_at hl 0 rfl) ?_
              refine lv_iload_n Fx.1 Fx.2.1 dX10_spells_64 rfl (lv_at hl 3 rfl) ?_
              refine lv_iload_n Fx.1 Fx.2.1 dX10_spells_65 rfl (lv_at hl 1 rfl) ?_
              refine lv_iload_n Fx.1 Fx.2.1 dX10_spells_66 rfl (lv_at hl 2 rfl) ?_
              refine r_callV (As := [.int (iI (((x9 : Nat) : Int))), .int (iI (((s : Nat) : Int))), .int (iI (((y : Nat) : Int)))]) (rest := []) hE Fx X (c_X10_goes hE l (by exact hM) hMB (by exact hP) hPB (ho := ho) (pf := aPp n S wt nw th be s) (by exact hho) hh (q := x9) (s := s) (y := y) (t := 2 * y + x9) (by omega) (by omega) (by omega) (by omega) (aPp_lt _ _ _ _ _ _ _) hpp (by exact hSp)) cV_X10_234 (recM X) rfl rfl (Nat.le_of_ble_eq_true rfl) (by decide) hl.1 dX10_spells_67 (fun v9 w9 H locs hq X => ?_)
              obtain ⟨rfl, f_3, g_4, rfl, hSp, hf9, hg9⟩ := hq
              have hM := MowM_f2 hf9 hg9 hM
              have hP := ProM_f2 hf9 hg9 hP
              have hho := (hf9 11 (by omega) (by omega)).trans hho
              have hpp := (congrFun (hg9 28 (by omega) (by omega) (by omega)) s).trans hpp
              have hFr : ∀ k, k ≠ 39 → k ≠ 40 → f_3 k = f k := fun k h1 h2 => (hf9 k h1 h2).trans (hFr k h1 h2)
              have hGr : ∀ k, k ≠ 27 → k ≠ 28 → k ≠ 36 → k ≠ 37 → k ≠ 38 → g_4 k = g k := fun k h0 h00 h1 h2 h3 => (hg9 k h1 h2 h3).trans (hGr k h0 h00 h1 h2 h3)
              refine k_iinc (k := 3) (a := ((x9 : Nat) : Int)) (lv' := [(3, .int (iI ((((x9 : Nat) : Int) + 1)))), (0, .ref (ad 0)), (1, .int (iI (((s : Nat) : Int)))), (2, .int (iI (((y : Nat) : Int))))]) Fx dX10_spells_70 hl rfl (by decide) rfl (fun ls hl => ?_)
              refine lv_goto (tgt := 58) Fx.1 Fx.2.1 dX10_spells_73 (by decide) ?_
              have hl_5 := lv_rp hl 0 rfl (show (iI ((((x9 : Nat) : Int) + 1))) = (iI ((((x9 + 1) : Nat) : Int))) from congrArg iI (by omega))
              exact ih_58 (x9 + 1) (f_3) (g_4) (by omega) (by omega) (hSp) (hM) (hP) (hho) (hpp) (hFr) (hGr) _ _ _ X (lv_sub hl_5 [1, 2, 3, 0] rfl)
        have hl_6 := lv_rp hl 0 rfl (show (iI (0)) = (iI (((0 : Nat) : Int))) from congrArg iI (by omega))
        exact lp_58 _ (0) (f2) (g2) (Nat.lt_succ_self _) (by omega) (hSp) (hM) (hP) (hho) (hpp) (hFr) (hGr) _ _ _ X (lv_sub hl_6 [1, 2, 3, 0] rfl)
  have hl_7 := lv_rp hl 0 rfl (show (iI (0)) = (iI (((0 : Nat) : Int))) from congrArg iI (by omega))
  exact lp_49 _ (0) ((upd (upd f 39 (iI (((aPp n S wt nw th be s : Nat) : Int)))) 40 (iI ((-1))))) ((updA (updA (updA (updA g_1 36 (upd (g_1 36) 0 (iI (0)))) 36 (upd ((updA g_1 36 (upd (g_1 36) 0 (iI (0)))) 36) 1 (iI (0)))) 37 (upd ((updA (updA g_1 36 (upd (g_1 36) 0 (iI (0)))) 36 (upd ((updA g_1 36 (upd (g_1 36) 0 (iI (0)))) 36) 1 (iI (0)))) 37) 0 (iI (0)))) 37 (upd ((updA (updA (updA g_1 36 (upd (g_1 36) 0 (iI (0)))) 36 (upd ((updA g_1 36 (upd (g_1 36) 0 (iI (0)))) 36) 1 (iI (0)))) 37 (upd ((updA (updA g_1 36 (upd (g_1 36) 0 (iI (0)))) 36 (upd ((updA g_1 36 (upd (g_1 36) 0 (iI (0)))) 36) 1 (iI (0)))) 37) 0 (iI (0)))) 37) 1 (iI (0))))) (Nat.lt_succ_self _) (by omega) (hSp) (by have h9 := MowM_f1 hF hM; exact h9) (by have h9 := ProM_f1 hF hP; exact h9) (hL.2.1) (hPp s hs) (fun k h1 h2 => (upd_n h2).trans (upd_n h1)) (fun k h0 h00 h1 h2 h3 => ((((updA_n h2).trans (updA_n h2)).trans (updA_n h1)).trans (updA_n h1)).trans (hF k h0 h00)) _ _ _ X (lv_sub hl_7 [1, 2, 0] rfl)

