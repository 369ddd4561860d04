theorem FrY_of {f2 f1 f g2 g1 g : Nat → Nat → Int32} (h : FrD f1 f g1 g) (hF : ∀ o j, ¬ (o = 7 ∧ j < 2) → f2 o j = f1 o j) (hG : ∀ j, j ≠ 22 → j ≠ 23 → j ≠ 50 → j ≠ 51 → g2 j = g1 j) : FrY f2 f g2 g := ⟨fun o j h1 h2 h3 => (hF o j h3).trans (h.1 o j h1 h2), fun j hj => (hG j (by omega) (by omega) (by omega) (by omega)).trans (h.2 j (by omega))⟩
theorem DrC_y {n : Nat} {S : Nat → Nat → Nat} {wt : Nat → Nat} {nw : Nat → Prop} {th be : Nat} {f2 f1 g2 g1 : Nat → Nat → Int32} {dr : Prop} (h : DrC dr n S wt nw th be f1 g1) (hF : ∀ o j, ¬ (o = 7 ∧ j < 2) → f2 o j = f1 o j) (hG : ∀ j, j ≠ 22 → j ≠ 23 → j ≠ 50 → j ≠ 51 → g2 j = g1 j) : DrC dr n S wt nw th be f2 g2 := ⟨(hF 0 10 (by omega)).trans h.1, fun z => ⟨fun s hs => by rw [hG 12 (by omega) (by omega) (by omega) (by omega)]; exact (h.2 z).1 s hs, (hF 4 1 (by omega)).trans (h.2 z).2⟩⟩
def TrC (n : Nat) (S : Nat → Nat → Nat) (wt : Nat → Nat) (nw : Nat → Prop) (th be ho mn : Nat) (M : Nat → Nat → Nat) (pn : Nat) (P : Nat → Nat → Nat) (s : Nat) (f g : Nat → Nat → Int32) : Prop := f 7 0 = iI (aSpT n S wt nw th be ho mn M pn P s 2000).1 ∧ f 7 1 = iI (aSpT n S wt nw th be ho mn M pn P s 2000).2 ∧ (∀ k, k < 2 → g 22 k = iI ((aSpN n S wt nw th be ho mn M pn P s k : Nat) : Int))

abbrev rm_X9_drawTrueLine : Room := ({ frames := 7, cells := 0, slots := 0, locals := 162 } : Room)
set_option maxHeartbeats 4000000 in
set_option maxRecDepth 100000 in
theorem c_X9_drawTrueLine {E : XX} (hE : XS E) (l : Launch) {Γ : GG} {κ : KK} (hN : EN E κ)  {ad : Nat → Nat} {ed cap n : Nat} {sa : Nat → Nat} {S : Nat → Nat → Nat} {f g : Nat → Nat → Int32} (hn9 : f 1 2 = iI n) (hcap : n ≤ cap ∧ cap < 1000) (hB : SayB n S) {wt : Nat → Nat} {nw : Nat → Prop} {th ho be : Nat} (hL : LawC wt nw th ho be f g) (hLB : LawB wt th ho be) {dr : Prop} (hD : DrC dr n S wt nw th be f g) {mn : Nat} {M : Nat → Nat → Nat} (hM : MowC mn M f g) (hMB : MowB mn M) {pn : Nat} {P : Nat → Nat → Nat} (hP : ProC pn P f g) (hPB : ProB pn P) {yc : Nat} {Y : Nat → Nat} (hY : YrC yc Y f g) (hYB : YrB yc Y) (hYT : YrT yc Y mn M) (hyc : yc ≤ 60) {s : Nat} (hs : s < 10) : Con E l yX9_drawTrueLine cX9_drawTrueLine 2 none rm_X9_drawTrueLine Γ (wC Γ ad ed f g (tS Γ ed cap sa S n)) [.ref (ad 0), .int (iI (((s : Nat) : Int)))] (fun v w2 => v = none ∧ ∃ f1 g1, w2 = wC Γ ad ed f1 g1 (tS Γ ed cap sa S n) ∧ DrC True n S wt nw th be f1 g1 ∧ TrC n S wt nw th be ho mn M pn P s f1 g1 ∧ FrY f1 f g1 g) := by
  refine Con_mk (by decide) (Nat.le_of_ble_eq_true rfl) ?_
  intro p e s₀ m args below meth c A Fx hr hlk hnm X ls hl
  have hl : lv_has ls 2 [(0, .ref (ad 0)), (1, .int (iI (((s : Nat) : Int))))] := hl
  refine lv_aload_n Fx.1 Fx.2.1 dX9_drawTrueLine_0 rfl (lv_at hl 0 rfl) ?_
  refine r_callV (As := []) (rest := []) hE Fx X (c_X9_drawPaperLine hE l hN (by exact hn9) hcap hB (by exact hL) hLB (by exact hD)) cV_X9_187 (recC_0 X) rfl rfl (Nat.le_of_ble_eq_true rfl) (by decide) hl.1 dX9_drawTrueLine_1 (fun v9 w9 H locs hq X => ?_)
  obtain ⟨rfl, f_1, g_2, rfl, hD, hFD⟩ := hq
  have hn9 : f_1 1 2 = iI n := (hFD.1 1 2 (by omega) (by omega)).trans hn9
  have hL := LawC_f hFD hL
  have hM := MowC_d hFD hM
  have hP := ProC_d hFD hP
  have hY := YrC_d hFD hY
  refine lv_aload_n Fx.1 Fx.2.1 dX9_drawTrueLine_4 rfl (lv_at hl 0 rfl) ?_
  refine gC_X9_58_0 Fx X dX9_drawTrueLine_5 ?_
  refine lv_iload_n Fx.1 Fx.2.1 dX9_drawTrueLine_8 rfl (lv_at hl 1 rfl) ?_
  refine lv_aload_n Fx.1 Fx.2.1 dX9_drawTrueLine_9 rfl (lv_at hl 0 rfl) ?_
  refine gC_X9_35_0 Fx X dX9_drawTrueLine_10 ?_
  refine gC_X9_193_4 Fx X dX9_drawTrueLine_13 ?_
  refine lv_iload_n Fx.1 Fx.2.1 dX9_drawTrueLine_16 rfl (lv_at hl 1 rfl) ?_
  refine ldC_12 (z := ((s : Nat) : Int)) (i := s) (x := (iI (((aPp n S wt nw th be s : Nat) : Int)))) Fx X (rfl) (by omega) ((hD.2 trivial).1 s hs) dX9_drawTrueLine_17 ?_
  refine lv_aload_n Fx.1 Fx.2.1 dX9_drawTrueLine_18 rfl (lv_at hl 0 rfl) ?_
  refine gC_X9_72_0 Fx X dX9_drawTrueLine_19 ?_
  refine gC_X9_132_9 (x := (iI (((ho : Nat) : Int)))) Fx X (hL.2.1) dX9_drawTrueLine_22 ?_
  have hpl := aPp_lt n S wt nw th be s
  refine r_callV (As := [.int (iI (((s : Nat) : Int))), .int (iI (((aPp n S wt nw th be s : Nat) : Int))), .int (iI (((ho : Nat) : Int)))]) (rest := []) hE Fx X (c_X8_draw hE l (by exact hM) hMB (by exact hP) hPB (by exact hY) hYB (ho := ho) (s := s) (pf := aPp n S wt nw th be s) hLB.2.2.1 hs hyc hpl (YrN_of hYT)) cV_X9_230 (recC_7 X) rfl rfl (Nat.le_of_ble_eq_true rfl) (by decide) hl.1 dX9_drawTrueLine_25 (fun v9 w9 H locs hq X => ?_)
  obtain ⟨rfl, f_3, g_4, rfl, ht0, ht1, htw, hTf, hTg⟩ := hq
  exact r_vret Fx hr hlk X (by decide) dX9_drawTrueLine_28 (⟨rfl, _, _, rfl, DrC_y hD hTf hTg, ⟨ht0, ht1, htw⟩, FrY_of hFD hTf hTg⟩)

abbrev rm_X9_line : Room := ({ frames := 8, cells := 0, slots := 0, locals := 183 } : Room)
set_option maxHeartbeats 4000000 in
set_option maxRecDepth 100000 in
theorem c_X9_line {E : XX} (hE : XS E) (l : Launch) {Γ : GG} {κ : KK} (hN : EN E κ)  {ad : Nat → Nat} {ed cap n : Nat} {sa : Nat → Nat} {S : Nat → Nat → Nat} {f g : Nat → Nat → Int32} (hn9 : f 1 2 = iI n) (hcap : n ≤ cap ∧ cap < 1000) (hB : SayB n S) {wt : Nat → Nat} {nw : Nat → Prop} {th ho be : Nat} (hL : LawC wt nw th ho be f g) (hLB : LawB wt th ho be) {dr : Prop} (hD : DrC dr n S wt nw th be f g) {mn : Nat} {M : Nat → Nat → Nat} (hM : MowC mn M f g) (hMB : MowB mn M) {pn : Nat} {P : Nat → Nat → Nat} (hP : ProC pn P f g) (hPB : ProB pn P) {yc : Nat} {Y : Nat → Nat} (hY : YrC yc Y f g) (hYB : YrB yc Y) (hYT : YrT yc Y mn M) (hyc : yc ≤ 60) {z : Int} (hz : -2147483648 ≤ z ∧ z < 2147483648) : Con E l yX9_line cX9_line 2 (some .int) rm_X9_line Γ (wC Γ ad ed f g (tS Γ ed cap sa S n)) [.ref (ad 0), .int (iI (z))] (fun v w2 => ∃ dr2 f1 g1, v = some (.int (iI (aLin n S wt nw th be ho mn M pn P z))) ∧ w2 = wC Γ ad ed f1 g1 (tS Γ ed cap sa S n) ∧ DrC dr2 n S wt nw th be f1 g1 ∧ FrY f1 f g1 g) := by
  refine Con_mk (by decide) (Nat.le_of_ble_eq_true rfl) ?_
  intro p e s₀ m args below meth c A Fx hr hlk hnm X ls hl
  have hl : lv_has ls 2 [(0, .ref (ad 0)), (1, .int (iI (z)))] := hl
  refine lv_iload_n Fx.1 Fx.2.1 dX9_line_0 rfl (lv_at hl 1 rfl) ?_
  refine k_bipush Fx dX9_line_1 (by decide) ?_
  refine r_callSi (As := [.int (iI (z)), .int (iI (10))]) (rest := []) hE Fx X (c_X9_below hE l (a := z) (b := 10) (by omega) (by omega)) cS_X9_83 rfl rfl (Nat.le_of_ble_eq_true rfl) (by decide) hl.1 dX9_line_3 (fun H locs X => ?_)
  refine k_bif_ne (tgt := 11) Fx dX9_line_6 (by decide) (fun c_6 => ?_) (fun c_6 => ?_)
  · have hl := lv_rp hl 1 rfl (show (iI (z)) = (iI (((z.toNat : Nat) : Int))) from congrArg iI (by omega))
    refine lv_aload_n Fx.1 Fx.2.1 dX9_line_11 rfl (lv_at hl 0 rfl) ?_
    refine lv_iload_n Fx.1 Fx.2.1 dX9_line_12 rfl (lv_at hl 1 rfl) ?_
    refine r_callV (As := [.int (iI (((z.toNat : Nat) : Int)))]) (rest := []) hE Fx X (c_X9_drawTrueLine hE l hN (by exact hn9) hcap hB (by exact hL) hLB (by exact hD) (by exact hM) hMB (by exact hP) hPB (by exact hY) hYB hYT hyc (s := z.toNat) (by omega)) cV_X9_218 (recC_0 X) rfl rfl (Nat.le_of_ble_eq_true rfl) (by decide) hl.1 dX9_line_13 (fun v9 w9 H locs hq X => ?_)
    obtain ⟨rfl, f_1, g_2, rfl, hD, hTr, hFY⟩ := hq
    refine lv_aload_n Fx.1 Fx.2.1 dX9_line_16 rfl (lv_at hl 0 rfl) ?_
    refine gC_X9_58_0 Fx X dX9_line_17 ?_
    refine gC_X9_227_7 (x := (iI ((aSpT n S wt nw th be ho mn M pn P z.toNat 2000).1))) Fx X (hTr.1) dX9_line_20 ?_
    exact r_iret Fx hr hlk X (by decide) dX9_line_23 (⟨True, _, _, by unfold aLin; rw [if_pos (by omega)], rfl, hD, hFY⟩)
  · refine k_iconst Fx dX9_line_9 ?_
    exact r_iret Fx hr hlk X (by decide) dX9_line_10 (⟨dr, _, _, by unfold aLin; rw [if_neg (by omega)], rfl, hD, fun _ _ _ _ _ => rfl, fun _ _ => rfl⟩)

abbrev rm_X9_spells : Room := ({ frames := 8, cells := 0, slots := 0, locals := 183 } : Room)
set_option maxHeartbeats 4000000 in
set_option maxRecDepth 100000 in
theorem c_X9_spells {E : XX} (hE : XS E) (l : Launch) {Γ : GG} {κ : KK} (hN : EN E κ)  {ad : Nat → Nat} {ed cap n : Nat} {sa : Nat → Nat} {S : Nat → Nat → Nat} {f g : Nat → Nat → Int32} (hn9 : f 1 2 = iI n) (hcap : n ≤ cap ∧ cap < 1000) (hB : SayB n S) {wt : Nat → Nat} {nw : Nat → Prop} {th ho be : Nat} (hL : LawC wt nw th ho be f g) (hLB : LawB wt th ho be) {dr : Prop} (hD : DrC dr n S wt nw th be f g) {mn : Nat} {M : Nat → Nat → Nat} (hM : MowC mn M f g) (hMB : MowB mn M) {pn : Nat} {P : Nat → Nat → Nat} (hP : ProC pn P f g) (hPB : ProB pn P) {yc : Nat} {Y : Nat → Nat} (hY : YrC yc Y f g) (hYB : YrB yc Y) (hYT : YrT yc Y mn M) (hyc : yc ≤ 60) {z u : Int} (hz : -2147483648 ≤ z ∧ z < 2147483648) (hu : -2147483648 ≤ u ∧ u < 2147483648) : Con E l yX9_spells cX9_spells 3 (some .int) rm_X9_spells Γ (wC Γ ad ed f g (tS Γ ed cap sa S n)) [.ref (ad 0), .int (iI (z)), .int (iI (u))] (fun v w2 => ∃ dr2 f1 g1, v = some (.int (iI (aSpe n S wt nw th be ho mn M pn P z u))) ∧ w2 = wC Γ ad ed f1 g1 (tS Γ ed cap sa S n) ∧ DrC dr2 n S wt nw th be f1 g1 ∧ FrY f1 f g1 g) := by
  refine Con_mk (by decide) (Nat.le_of_ble_eq_true rfl) ?_
  intro p e s₀ m args below meth c A Fx hr hlk hnm X ls hl
  have hl : lv_has ls 3 [(0, .ref (ad 0)), (1, .int (iI (z))), (2, .int (iI (u)))] := hl
  refine lv_iload_n Fx.1 Fx.2.1 dX9_spells_0 rfl (lv_at hl 1 rfl) ?_
  refine k_bipush Fx dX9_spells_1 (by decide) ?_
  refine r_callSi (As := [.int (iI (z)), .int (iI (10))]) (rest := []) hE Fx X (c_X9_below hE l (a := z) (b := 10) (by omega) (by omega)) cS_X9_83 rfl rfl (Nat.le_of_ble_eq_true rfl) (by decide) hl.1 dX9_spells_3 (fun H locs X => ?_)
  refine k_bif_eq (tgt := 17) Fx dX9_spells_6 (by decide) (fun c_6 => ?_) (fun c_6 => ?_)
  · refine k_iconst Fx dX9_spells_17 ?_
    exact r_iret Fx hr hlk X (by decide) dX9_spells_18 (⟨dr, _, _, by unfold aSpe; rw [if_neg (by omega)], rfl, hD, fun _ _ _ _ _ => rfl, fun _ _ => rfl⟩)
  · refine lv_iload_n Fx.1 Fx.2.1 dX9_spells_9 rfl (lv_at hl 2 rfl) ?_
    refine k_iconst Fx dX9_spells_10 ?_
    refine r_callSi (As := [.int (iI (u)), .int (iI (3))]) (rest := []) hE Fx X (c_X9_below hE l (a := u) (b := 3) (by omega) (by omega)) cS_X9_83 rfl rfl (Nat.le_of_ble_eq_true rfl) (by decide) hl.1 dX9_spells_11 (fun H locs X => ?_)
    refine k_bif_ne (tgt := 19) Fx dX9_spells_14 (by decide) (fun c_14 => ?_) (fun c_14 => ?_)
    · have hl := lv_rp hl 1 rfl (show (iI (z)) = (iI (((z.toNat : Nat) : Int))) from congrArg iI (by omega))
      refine lv_aload_n Fx.1 Fx.2.1 dX9_spells_19 rfl (lv_at hl 0 rfl) ?_
      refine lv_iload_n Fx.1 Fx.2.1 dX9_spells_20 rfl (lv_at hl 1 rfl) ?_
      refine r_callV (As := [.int (iI (((z.toNat : Nat) : Int)))]) (rest := []) hE Fx X (c_X9_drawTrueLine hE l hN (by exact hn9) hcap hB (by exact hL) hLB (by exact hD) (by exact hM) hMB (by exact hP) hPB (by exact hY) hYB hYT hyc (s := z.toNat) (by omega)) cV_X9_218 (recC_0 X) rfl rfl (Nat.le_of_ble_eq_true rfl) (by decide) hl.1 dX9_spells_21 (fun v9 w9 H locs hq X => ?_)
      obtain ⟨rfl, f_1, g_2, rfl, hD, hTr, hFY⟩ := hq
      refine lv_iload_n Fx.1 Fx.2.1 dX9_spells_24 rfl (lv_at hl 2 rfl) ?_
      refine k_iconst Fx dX9_spells_25 ?_
      refine k_icmp_ge (a := u) (b := 2) (tgt := 41) Fx dX9_spells_26 (by decide) (by omega) (by omega) (fun c_26 => ?_) (fun c_26 => ?_)
      · refine lv_aload_n Fx.1 Fx.2.1 dX9_spells_41 rfl (lv_at hl 0 rfl) ?_
        refine gC_X9_58_0 Fx X dX9_spells_42 ?_
        refine gC_X9_224_7 (x := (iI ((aSpT n S wt nw th be ho mn M pn P z.toNat 2000).2))) Fx X (hTr.2.1) dX9_spells_45 ?_
        exact r_iret Fx hr hlk X (by decide) dX9_spells_48 (⟨True, _, _, by unfold aSpe; rw [if_pos (by omega), if_pos (by omega)], rfl, hD, hFY⟩)
      · refine lv_aload_n Fx.1 Fx.2.1 dX9_spells_29 rfl (lv_at hl 0 rfl) ?_
        refine gC_X9_58_0 Fx X dX9_spells_30 ?_
        refine gC_X9_221_7 Fx X dX9_spells_33 ?_
        refine lv_iload_n Fx.1 Fx.2.1 dX9_spells_36 rfl (lv_at hl 2 rfl) ?_
        refine ldC_22 (z := u) (i := u.toNat) (x := (iI (((aSpN n S wt nw th be ho mn M pn P z.toNat (u.toNat) : Nat) : Int)))) Fx X (by omega) (by omega) (hTr.2.2 (u.toNat) (by omega)) dX9_spells_37 ?_
        refine lv_goto (tgt := 48) Fx.1 Fx.2.1 dX9_spells_38 (by decide) ?_
        exact r_iret Fx hr hlk X (by decide) dX9_spells_48 (⟨True, _, _, by unfold aSpe; rw [if_pos (by omega), if_neg (by omega)], rfl, hD, hFY⟩)
    · refine k_iconst Fx dX9_spells_17 ?_
      exact r_iret Fx hr hlk X (by decide) dX9_spells_18 (⟨dr, _, _, by unfold aSpe; rw [if_neg (by omega)], rfl, hD, fun _ _ _ _ _ => rfl, fun _ _ => rfl⟩)

abbrev rm_X9_mow : Room := ({ frames := 2, cells := 0, slots := 0, locals := 49 } : Room)
set_option maxHeartbeats 4000000 in
set_option maxRecDepth 100000 in
theorem c_X9_mow {E : XX} (hE : XS E) (l : Launch) {Γ : GG} {ad : Nat → Nat} {ed : Nat} {f g : Nat → Nat → Int32} {tl : va_W} {mn : Nat} {M : Nat → Nat → Nat} (hM : MowC mn M f g) (hMB : MowB mn M) {yc : Nat} {Y : Nat → Nat} (hY : YrC yc Y f g) (hYB : YrB yc Y) (hYT : YrT yc Y mn M) (hyc : yc ≤ mn) {k a b t y : Int} (hk : -2147483648 ≤ k ∧ k < 2147483648) (ha : -2147483648 ≤ a ∧ a < 2147483648) (hb : -2147483648 ≤ b ∧ b < 2147483648) (ht : -2147483648 ≤ t ∧ t < 2147483648) (hy : -2147483648 ≤ y ∧ y < 2147483648) : Con E l yX9_mow cX9_mow 7 (some .boolean) rm_X9_mow Γ (wC Γ ad ed f g tl) [.ref (ad 0), .int (iI (k)), .int (iI (a)), .int (iI (b)), .int (iI (t)), .int (iI (y))] (fun v w2 => ((mOk k a b t y ∧ mn < 60) ∧ v = some (.int (bI True)) ∧ ∃ f1 g1 yc2 Y2, w2 = wC Γ ad ed f1 g1 tl ∧ MowC (mn + 1) (mPut M mn k a b t y) f1 g1 ∧ YrC yc2 Y2 f1 g1 ∧ YrB yc2 Y2 ∧ YrT yc2 Y2 (mn + 1) (mPut M mn k a b t y) ∧ yc2 ≤ mn + 1 ∧ (∀ o j, ¬ (o = 5 ∧ j = 0) → ¬ (o = 5 ∧ j = 2) → f1 o j = f o j) ∧ (∀ j, (j < 14 ∨ 19 < j) → g1 j = g j)) ∨ (¬ (mOk k a b t y ∧ mn < 60) ∧ v = some (.int (bI False)) ∧ w2 = wC Γ ad ed f g tl)) := by
  refine Con_mk (by decide) (Nat.le_of_ble_eq_true rfl) ?_
  intro p e s₀ m args below meth c A Fx hr hlk hnm X ls hl
  have hl : lv_has ls 7 [(0, .ref (ad 0)), (1, .int (iI (k))), (2, .int (iI (a))), (3, .int (iI (b))), (4, .int (iI (t))), (5, .int (iI (y)))] := hl
  refine lv_iload_n Fx.1 Fx.2.1 dX9_mow_0 rfl (lv_at hl 1 rfl) ?_
  refine k_iconst Fx dX9_mow_1 ?_
  refine r_callSi (As := [.int (iI (k)), .int (iI (2))]) (rest := []) hE Fx X (c_X9_below hE l (a := k) (b := 2) (by omega) (by omega)) cS_X9_83 rfl rfl (Nat.le_of_ble_eq_true rfl) (by decide) hl.1 dX9_mow_2 (fun H locs X => ?_)
  refine k_bif_eq (tgt := 43) Fx dX9_mow_5 (by decide) (fun c_5 => ?_) (fun c_5 => ?_)
  · refine k_iconst Fx dX9_mow_43 ?_
    refine lv_istore (lv' := [(6, .int (iI (0))), (0, .ref (ad 0)), (1, .int (iI (k))), (2, .int (iI (a))), (3, .int (iI (b))), (4, .int (iI (t))), (5, .int (iI (y)))]) Fx.1 Fx.2.1 dX9_mow_44 hl (by decide) rfl (fun ls hl => ?_)
    refine lv_iload Fx.1 Fx.2.1 dX9_mow_46 (lv_at hl 0 rfl) ?_
    refine k_if_eq (a := 0) (tgt := 72) Fx dX9_mow_48 (by decide) (by omega) (fun c_48 => ?_) (fun c_48 => ?_)
    rotate_left
    · exact absurd c_48 (by omega)
    refine k_iconst Fx dX9_mow_72 ?_
    exact r_zret Fx hr hlk X (by decide) dX9_mow_73 rfl (Or.inr ⟨by unfold mOk; omega, (by rw [bI_f (fun h => h)]; rfl), rfl⟩)
  · refine lv_iload_n Fx.1 Fx.2.1 dX9_mow_8 rfl (lv_at hl 2 rfl) ?_
    refine lv_iload_n Fx.1 Fx.2.1 dX9_mow_9 rfl (lv_at hl 3 rfl) ?_
    refine k_bipush Fx dX9_mow_10 (by decide) ?_
    refine r_callSi (As := [.int (iI (a)), .int (iI (b)), .int (iI (10))]) (rest := []) hE Fx X (c_X9_isStretch hE l (a := a) (b := b) (b2 := 10) (by omega) (by omega) (by omega)) cS_X9_87 rfl rfl (Nat.le_of_ble_eq_true rfl) (by decide) hl.1 dX9_mow_12 (fun H locs X => ?_)
    refine k_bif_eq (tgt := 43) Fx dX9_mow_15 (by decide) (fun c_15 => ?_) (fun c_15 => ?_)
    · refine k_iconst Fx dX9_mow_43 ?_
      refine lv_istore (lv' := [(6, .int (iI (0))), (0, .ref (ad 0)), (1, .int (iI (k))), (2, .int (iI (a))), (3, .int (iI (b))), (4, .int (iI (t))), (5, .int (iI (y)))]) Fx.1 Fx.2.1 dX9_mow_44 hl (by decide) rfl (fun ls hl => ?_)
      refine lv_iload Fx.1 Fx.2.1 dX9_mow_46 (lv_at hl 0 rfl) ?_
      refine k_if_eq (a := 0) (tgt := 72) Fx dX9_mow_48 (by decide) (by omega) (fun c_48 => ?_) (fun c_48 => ?_)
      rotate_left
      · exact absurd c_48 (by omega)
      refine k_iconst Fx dX9_mow_72 ?_
      exact r_zret Fx hr hlk X (by decide) dX9_mow_73 rfl (Or.inr ⟨by unfold mOk; omega, (by rw [bI_f (fun h => h)]; rfl), rfl⟩)
    · refine lv_iload Fx.1 Fx.2.1 dX9_mow_18 (lv_at hl 4 rfl) ?_
      refine k_bipush Fx dX9_mow_20 (by decide) ?_
      refine r_callSi (As := [.int (iI (t)), .int (iI (80))]) (rest := []) hE Fx X (c_X9_below hE l (a := t) (b := 80) (by omega) (by omega)) cS_X9_83 rfl rfl (Nat.le_of_ble_eq_true rfl) (by decide) hl.1 dX9_mow_22 (fun H locs X => ?_)
      refine k_bif_eq (tgt := 43) Fx dX9_mow_25 (by decide) (fun c_25 => ?_) (fun c_25 => ?_)
      · refine k_iconst Fx dX9_mow_43 ?_
        refine lv_istore (lv' := [(6, .int (iI (0))), (0, .ref (ad 0)), (1, .int (iI (k))), (2, .int (iI (a))), (3, .int (iI (b))), (4, .int (iI (t))), (5, .int (iI (y)))]) Fx.1 Fx.2.1 dX9_mow_44 hl (by decide) rfl (fun ls hl => ?_)
        refine lv_iload Fx.1 Fx.2.1 dX9_mow_46 (lv_at hl 0 rfl) ?_
        refine k_if_eq (a := 0) (tgt := 72) Fx dX9_mow_48 (by decide) (by omega) (fun c_48 => ?_) (fun c_48 => ?_)
        rotate_left
        · exact absurd c_48 (by omega)
        refine k_iconst Fx dX9_mow_72 ?_
        exact r_zret Fx hr hlk X (by decide) dX9_mow_73 rfl (Or.inr ⟨by unfold mOk; omega, (by rw [bI_f (fun h => h)]; rfl), rfl⟩)
      · refine lv_iload Fx.1 Fx.2.1 dX9_mow_28 (lv_at hl 5 rfl) ?_
        refine k_sipush Fx dX9_mow_30 (by decide) ?_
        refine r_callSi (As := [.int (iI (y)), .int (iI (1000))]) (rest := []) hE Fx X (c_X9_below hE l (a := y) (b := 1000) (by omega) (by omega)) cS_X9_83 rfl rfl (Nat.le_of_ble_eq_true rfl) (by decide) hl.1 dX9_mow_33 (fun H locs X => ?_)
        refine k_bif_eq (tgt := 43) Fx dX9_mow_36 (by decide) (fun c_36 => ?_) (fun c_36 => ?_)
        · refine k_iconst Fx dX9_mow_43 ?_
          refine lv_istore (lv' := [(6, .int (iI (0))), (0, .ref (ad 0)), (1, .int (iI (k))), (2, .int (iI (a))), (3, .int (iI (b))), (4, .int (iI (t))), (5, .int (iI (y)))]) Fx.1 Fx.2.1 dX9_mow_44 hl (by decide) rfl (fun ls hl => ?_)
          refine lv_iload Fx.1 Fx.2.1 dX9_mow_46 (lv_at hl 0 rfl) ?_
          refine k_if_eq (a := 0) (tgt := 72) Fx dX9_mow_48 (by decide) (by omega) (fun c_48 => ?_) (fun c_48 => ?_)
          rotate_left
          · exact absurd c_48 (by omega)
          refine k_iconst Fx dX9_mow_72 ?_
          exact r_zret Fx hr hlk X (by decide) dX9_mow_73 rfl (Or.inr ⟨by unfold mOk; omega, (by rw [bI_f (fun h => h)]; rfl), rfl⟩)
        · refine k_iconst Fx dX9_mow_39 ?_
          refine lv_goto (tgt := 44) Fx.1 Fx.2.1 dX9_mow_40 (by decide) ?_
          refine lv_istore (lv' := [(6, .int (iI (1))), (0, .ref (ad 0)), (1, .int (iI (k))), (2, .int (iI (a))), (3, .int (iI (b))), (4, .int (iI (t))), (5, .int (iI (y)))]) Fx.1 Fx.2.1 dX9_mow_44 hl (by decide) rfl (fun ls hl => ?_)
          refine lv_iload Fx.1 Fx.2.1 dX9_mow_46 (lv_at hl 0 rfl) ?_
          refine k_if_eq (a := 1) (tgt := 72) Fx dX9_mow_48 (by decide) (by omega) (fun c_48 => ?_) (fun c_48 => ?_)
          · exact absurd c_48 (by omega)
          have hl := lv_rp hl 2 rfl (show (iI (k)) = (iI (((k.toNat : Nat) : Int))) from congrArg iI (by omega))
          have hl := lv_rp hl 3 rfl (show (iI (a)) = (iI (((a.toNat : Nat) : Int))) from congrArg iI (by omega))
          have hl := lv_rp hl 4 rfl (show (iI (b)) = (iI (((b.toNat : Nat) : Int))) from congrArg iI (by omega))
          have hl := lv_rp hl 5 rfl (show (iI (t)) = (iI (((t.toNat : Nat) : Int))) from congrArg iI (by omega))
          have hl := lv_rp hl 6 rfl (show (iI (y)) = (iI (((y.toNat : Nat) : Int))) from congrArg iI (by omega))
          refine lv_aload_n Fx.1 Fx.2.1 dX9_mow_51 rfl (lv_at hl 1 rfl) ?_
          refine gC_X9_42_0 Fx X dX9_mow_52 ?_
          refine lv_iload_n Fx.1 Fx.2.1 dX9_mow_55 rfl (lv_at hl 2 rfl) ?_
          refine lv_iload_n Fx.1 Fx.2.1 dX9_mow_56 rfl (lv_at hl 3 rfl) ?_
          refine lv_iload_n Fx.1 Fx.2.1 dX9_mow_57 rfl (lv_at hl 4 rfl) ?_
          refine lv_iload Fx.1 Fx.2.1 dX9_mow_58 (lv_at hl 5 rfl) ?_
          refine lv_iload Fx.1 Fx.2.1 dX9_mow_60 (lv_at hl 6 rfl) ?_
          refine r_callV (As := [.int (iI (((k.toNat : Nat) : Int))), .int (iI (((a.toNat : Nat) : Int))), .int (iI (((b.toNat : Nat) : Int))), .int (iI (((t.toNat : Nat) : Int))), .int (iI (((y.toNat : Nat) : Int)))]) (rest := []) hE Fx X (c_X2_tell hE l (by exact hM) hMB (by exact hY) hYB hYT hyc (q := k.toNat) (a := a.toNat) (b := b.toNat) (t := t.toNat) (y := y.toNat) (by omega) (by omega) (by omega) (by omega)) cV_X9_209 (recC_5 X) rfl rfl (Nat.le_of_ble_eq_true rfl) (by decide) hl.1 dX9_mow_62 (fun v9 w9 H locs hq X => ?_)
          rcases hq with ⟨hmn, rfl, f_1, g_2, yc2, Y2, rfl, hM2, hY2, hYB2, hYT2, hyc2, hf9, hg9⟩ | ⟨hmn, rfl, rfl⟩
          · rw [Int.toNat_of_nonneg (show 0 ≤ k by omega), Int.toNat_of_nonneg (show 0 ≤ a by omega), Int.toNat_of_nonneg (show 0 ≤ b by omega), Int.toNat_of_nonneg (show 0 ≤ t by omega), Int.toNat_of_nonneg (show 0 ≤ y by omega)] at hM2 hYT2
            refine k_bif_eq (tgt := 72) Fx dX9_mow_65 (by decide) (fun c_65 => ?_) (fun c_65 => ?_)
            · exact absurd trivial c_65
            refine k_iconst Fx dX9_mow_68 ?_
            refine lv_goto (tgt := 73) Fx.1 Fx.2.1 dX9_mow_69 (by decide) ?_
            exact r_zret Fx hr hlk X (by decide) dX9_mow_73 rfl (Or.inl ⟨⟨by unfold mOk; omega, hmn⟩, (by rw [bI_t trivial]; rfl), _, _, yc2, Y2, rfl, hM2, hY2, hYB2, hYT2, hyc2, hf9, hg9⟩)
          · refine k_bif_eq (tgt := 72) Fx dX9_mow_65 (by decide) (fun c_65 => ?_) (fun c_65 => ?_)
            rotate_left
            · exact absurd c_65 (fun h => h)
            refine k_iconst Fx dX9_mow_72 ?_
            exact r_zret Fx hr hlk X (by decide) dX9_mow_73 rfl (Or.inr ⟨fun z => hmn z.2, (by rw [bI_f (fun h => h)]; rfl), rfl⟩)

abbrev rm_X9_protest : Room := ({ frames := 2, cells := 0, slots := 0, locals := 45 } : Room)
set_option maxHeartbeats 4000000 in
set_option maxRecDepth 100000 in
theorem c_X9_protest {E : XX} (hE : XS E) (l : Launch) {Γ : GG} {ad : Nat → Nat} {ed : Nat} {f g : Nat → Nat → Int32} {tl : va_W} {pn : Nat} {P : Nat → Nat → Nat} (hP : ProC pn P f g) (hPB : ProB pn P) {s y : Int} (hs : -2147483648 ≤ s ∧ s < 2147483648) (hy : -2147483648 ≤ y ∧ y < 2147483648) : Con E l yX9_protest cX9_protest 3 (some .boolean) rm_X9_protest Γ (wC Γ ad ed f g tl) [.ref (ad 0), .int (iI (s)), .int (iI (y))] (fun v w2 => (((0 ≤ s ∧ s ≤ 9) ∧ (0 ≤ y ∧ y ≤ 999) ∧ ¬ aPt pn P s.toNat y.toNat ∧ pn < 20) ∧ v = some (.int (bI True)) ∧ ∃ f1 g1, w2 = wC Γ ad ed f1 g1 tl ∧ ProC (pn + 1) (pPut P pn s y) f1 g1 ∧ (∀ o j, ¬ (o = 6 ∧ j = 2) → f1 o j = f o j) ∧ (∀ j, j ≠ 20 → j ≠ 21 → g1 j = g j)) ∨ (¬ ((0 ≤ s ∧ s ≤ 9) ∧ (0 ≤ y ∧ y ≤ 999) ∧ ¬ aPt pn P s.toNat y.toNat ∧ pn < 20) ∧ v = some (.int (bI False)) ∧ w2 = wC Γ ad ed f g tl)) := by
  refine Con_mk (by decide) (Nat.le_of_ble_eq_true rfl) ?_
  intro p e s₀ m args below meth c A Fx hr hlk hnm X ls hl
  have hl : lv_has ls 3 [(0, .ref (ad 0)), (1, .int (iI (s))), (2, .int (iI (y)))] := hl
  refine lv_iload_n Fx.1 Fx.2.1 dX9_protest_0 rfl (lv_at hl 1 rfl) ?_
  refine k_bipush Fx dX9_protest_1 (by decide) ?_
  refine r_callSi (As := [.int (iI (s)), .int (iI (10))]) (rest := []) hE Fx X (c_X9_below hE l (a := s) (b := 10) (by omega) (by omega)) cS_X9_83 rfl rfl (Nat.le_of_ble_eq_true rfl) (by decide) hl.1 dX9_protest_3 (fun H locs X => ?_)
  refine k_bif_eq (tgt := 35) Fx dX9_protest_6 (by decide) (fun c_6 => ?_) (fun c_6 => ?_)
  · refine k_iconst Fx dX9_protest_35 ?_
    exact r_zret Fx hr hlk X (by decide) dX9_protest_36 rfl (Or.inr ⟨by omega, (by rw [bI_f (fun h => h)]; rfl), rfl⟩)
  · refine lv_iload_n Fx.1 Fx.2.1 dX9_protest_9 rfl (lv_at hl 2 rfl) ?_
    refine k_sipush Fx dX9_protest_10 (by decide) ?_
    refine r_callSi (As := [.int (iI (y)), .int (iI (1000))]) (rest := []) hE Fx X (c_X9_below hE l (a := y) (b := 1000) (by omega) (by omega)) cS_X9_83 rfl rfl (Nat.le_of_ble_eq_true rfl) (by decide) hl.1 dX9_protest_13 (fun H locs X => ?_)
    refine k_bif_eq (tgt := 35) Fx dX9_protest_16 (by decide) (fun c_16 => ?_) (fun c_16 => ?_)
    · refine k_iconst Fx dX9_protest_35 ?_
      exact r_zret Fx hr hlk X (by decide) dX9_protest_36 rfl (Or.inr ⟨by omega, (by rw [bI_f (fun h => h)]; rfl), rfl⟩)
    · have hl := lv_rp hl 1 rfl (show (iI (s)) = (iI (((s.toNat : Nat) : Int))) from congrArg iI (by omega))
      have hl := lv_rp hl 2 rfl (show (iI (y)) = (iI (((y.toNat : Nat) : Int))) from congrArg iI (by omega))
      refine lv_aload_n Fx.1 Fx.2.1 dX9_protest_19 rfl (lv_at hl 0 rfl) ?_
      refine gC_X9_49_0 Fx X dX9_protest_20 ?_
      refine lv_iload_n Fx.1 Fx.2.1 dX9_protest_23 rfl (lv_at hl 1 rfl) ?_
      refine lv_iload_n Fx.1 Fx.2.1 dX9_protest_24 rfl (lv_at hl 2 rfl) ?_
      refine r_callV (As := [.int (iI (((s.toNat : Nat) : Int))), .int (iI (((y.toNat : Nat) : Int)))]) (rest := []) hE Fx X (c_X4_tell hE l (by exact hP) hPB (s := s.toNat) (y := y.toNat) (by omega) (by omega)) cV_X9_213 (recC_6 X) rfl rfl (Nat.le_of_ble_eq_true rfl) (by decide) hl.1 dX9_protest_25 (fun v9 w9 H locs hq X => ?_)
      rcases hq with ⟨hpn, rfl, f_1, g_2, rfl, hP2, hf9, hg9⟩ | ⟨hpn, rfl, rfl⟩
      · rw [Int.toNat_of_nonneg (show 0 ≤ s by omega), Int.toNat_of_nonneg (show 0 ≤ y by omega)] at hP2
        refine k_bif_eq (tgt := 35) Fx dX9_protest_28 (by decide) (fun c_28 => ?_) (fun c_28 => ?_)
        · exact absurd trivial c_28
        refine k_iconst Fx dX9_protest_31 ?_
        refine lv_goto (tgt := 36) Fx.1 Fx.2.1 dX9_protest_32 (by decide) ?_
        exact r_zret Fx hr hlk X (by decide) dX9_protest_36 rfl (Or.inl ⟨⟨by omega, by omega, hpn⟩, (by rw [bI_t trivial]; rfl), _, _, rfl, hP2, hf9, hg9⟩)
      · refine k_bif_eq (tgt := 35) Fx dX9_protest_28 (by decide) (fun c_28 => ?_) (fun c_28 => ?_)
        rotate_left
        · exact absurd c_28 (fun h => h)
        refine k_iconst Fx dX9_protest_35 ?_
        exact r_zret Fx hr hlk X (by decide) dX9_protest_36 rfl (Or.inr ⟨fun z => hpn z.2.2, (by rw [bI_f (fun h => h)]; rfl), rfl⟩)

abbrev rm_X9_mowed : Room := ({ frames := 1, cells := 0, slots := 0, locals := 24 } : Room)
set_option maxHeartbeats 4000000 in
set_option maxRecDepth 100000 in
theorem c_X9_mowed {E : XX} (hE : XS E) (l : Launch) {Γ : GG} {ad : Nat → Nat} {ed : Nat} {f g : Nat → Nat → Int32} {tl : va_W} {mn : Nat} {M : Nat → Nat → Nat} (hM : MowC mn M f g) (hMB : MowB mn M) {q s y : Int} (hq : -2147483648 ≤ q ∧ q < 2147483648) (hs : -2147483648 ≤ s ∧ s < 2147483648) (hy : -2147483648 ≤ y ∧ y < 2147483648) : Con E l yX9_mowed cX9_mowed 5 (some .int) rm_X9_mowed Γ (wC Γ ad ed f g tl) [.ref (ad 0), .int (iI (q)), .int (iI (s)), .int (iI (y))] (Qi (iI (aMowed mn M q s y)) (wC Γ ad ed f g tl)) := by
  refine Con_mk (by decide) (Nat.le_of_ble_eq_true rfl) ?_
  intro p e s₀ m args below meth c A Fx hr hlk hnm X ls hl
  have hl : lv_has ls 5 [(0, .ref (ad 0)), (1, .int (iI (q))), (2, .int (iI (s))), (3, .int (iI (y)))] := hl
  refine lv_iload_n Fx.1 Fx.2.1 dX9_mowed_0 rfl (lv_at hl 1 rfl) ?_
  refine k_iconst Fx dX9_mowed_1 ?_
  refine r_callSi (As := [.int (iI (q)), .int (iI (2))]) (rest := []) hE Fx X (c_X9_below hE l (a := q) (b := 2) (by omega) (by omega)) cS_X9_83 rfl rfl (Nat.le_of_ble_eq_true rfl) (by decide) hl.1 dX9_mowed_2 (fun H locs X => ?_)
  refine k_bif_eq (tgt := 31) Fx dX9_mowed_5 (by decide) (fun c_5 => ?_) (fun c_5 => ?_)
  · refine k_iconst Fx dX9_mowed_31 ?_
    refine lv_istore (lv' := [(4, .int (iI (0))), (0, .ref (ad 0)), (1, .int (iI (q))), (2, .int (iI (s))), (3, .int (iI (y)))]) Fx.1 Fx.2.1 dX9_mowed_32 hl (by decide) rfl (fun ls hl => ?_)
    refine lv_iload Fx.1 Fx.2.1 dX9_mowed_34 (lv_at hl 0 rfl) ?_
    refine k_if_eq (a := 0) (tgt := 52) Fx dX9_mowed_36 (by decide) (by omega) (fun c_36 => ?_) (fun c_36 => ?_)
    rotate_left
    · exact absurd c_36 (by omega)
    refine k_iconst Fx dX9_mowed_52 ?_
    exact r_iret Fx hr hlk X (by decide) dX9_mowed_53 (Qi_mk (congrArg iI (by unfold aMowed; rw [if_neg (by omega)])))
  · refine lv_iload_n Fx.1 Fx.2.1 dX9_mowed_8 rfl (lv_at hl 2 rfl) ?_
    refine k_bipush Fx dX9_mowed_9 (by decide) ?_
    refine r_callSi (As := [.int (iI (s)), .int (iI (10))]) (rest := []) hE Fx X (c_X9_below hE l (a := s) (b := 10) (by omega) (by omega)) cS_X9_83 rfl rfl (Nat.le_of_ble_eq_true rfl) (by decide) hl.1 dX9_mowed_11 (fun H locs X => ?_)
    refine k_bif_eq (tgt := 31) Fx dX9_mowed_14 (by decide) (fun c_14 => ?_) (fun c_14 => ?_)
    · refine k_iconst Fx dX9_mowed_31 ?_
      refine lv_istore (lv' := [(4, .int (iI (0))), (0, .ref (ad 0)), (1, .int (iI (q))), (2, .int (iI (s))), (3, .int (iI (y)))]) Fx.1 Fx.2.1 dX9_mowed_32 hl (by decide) rfl (fun ls hl => ?_)
      refine lv_iload Fx.1 Fx.2.1 dX9_mowed_34 (lv_at hl 0 rfl) ?_
      refine k_if_eq (a := 0) (tgt := 52) Fx dX9_mowed_36 (by decide) (by omega) (fun c_36 => ?_) (fun c_36 => ?_)
      rotate_left
      · exact absurd c_36 (by omega)
      refine k_iconst Fx dX9_mowed_52 ?_
      exact r_iret Fx hr hlk X (by decide) dX9_mowed_53 (Qi_mk (congrArg iI (by unfold aMowed; rw [if_neg (by omega)])))
    · refine lv_iload_n Fx.1 Fx.2.1 dX9_mowed_17 rfl (lv_at hl 3 rfl) ?_
      refine k_sipush Fx dX9_mowed_18 (by decide) ?_
      refine r_callSi (As := [.int (iI (y)), .int (iI (1000))]) (rest := []) hE Fx X (c_X9_below hE l (a := y) (b := 1000) (by omega) (by omega)) cS_X9_83 rfl rfl (Nat.le_of_ble_eq_true rfl) (by decide) hl.1 dX9_mowed_21 (fun H locs X => ?_)
      refine k_bif_eq (tgt := 31) Fx dX9_mowed_24 (by decide) (fun c_24 => ?_) (fun c_24 => ?_)
      · refine k_iconst Fx dX9_mowed_31 ?_
        refine lv_istore (lv' := [(4, .int (iI (0))), (0, .ref (ad 0)), (1, .int (iI (q))), (2, .int (iI (s))), (3, .int (iI (y)))]) Fx.1 Fx.2.1 dX9_mowed_32 hl (by decide) rfl (fun ls hl => ?_)
        refine lv_iload Fx.1 Fx.2.1 dX9_mowed_34 (lv_at hl 0 rfl) ?_
        refine k_if_eq (a := 0) (tgt := 52) Fx dX9_mowed_36 (by decide) (by omega) (fun c_36 => ?_) (fun c_36 => ?_)
        rotate_left
        · exact absurd c_36 (by omega)
        refine k_iconst Fx dX9_mowed_52 ?_
        exact r_iret Fx hr hlk X (by decide) dX9_mowed_53 (Qi_mk (congrArg iI (by unfold aMowed; rw [if_neg (by omega)])))
      · refine k_iconst Fx dX9_mowed_27 ?_
        refine lv_goto (tgt := 32) Fx.1 Fx.2.1 dX9_mowed_28 (by decide) ?_
        refine lv_istore (lv' := [(4, .int (iI (1))), (0, .ref (ad 0)), (1, .int (iI (q))), (2, .int (iI (s))), (3, .int (iI (y)))]) Fx.1 Fx.2.1 dX9_mowed_32 hl (by decide) rfl (fun ls hl => ?_)
        refine lv_iload Fx.1 Fx.2.1 dX9_mowed_34 (lv_at hl 0 rfl) ?_
        refine k_if_eq (a := 1) (tgt := 52) Fx dX9_mowed_36 (by decide) (by omega) (fun c_36 => ?_) (fun c_36 => ?_)
        · exact absurd c_36 (by omega)
        have hl := lv_rp hl 2 rfl (show (iI (q)) = (iI (((q.toNat : Nat) : Int))) from congrArg iI (by omega))
        have hl := lv_rp hl 3 rfl (show (iI (s)) = (iI (((s.toNat : Nat) : Int))) from congrArg iI (by omega))
        have hl := lv_rp hl 4 rfl (show (iI (y)) = (iI (((y.toNat : Nat) : Int))) from congrArg iI (by omega))
        refine lv_aload_n Fx.1 Fx.2.1 dX9_mowed_39 rfl (lv_at hl 1 rfl) ?_
        refine gC_X9_42_0 Fx X dX9_mowed_40 ?_
        refine lv_iload_n Fx.1 Fx.2.1 dX9_mowed_43 rfl (lv_at hl 2 rfl) ?_
        refine lv_iload_n Fx.1 Fx.2.1 dX9_mowed_44 rfl (lv_at hl 3 rfl) ?_
        refine lv_iload_n Fx.1 Fx.2.1 dX9_mowed_45 rfl (lv_at hl 4 rfl) ?_
        refine r_callVi (As := [.int (iI (((q.toNat : Nat) : Int))), .int (iI (((s.toNat : Nat) : Int))), .int (iI (((y.toNat : Nat) : Int)))]) (rest := []) hE Fx X (c_X2_reachOf hE l (by exact hM) hMB (q := q.toNat) (s := s.toNat) (y := y.toNat) (by omega) (by omega) (by omega)) cV_X9_215 (recC_5 X) rfl rfl (Nat.le_of_ble_eq_true rfl) (by decide) hl.1 dX9_mowed_46 (fun H locs X => ?_)
        refine lv_goto (tgt := 53) Fx.1 Fx.2.1 dX9_mowed_49 (by decide) ?_
        exact r_iret Fx hr hlk X (by decide) dX9_mowed_53 (Qi_mk (congrArg iI (by unfold aMowed; rw [if_pos (by omega)])))

theorem qOk_i {a0 a1 v0 v1 k0 k1 m0 m1 : Int} : qOk (fun j => if j = 0 then a0 else if j = 1 then a1 else if j = 2 then v0 else if j = 3 then v1 else if j = 4 then k0 else if j = 5 then k1 else if j = 6 then m0 else m1) ↔ ((0 ≤ a0 ∧ a0 ≤ 79) ∧ (0 ≤ a1 ∧ a1 ≤ 79) ∧ a1 < a0 ∧ (0 ≤ v0 ∧ v0 ≤ 99) ∧ (0 ≤ v1 ∧ v1 ≤ 99) ∧ (0 ≤ k0 ∧ k0 ≤ 999) ∧ (0 ≤ k1 ∧ k1 ≤ 999) ∧ (1 ≤ m0 ∧ m0 ≤ 99) ∧ (1 ≤ m1 ∧ m1 ≤ 99)) := Iff.rfl
theorem two_c {P : Nat → Prop} (h0 : P 0) (h1 : P 1) : ∀ n, n < 2 → P n := fun n hn => by
  rcases (show n = 0 ∨ n = 1 by omega) with e | e
  · subst e; exact h0
  · subst e; exact h1
def QuaC (o : Prop) (q : Nat → Int) (f : Nat → Nat → Int32) : Prop := f 8 0 = bI o ∧ (o → JdC q (q 0 - q 1 + 1).toNat f)

abbrev rm_X9_quarrel : Room := ({ frames := 2, cells := 0, slots := 0, locals := 46 } : Room)
set_option maxHeartbeats 4000000 in
set_option maxRecDepth 100000 in
theorem c_X9_quarrel {E : XX} (hE : XS E) (l : Launch) {Γ : GG} {κ : KK} (hN : EN E κ)  {ad : Nat → Nat} {ed : Nat} {f g : Nat → Nat → Int32} {tl : va_W} {a0 a1 v0 v1 k0 k1 m0 m1 : Int} (ha0 : -2147483648 ≤ a0 ∧ a0 < 2147483648) (ha1 : -2147483648 ≤ a1 ∧ a1 < 2147483648) (hv0 : -2147483648 ≤ v0 ∧ v0 < 2147483648) (hv1 : -2147483648 ≤ v1 ∧ v1 < 2147483648) (hk0 : -2147483648 ≤ k0 ∧ k0 < 2147483648) (hk1 : -2147483648 ≤ k1 ∧ k1 < 2147483648) (hm0 : -2147483648 ≤ m0 ∧ m0 < 2147483648) (hm1 : -2147483648 ≤ m1 ∧ m1 < 2147483648) : Con E l yX9_quarrel cX9_quarrel 10 (some .boolean) rm_X9_quarrel Γ (wC Γ ad ed f g tl) [.ref (ad 0), .int (iI (a0)), .int (iI (a1)), .int (iI (v0)), .int (iI (v1)), .int (iI (k0)), .int (iI (k1)), .int (iI (m0)), .int (iI (m1))] (fun v w2 => (qOk (fun j => if j = 0 then a0 else if j = 1 then a1 else if j = 2 then v0 else if j = 3 then v1 else if j = 4 then k0 else if j = 5 then k1 else if j = 6 then m0 else m1) ∧ v = some (.int (bI True)) ∧ ∃ f1 g1, w2 = wC Γ ad ed f1 g1 tl ∧ QuaC True (fun j => if j = 0 then a0 else if j = 1 then a1 else if j = 2 then v0 else if j = 3 then v1 else if j = 4 then k0 else if j = 5 then k1 else if j = 6 then m0 else m1) f1 ∧ (∀ o j, o ≠ 8 → f1 o j = f o j) ∧ (∀ j, (j < 25 ∨ 27 < j) → g1 j = g j)) ∨ (¬ qOk (fun j => if j = 0 then a0 else if j = 1 then a1 else if j = 2 then v0 else if j = 3 then v1 else if j = 4 then k0 else if j = 5 then k1 else if j = 6 then m0 else m1) ∧ v = some (.int (bI False)) ∧ w2 = wC Γ ad ed f g tl)) := by
  refine Con_mk (by decide) (Nat.le_of_ble_eq_true rfl) ?_
  intro p e s₀ m args below meth c A Fx hr hlk hnm X ls hl
  have hl : lv_has ls 10 [(0, .ref (ad 0)), (1, .int (iI (a0))), (2, .int (iI (a1))), (3, .int (iI (v0))), (4, .int (iI (v1))), (5, .int (iI (k0))), (6, .int (iI (k1))), (7, .int (iI (m0))), (8, .int (iI (m1)))] := hl
  refine lv_iload_n Fx.1 Fx.2.1 dX9_quarrel_0 rfl (lv_at hl 1 rfl) ?_
  refine k_bipush Fx dX9_quarrel_1 (by decide) ?_
  refine r_callSi (As := [.int (iI (a0)), .int (iI (80))]) (rest := []) hE Fx X (c_X9_below hE l (a := a0) (b := 80) (by omega) (by omega)) cS_X9_83 rfl rfl (Nat.le_of_ble_eq_true rfl) (by decide) hl.1 dX9_quarrel_3 (fun H locs X => ?_)
  refine k_bif_eq (tgt := 50) Fx dX9_quarrel_6 (by decide) (fun c_6 => ?_) (fun c_6 => ?_)
  · refine k_iconst Fx dX9_quarrel_50 ?_
    refine lv_istore (lv' := [(9, .int (iI (0))), (0, .ref (ad 0)), (1, .int (iI (a0))), (2, .int (iI (a1))), (3, .int (iI (v0))), (4, .int (iI (v1))), (5, .int (iI (k0))), (6, .int (iI (k1))), (7, .int (iI (m0))), (8, .int (iI (m1)))]) Fx.1 Fx.2.1 dX9_quarrel_51 hl (by decide) rfl (fun ls hl => ?_)
    refine lv_iload Fx.1 Fx.2.1 dX9_quarrel_53 (lv_at hl 0 rfl) ?_
    refine k_if_ne (a := 0) (tgt := 60) Fx dX9_quarrel_55 (by decide) (by omega) (fun c_55 => ?_) (fun c_55 => ?_)
    · exact absurd c_55 (by omega)
    refine k_iconst Fx dX9_quarrel_58 ?_
    exact r_zret Fx hr hlk X (by decide) dX9_quarrel_59 rfl (Or.inr ⟨fun z => by have z := qOk_i.mp z; omega, (by rw [bI_f (fun h => h)]; rfl), rfl⟩)
  · refine lv_iload_n Fx.1 Fx.2.1 dX9_quarrel_9 rfl (lv_at hl 2 rfl) ?_
    refine k_bipush Fx dX9_quarrel_10 (by decide) ?_
    refine r_callSi (As := [.int (iI (a1)), .int (iI (80))]) (rest := []) hE Fx X (c_X9_below hE l (a := a1) (b := 80) (by omega) (by omega)) cS_X9_83 rfl rfl (Nat.le_of_ble_eq_true rfl) (by decide) hl.1 dX9_quarrel_12 (fun H locs X => ?_)
    refine k_bif_eq (tgt := 50) Fx dX9_quarrel_15 (by decide) (fun c_15 => ?_) (fun c_15 => ?_)
    · refine k_iconst Fx dX9_quarrel_50 ?_
      refine lv_istore (lv' := [(9, .int (iI (0))), (0, .ref (ad 0)), (1, .int (iI (a0))), (2, .int (iI (a1))), (3, .int (iI (v0))), (4, .int (iI (v1))), (5, .int (iI (k0))), (6, .int (iI (k1))), (7, .int (iI (m0))), (8, .int (iI (m1)))]) Fx.1 Fx.2.1 dX9_quarrel_51 hl (by decide) rfl (fun ls hl => ?_)
      refine lv_iload Fx.1 Fx.2.1 dX9_quarrel_53 (lv_at hl 0 rfl) ?_
      refine k_if_ne (a := 0) (tgt := 60) Fx dX9_quarrel_55 (by decide) (by omega) (fun c_55 => ?_) (fun c_55 => ?_)
      · exact absurd c_55 (by omega)
      refine k_iconst Fx dX9_quarrel_58 ?_
      exact r_zret Fx hr hlk X (by decide) dX9_quarrel_59 rfl (Or.inr ⟨fun z => by have z := qOk_i.mp z; omega, (by rw [bI_f (fun h => h)]; rfl), rfl⟩)
    · refine lv_iload_n Fx.1 Fx.2.1 dX9_quarrel_18 rfl (lv_at hl 1 rfl) ?_
      refine lv_iload_n Fx.1 Fx.2.1 dX9_quarrel_19 rfl (lv_at hl 2 rfl) ?_
      refine k_icmp_le (a := a0) (b := a1) (tgt := 50) Fx dX9_quarrel_20 (by decide) (by omega) (by omega) (fun c_20 => ?_) (fun c_20 => ?_)
      · refine k_iconst Fx dX9_quarrel_50 ?_
        refine lv_istore (lv' := [(9, .int (iI (0))), (0, .ref (ad 0)), (1, .int (iI (a0))), (2, .int (iI (a1))), (3, .int (iI (v0))), (4, .int (iI (v1))), (5, .int (iI (k0))), (6, .int (iI (k1))), (7, .int (iI (m0))), (8, .int (iI (m1)))]) Fx.1 Fx.2.1 dX9_quarrel_51 hl (by decide) rfl (fun ls hl => ?_)
        refine lv_iload Fx.1 Fx.2.1 dX9_quarrel_53 (lv_at hl 0 rfl) ?_
        refine k_if_ne (a := 0) (tgt := 60) Fx dX9_quarrel_55 (by decide) (by omega) (fun c_55 => ?_) (fun c_55 => ?_)
        · exact absurd c_55 (by omega)
        refine k_iconst Fx dX9_quarrel_58 ?_
        exact r_zret Fx hr hlk X (by decide) dX9_quarrel_59 rfl (Or.inr ⟨fun z => by have z := qOk_i.mp z; omega, (by rw [bI_f (fun h => h)]; rfl), rfl⟩)
      · refine lv_iload_n Fx.1 Fx.2.1 dX9_quarrel_23 rfl (lv_at hl 3 rfl) ?_
        refine lv_iload Fx.1 Fx.2.1 dX9_quarrel_24 (lv_at hl 5 rfl) ?_
        refine lv_iload Fx.1 Fx.2.1 dX9_quarrel_26 (lv_at hl 7 rfl) ?_
        refine r_callSi (As := [.int (iI (v0)), .int (iI (k0)), .int (iI (m0))]) (rest := []) hE Fx X (c_X5_isParty hE l hN (a := v0) (b := k0) (c9 := m0) (by omega) (by omega) (by omega)) cS_X9_233 rfl rfl (Nat.le_of_ble_eq_true rfl) (by decide) hl.1 dX9_quarrel_28 (fun H locs X => ?_)
        refine k_bif_eq (tgt := 50) Fx dX9_quarrel_31 (by decide) (fun c_31 => ?_) (fun c_31 => ?_)
        · refine k_iconst Fx dX9_quarrel_50 ?_
          refine lv_istore (lv' := [(9, .int (iI (0))), (0, .ref (ad 0)), (1, .int (iI (a0))), (2, .int (iI (a1))), (3, .int (iI (v0))), (4, .int (iI (v1))), (5, .int (iI (k0))), (6, .int (iI (k1))), (7, .int (iI (m0))), (8, .int (iI (m1)))]) Fx.1 Fx.2.1 dX9_quarrel_51 hl (by decide) rfl (fun ls hl => ?_)
          refine lv_iload Fx.1 Fx.2.1 dX9_quarrel_53 (lv_at hl 0 rfl) ?_
          refine k_if_ne (a := 0) (tgt := 60) Fx dX9_quarrel_55 (by decide) (by omega) (fun c_55 => ?_) (fun c_55 => ?_)
          · exact absurd c_55 (by omega)
          refine k_iconst Fx dX9_quarrel_58 ?_
          exact r_zret Fx hr hlk X (by decide) dX9_quarrel_59 rfl (Or.inr ⟨fun z => by have z := qOk_i.mp z; omega, (by rw [bI_f (fun h => h)]; rfl), rfl⟩)
        · refine lv_iload Fx.1 Fx.2.1 dX9_quarrel_34 (lv_at hl 4 rfl) ?_
          refine lv_iload Fx.1 Fx.2.1 dX9_quarrel_36 (lv_at hl 6 rfl) ?_
          refine lv_iload Fx.1 Fx.2.1 dX9_quarrel_38 (lv_at hl 8 rfl) ?_
          refine r_callSi (As := [.int (iI (v1)), .int (iI (k1)), .int (iI (m1))]) (rest := []) hE Fx X (c_X5_isParty hE l hN (a := v1) (b := k1) (c9 := m1) (by omega) (by omega) (by omega)) cS_X9_233 rfl rfl (Nat.le_of_ble_eq_true rfl) (by decide) hl.1 dX9_quarrel_40 (fun H locs X => ?_)
          refine k_bif_eq (tgt := 50) Fx dX9_quarrel_43 (by decide) (fun c_43 => ?_) (fun c_43 => ?_)
          · refine k_iconst Fx dX9_quarrel_50 ?_
            refine lv_istore (lv' := [(9, .int (iI (0))), (0, .ref (ad 0)), (1, .int (iI (a0))), (2, .int (iI (a1))), (3, .int (iI (v0))), (4, .int (iI (v1))), (5, .int (iI (k0))), (6, .int (iI (k1))), (7, .int (iI (m0))), (8, .int (iI (m1)))]) Fx.1 Fx.2.1 dX9_quarrel_51 hl (by decide) rfl (fun ls hl => ?_)
            refine lv_iload Fx.1 Fx.2.1 dX9_quarrel_53 (lv_at hl 0 rfl) ?_
            refine k_if_ne (a := 0) (tgt := 60) Fx dX9_quarrel_55 (by decide) (by omega) (fun c_55 => ?_) (fun c_55 => ?_)
            · exact absurd c_55 (by omega)
            refine k_iconst Fx dX9_quarrel_58 ?_
            exact r_zret Fx hr hlk X (by decide) dX9_quarrel_59 rfl (Or.inr ⟨fun z => by have z := qOk_i.mp z; omega, (by rw [bI_f (fun h => h)]; rfl), rfl⟩)
          · refine k_iconst Fx dX9_quarrel_46 ?_
            refine lv_goto (tgt := 51) Fx.1 Fx.2.1 dX9_quarrel_47 (by decide) ?_
            refine lv_istore (lv' := [(9, .int (iI (1))), (0, .ref (ad 0)), (1, .int (iI (a0))), (2, .int (iI (a1))), (3, .int (iI (v0))), (4, .int (iI (v1))), (5, .int (iI (k0))), (6, .int (iI (k1))), (7, .int (iI (m0))), (8, .int (iI (m1)))]) Fx.1 Fx.2.1 dX9_quarrel_51 hl (by decide) rfl (fun ls hl => ?_)
            refine lv_iload Fx.1 Fx.2.1 dX9_quarrel_53 (lv_at hl 0 rfl) ?_
            refine k_if_ne (a := 1) (tgt := 60) Fx dX9_quarrel_55 (by decide) (by omega) (fun c_55 => ?_) (fun c_55 => ?_)
            rotate_left
            · exact absurd c_55 (by omega)
            refine lv_aload_n Fx.1 Fx.2.1 dX9_quarrel_60 rfl (lv_at hl 1 rfl) ?_
            refine gC_X9_65_0 Fx X dX9_quarrel_61 ?_
            refine lv_iload_n Fx.1 Fx.2.1 dX9_quarrel_64 rfl (lv_at hl 2 rfl) ?_
            refine lv_iload_n Fx.1 Fx.2.1 dX9_quarrel_65 rfl (lv_at hl 3 rfl) ?_
            refine r_callV (As := [.int (iI (a0)), .int (iI (a1))]) (rest := []) hE Fx X (c_X5_open hE l (a := a0) (b := a1)) cV_X9_236 (recC_8 X) rfl rfl (Nat.le_of_ble_eq_true rfl) (by decide) hl.1 dX9_quarrel_66 (fun v9 w9 H locs hq X => ?_)
            obtain ⟨rfl, rfl⟩ := hq
            refine lv_aload_n Fx.1 Fx.2.1 dX9_quarrel_69 rfl (lv_at hl 1 rfl) ?_
            refine gC_X9_65_0 Fx X dX9_quarrel_70 ?_
            refine k_iconst Fx dX9_quarrel_73 ?_
            refine lv_iload_n Fx.1 Fx.2.1 dX9_quarrel_74 rfl (lv_at hl 4 rfl) ?_
            refine lv_iload Fx.1 Fx.2.1 dX9_quarrel_75 (lv_at hl 6 rfl) ?_
            refine lv_iload Fx.1 Fx.2.1 dX9_quarrel_77 (lv_at hl 8 rfl) ?_
            refine r_callV (As := [.int (iI (0)), .int (iI (v0)), .int (iI (k0)), .int (iI (m0))]) (rest := []) hE Fx X (c_X5_setParty hE l (n := 0) (by omega) (a := v0) (b := k0) (c9 := m0)) cV_X9_240 (recC_8 X) rfl rfl (Nat.le_of_ble_eq_true rfl) (by decide) hl.1 dX9_quarrel_79 (fun v9 w9 H locs hq X => ?_)
            obtain ⟨rfl, rfl⟩ := hq
            refine lv_aload_n Fx.1 Fx.2.1 dX9_quarrel_82 rfl (lv_at hl 1 rfl) ?_
            refine gC_X9_65_0 Fx X dX9_quarrel_83 ?_
            refine k_iconst Fx dX9_quarrel_86 ?_
            refine lv_iload Fx.1 Fx.2.1 dX9_quarrel_87 (lv_at hl 5 rfl) ?_
            refine lv_iload Fx.1 Fx.2.1 dX9_quarrel_89 (lv_at hl 7 rfl) ?_
            refine lv_iload Fx.1 Fx.2.1 dX9_quarrel_91 (lv_at hl 9 rfl) ?_
            refine r_callV (As := [.int (iI (1)), .int (iI (v1)), .int (iI (k1)), .int (iI (m1))]) (rest := []) hE Fx X (c_X5_setParty hE l (n := 1) (by omega) (a := v1) (b := k1) (c9 := m1)) cV_X9_240 (recC_8 X) rfl rfl (Nat.le_of_ble_eq_true rfl) (by decide) hl.1 dX9_quarrel_93 (fun v9 w9 H locs hq X => ?_)
            obtain ⟨rfl, rfl⟩ := hq
            refine lv_aload_n Fx.1 Fx.2.1 dX9_quarrel_96 rfl (lv_at hl 1 rfl) ?_
            refine gC_X9_65_0 Fx X dX9_quarrel_97 ?_
            have hqk : qOk (fun j => if j = 0 then a0 else if j = 1 then a1 else if j = 2 then v0 else if j = 3 then v1 else if j = 4 then k0 else if j = 5 then k1 else if j = 6 then m0 else m1) := qOk_i.mpr (by omega)
            have hQP : QuaP (fun j => if j = 0 then a0 else if j = 1 then a1 else if j = 2 then v0 else if j = 3 then v1 else if j = 4 then k0 else if j = 5 then k1 else if j = 6 then m0 else m1) (updA (updA (updA f 8 (upd (f 8) 0 (iI 1))) 8 (upd ((updA f 8 (upd (f 8) 0 (iI 1))) 8) 5 (iI (a0)))) 8 (upd ((updA (updA f 8 (upd (f 8) 0 (iI 1))) 8 (upd ((updA f 8 (upd (f 8) 0 (iI 1))) 8) 5 (iI (a0)))) 8) 6 (iI (a1)))) (updA (updA (updA (updA (updA (updA g 25 (upd (g 25) 0 (iI (v0)))) 26 (upd ((updA g 25 (upd (g 25) 0 (iI (v0)))) 26) 0 (iI (k0)))) 27 (upd ((updA (updA g 25 (upd (g 25) 0 (iI (v0)))) 26 (upd ((updA g 25 (upd (g 25) 0 (iI (v0)))) 26) 0 (iI (k0)))) 27) 0 (iI (m0)))) 25 (upd ((updA (updA (updA g 25 (upd (g 25) 0 (iI (v0)))) 26 (upd ((updA g 25 (upd (g 25) 0 (iI (v0)))) 26) 0 (iI (k0)))) 27 (upd ((updA (updA g 25 (upd (g 25) 0 (iI (v0)))) 26 (upd ((updA g 25 (upd (g 25) 0 (iI (v0)))) 26) 0 (iI (k0)))) 27) 0 (iI (m0)))) 25) 1 (iI (v1)))) 26 (upd ((updA (updA (updA (updA g 25 (upd (g 25) 0 (iI (v0)))) 26 (upd ((updA g 25 (upd (g 25) 0 (iI (v0)))) 26) 0 (iI (k0)))) 27 (upd ((updA (updA g 25 (upd (g 25) 0 (iI (v0)))) 26 (upd ((updA g 25 (upd (g 25) 0 (iI (v0)))) 26) 0 (iI (k0)))) 27) 0 (iI (m0)))) 25 (upd ((updA (updA (updA g 25 (upd (g 25) 0 (iI (v0)))) 26 (upd ((updA g 25 (upd (g 25) 0 (iI (v0)))) 26) 0 (iI (k0)))) 27 (upd ((updA (updA g 25 (upd (g 25) 0 (iI (v0)))) 26 (upd ((updA g 25 (upd (g 25) 0 (iI (v0)))) 26) 0 (iI (k0)))) 27) 0 (iI (m0)))) 25) 1 (iI (v1)))) 26) 1 (iI (k1)))) 27 (upd ((updA (updA (updA (updA (updA g 25 (upd (g 25) 0 (iI (v0)))) 26 (upd ((updA g 25 (upd (g 25) 0 (iI (v0)))) 26) 0 (iI (k0)))) 27 (upd ((updA (updA g 25 (upd (g 25) 0 (iI (v0)))) 26 (upd ((updA g 25 (upd (g 25) 0 (iI (v0)))) 26) 0 (iI (k0)))) 27) 0 (iI (m0)))) 25 (upd ((updA (updA (updA g 25 (upd (g 25) 0 (iI (v0)))) 26 (upd ((updA g 25 (upd (g 25) 0 (iI (v0)))) 26) 0 (iI (k0)))) 27 (upd ((updA (updA g 25 (upd (g 25) 0 (iI (v0)))) 26 (upd ((updA g 25 (upd (g 25) 0 (iI (v0)))) 26) 0 (iI (k0)))) 27) 0 (iI (m0)))) 25) 1 (iI (v1)))) 26 (upd ((updA (updA (updA (updA g 25 (upd (g 25) 0 (iI (v0)))) 26 (upd ((updA g 25 (upd (g 25) 0 (iI (v0)))) 26) 0 (iI (k0)))) 27 (upd ((updA (updA g 25 (upd (g 25) 0 (iI (v0)))) 26 (upd ((updA g 25 (upd (g 25) 0 (iI (v0)))) 26) 0 (iI (k0)))) 27) 0 (iI (m0)))) 25 (upd ((updA (updA (updA g 25 (upd (g 25) 0 (iI (v0)))) 26 (upd ((updA g 25 (upd (g 25) 0 (iI (v0)))) 26) 0 (iI (k0)))) 27 (upd ((updA (updA g 25 (upd (g 25) 0 (iI (v0)))) 26 (upd ((updA g 25 (upd (g 25) 0 (iI (v0)))) 26) 0 (iI (k0)))) 27) 0 (iI (m0)))) 25) 1 (iI (v1)))) 26) 1 (iI (k1)))) 27) 1 (iI (m1)))) := ⟨rfl, rfl, two_c rfl rfl, two_c rfl rfl, two_c rfl rfl⟩
            refine r_callV (As := []) (rest := []) hE Fx X (c_X5_judge hE l (q := (fun j => if j = 0 then a0 else if j = 1 then a1 else if j = 2 then v0 else if j = 3 then v1 else if j = 4 then k0 else if j = 5 then k1 else if j = 6 then m0 else m1)) hQP hqk) cV_X9_244 (recC_8 X) rfl rfl (Nat.le_of_ble_eq_true rfl) (by decide) hl.1 dX9_quarrel_100 (fun v9 w9 H locs hq X => ?_)
            obtain ⟨rfl, f_1, rfl, hJ, hFr⟩ := hq
            refine k_iconst Fx dX9_quarrel_103 ?_
            exact r_zret Fx hr hlk X (by decide) dX9_quarrel_104 rfl (Or.inl ⟨hqk, (by rw [bI_t trivial]; rfl), _, _, rfl, ⟨(hFr 8 0 (by omega)).trans (bI_1 trivial), fun _ => hJ⟩, fun o j h => (hFr o j (by omega)).trans (((frF (by omega)).trans (frF (by omega))).trans (frF (by omega))), fun j h => (((((updA_n (by omega)).trans (updA_n (by omega))).trans (updA_n (by omega))).trans (updA_n (by omega))).trans (updA_n (by omega))).trans (updA_n (by omega))⟩)

abbrev rm_X9_split : Room := ({ frames := 0, cells := 0, slots := 0, locals := 0 } : Room)
set_option maxHeartbeats 4000000 in
set_option maxRecDepth 100000 in
theorem c_X9_split {E : XX} (hE : XS E) (l : Launch) {Γ : GG} {ad : Nat → Nat} {ed : Nat} {f g : Nat → Nat → Int32} {tl : va_W} {o : Prop} {q : Nat → Int} (hQ : QuaC o q f) {z : Int} (hz : -2147483648 ≤ z ∧ z < 2147483648) : Con E l yX9_split cX9_split 2 (some .int) rm_X9_split Γ (wC Γ ad ed f g tl) [.ref (ad 0), .int (iI (z))] (Qi (iI (aSpl o q z)) (wC Γ ad ed f g tl)) := by
  refine Con_mk (by decide) (Nat.le_of_ble_eq_true rfl) ?_
  intro p e s₀ m args below meth c A Fx hr hlk hnm X ls hl
  have hl : lv_has ls 2 [(0, .ref (ad 0)), (1, .int (iI (z)))] := hl
  refine lv_aload_n Fx.1 Fx.2.1 dX9_split_0 rfl (lv_at hl 0 rfl) ?_
  refine gC_X9_65_0 Fx X dX9_split_1 ?_
  refine gC_X9_247_8 (x := (bI (o))) Fx X (hQ.1) dX9_split_4 ?_
  refine k_bif_ne (tgt := 12) Fx dX9_split_7 (by decide) (fun c_7 => ?_) (fun c_7 => ?_)
  · refine lv_iload_n Fx.1 Fx.2.1 dX9_split_12 rfl (lv_at hl 1 rfl) ?_
    by_cases c_13_0 : z = 0
    · refine k_tableIn (a := z) (tgt := 44) Fx dX9_split_13 (by omega) (by omega) (by omega) (by rw [c_13_0]; rfl) (by decide) ?_
      refine lv_aload_n Fx.1 Fx.2.1 dX9_split_44 rfl (lv_at hl 0 rfl) ?_
      refine gC_X9_65_0 Fx X dX9_split_45 ?_
      refine gC_X9_250_8 (x := (iI (aFn q (q 0 - q 1 + 1).toNat))) Fx X ((hQ.2 c_7).1) dX9_split_48 ?_
      exact r_iret Fx hr hlk X (by decide) dX9_split_51 (Qi_mk (congrArg iI (by unfold aSpl; rw [if_pos ⟨c_7, by omega⟩, if_pos (by omega)])))
    by_cases c_13_1 : z = 1
    · refine k_tableIn (a := z) (tgt := 52) Fx dX9_split_13 (by omega) (by omega) (by omega) (by rw [c_13_1]; rfl) (by decide) ?_
      refine lv_aload_n Fx.1 Fx.2.1 dX9_split_52 rfl (lv_at hl 0 rfl) ?_
      refine gC_X9_65_0 Fx X dX9_split_53 ?_
      refine gC_X9_253_8 (x := (iI (aFf q (q 0 - q 1 + 1).toNat))) Fx X ((hQ.2 c_7).2.1) dX9_split_56 ?_
      exact r_iret Fx hr hlk X (by decide) dX9_split_59 (Qi_mk (congrArg iI (by unfold aSpl; rw [if_pos ⟨c_7, by omega⟩, if_neg (by omega), if_pos (by omega)])))
    by_cases c_13_2 : z = 2
    · refine k_tableIn (a := z) (tgt := 60) Fx dX9_split_13 (by omega) (by omega) (by omega) (by rw [c_13_2]; rfl) (by decide) ?_
      refine lv_aload_n Fx.1 Fx.2.1 dX9_split_60 rfl (lv_at hl 0 rfl) ?_
      refine gC_X9_65_0 Fx X dX9_split_61 ?_
      refine gC_X9_256_8 (x := (iI (aFl q (q 0 - q 1 + 1).toNat))) Fx X ((hQ.2 c_7).2.2.1) dX9_split_64 ?_
      exact r_iret Fx hr hlk X (by decide) dX9_split_67 (Qi_mk (congrArg iI (by unfold aSpl; rw [if_pos ⟨c_7, by omega⟩, if_neg (by omega), if_neg (by omega), if_pos (by omega)])))
    by_cases c_13_3 : z = 3
    · refine k_tableIn (a := z) (tgt := 68) Fx dX9_split_13 (by omega) (by omega) (by omega) (by rw [c_13_3]; rfl) (by decide) ?_
      refine lv_aload_n Fx.1 Fx.2.1 dX9_split_68 rfl (lv_at hl 0 rfl) ?_
      refine gC_X9_65_0 Fx X dX9_split_69 ?_
      refine gC_X9_259_8 (x := (iI (aFb q (q 0 - q 1 + 1).toNat))) Fx X ((hQ.2 c_7).2.2.2) dX9_split_72 ?_
      exact r_iret Fx hr hlk X (by decide) dX9_split_75 (Qi_mk (congrArg iI (by unfold aSpl; rw [if_pos ⟨c_7, by omega⟩, if_neg (by omega), if_neg (by omega), if_neg (by omega)])))
    refine k_tableOut (a := z) (tgt := 76) Fx dX9_split_13 (by omega) (by omega) (by decide) ?_
    refine k_iconst Fx dX9_split_76 ?_
    exact r_iret Fx hr hlk X (by decide) dX9_split_77 (Qi_mk (congrArg iI (by unfold aSpl; rw [if_neg (fun z => absurd z.2 (by omega))])))
  · refine k_iconst Fx dX9_split_10 ?_
    exact r_iret Fx hr hlk X (by decide) dX9_split_11 (Qi_mk (congrArg iI (by unfold aSpl; rw [if_neg (fun z => c_7 z.1)])))

