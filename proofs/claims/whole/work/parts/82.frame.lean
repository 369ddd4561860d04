/-! two worlds side by side: the frame -/
section FR
variable {p : Program} {l : Launch} {e : Env} {R : Room} {s : State} {m : MethodId} {args : Array Value} {below : List Frame} {meth : Method} {c : Code} {H : Heap} {locs : List Loc} {cells slots : Nat} {Q : State → Prop}
variable {cc : ByteArray} {nL pc : Nat} {own : String} {ls : Array Slot} {rest : List Value} {E : XX} {Γ : GG} {A : Nat → Prop} {w w1 w2 w' : va_W} {Qp : PT}
theorem Wd.left (X : Wd E Γ A s H locs (w1 ++ w2)) : Wd E Γ A s H locs w1 :=
  Wd.emb (fun k => k) (fun _ _ _ _ h => h) (fun k q hq => by rw [List.getElem?_append_left (List.getElem?_eq_some_iff.mp hq).1]; exact hq) X
theorem Wd.comm (X : Wd E Γ A s H locs (w1 ++ w2)) : Wd E Γ A s H locs (w2 ++ w1) := by
  refine Wd.emb (fun k => if k < w2.length then w1.length + k else k - w2.length) (fun i j hi hj h => ?_) (fun k q hq => ?_) X
  · rw [List.length_append] at hi hj
    (repeat' split at h) <;> omega
  · by_cases c : k < w2.length
    · rw [List.getElem?_append_left c] at hq
      rw [if_pos c, List.getElem?_append_right (by omega), Nat.add_sub_cancel_left]
      exact hq
    · rw [List.getElem?_append_right (by omega)] at hq
      rw [if_neg c, List.getElem?_append_left (List.getElem?_eq_some_iff.mp hq).1]
      exact hq
theorem k_callF {mc ms : Nat} {st0 : List Value} {a : Array Value} (X : Wd E Γ A s H locs (w1 ++ w2)) (hr : va_Run p l e R s m args below meth c H locs cells slots mc ms (F0 m pc ls st0) rest (CPost Γ (va_A w1 H.size) Qp a) (va_A w1 H.size))
    (kk : ∀ (v : Option Value) (w' : va_W) (H1 : Heap) (locs1 : List Loc), Qp v w' → Wd E Γ A s H1 locs1 (w' ++ w2) → W p l e R s m args below meth c H1 locs1 (cells + mc) (slots + ms) Q (F0 m (pc + 3) ls (v.toList ++ rest))) : W p l e R s m args below meth c H locs cells slots Q (F0 m pc ls st0) := by
  have X1 := X.left
  have X2 := X.comm.left
  obtain ⟨hK, hP, hD, hS, hA, hX⟩ := X
  have hF : ∀ q, va_A w1 H.size q → A q := by
    intro q h
    rcases h with ⟨k, e, h⟩ | h
    · exact X1.2.2.1.2 k (q, e) h
    · exact hA q (Nat.le_trans hS.1 h)
  have hN : ∀ (j : Nat) (x : Nat × va_E), w2[j]? = some x → ¬ va_A w1 H.size x.1 := by
    intro j x hx h
    rcases h with ⟨k, e, h⟩ | h
    · have hk := (List.getElem?_eq_some_iff.mp h).1
      have := hD.1 k (w1.length + j) (x.1, e) x (by rw [List.getElem?_append_left hk]; exact h) (by rw [List.getElem?_append_right (by omega), Nat.add_sub_cancel_left]; exact hx) rfl
      omega
    · have := (X2.2.1 j x hx).lt
      omega
  intro T hT Xs
  obtain ⟨v, st₀, t, T', L, h0, X', hL, e1, e2, ⟨⟨v', w', hv, hq, hP1, hD1⟩, hz, hk⟩, st⟩ := hr T hT Xs
  cases hv
  rw [h0] at hz hk
  have hP2 : va_P Γ.1 vwCl w2 t.heap := X2.2.1.kept (fun k x hx => hk x.1 ((X2.2.1 k x hx).lt) (hN k x hx))
  obtain ⟨t2, a1, b1⟩ := kk v w' T'.heap (locs ++ L) hq ⟨hK, by rw [e1]; exact hP1.app hP2, va_D.app ⟨hD1.1, fun k q h => hF _ (hD1.2 k q h)⟩ X2.2.2.1 (fun i j p q hi hj e => hN j q hj (e ▸ hD1.2 i p hi)),
    ⟨Nat.le_trans hS.1 (by rw [e1]; exact hz), fun q h1 h2 => by rw [e1, hk q (Nat.lt_of_lt_of_le h1 hS.1) (fun z => h2 (hF q z))]; exact hS.2.1 q h1 h2, fun q hq => by
      rcases List.mem_append.mp hq with h | h
      · exact hS.2.2 q h
      · exact hF _ (hL q h)⟩, hA, hX⟩ T' rfl X'
  exact ⟨t2, st t2 a1, b1⟩
theorem r_callVF {y : MethodName} {bytes : ByteArray} {maxL n index b : Nat} {ret : Option FieldType} {rm : Room} {As st0 : List Value} (hE : XS E) (S : CallFix p m c cc nL s args BG own) (X : Wd E Γ A s H locs (w1 ++ w2)) (hC : Con E l y bytes maxL ret rm Γ w1 (.ref b :: As) Qp) (hG : gV own index y bytes maxL ret n)
    (hb : ∃ cell : Cell, H[b]? = some cell ∧ cell.vm.isStatics = false ∧ s.vm.findClass y.cls = some cell.cls) (hn : As.length = n) (hst : st0 = As.reverse ++ .ref b :: rest) (hsum : (rest.map fun v => v.category).sum ≤ 8) (hR : rmOk R rm maxL cells slots) (hsz : ls.size = nL) (hdg : decode cc pc = .ok (.invokevirtual index, 3))
    (kk : ∀ (v : Option Value) (w' : va_W) (H1 : Heap) (locs1 : List Loc), Qp v w' → Wd E Γ A s H1 locs1 (w' ++ w2) → W p l e R s m args below meth c H1 locs1 (cells + rm.cells) (slots + rm.slots) Q (F0 m (pc + 3) ls (v.toList ++ rest))) : W p l e R s m args below meth c H locs cells slots Q (F0 m pc ls st0) := by
  obtain ⟨⟨g1, g2, g3, g4, g5⟩, g6⟩ := hG
  have hp := Wd.pre hE X.left (.ref b :: As)
  refine k_callF (a := (Value.ref b :: As).toArray) X (va_runV (As := As) (rest := rest) S (hC H.size) (cwV (C := y.cls) n S.2.2.2.2 (fun x hx => ?_) rfl rfl rfl ⟨rfl, g6⟩ hR.1) ⟨hp.1, hb, hp.2⟩ rfl hn hsz hst (lv_room hsum) hdg hR.2) kk
  rcases List.mem_append.mp hx with h | h
  · simp only [List.mem_cons, List.not_mem_nil, or_false] at h
    rcases h with rfl | rfl | rfl | rfl
    · exact BG_gd g1
    · exact BG_gd g2
    · exact BG_gd g3
    · exact BG_gd g4
  · exact BG_call g5 x h
theorem r_callIF {y : MethodName} {bytes : ByteArray} {maxL n index b : Nat} {rm : Room} {As st0 : List Value} (hE : XS E) (S : CallFix p m c cc nL s args BG own) (X : Wd E Γ A s H locs (w1 ++ w2)) (hC : Con E l y bytes maxL none rm Γ w1 (.ref b :: As) Qp) (hG : gI own index y bytes maxL n)
    (hn : As.length = n) (hst : st0 = As.reverse ++ .ref b :: rest) (hsum : (rest.map fun v => v.category).sum ≤ 8) (hR : rmOk R rm maxL cells slots) (hsz : ls.size = nL) (hdg : decode cc pc = .ok (.invokespecial index, 3))
    (kk : ∀ (v : Option Value) (w' : va_W) (H1 : Heap) (locs1 : List Loc), Qp v w' → Wd E Γ A s H1 locs1 (w' ++ w2) → W p l e R s m args below meth c H1 locs1 (cells + rm.cells) (slots + rm.slots) Q (F0 m (pc + 3) ls (v.toList ++ rest))) : W p l e R s m args below meth c H locs cells slots Q (F0 m pc ls st0) := by
  obtain ⟨⟨g1, g2, g4, g5⟩, g6, g7⟩ := hG
  have hp := Wd.pre hE X.left (.ref b :: As)
  exact k_callF (a := (Value.ref b :: As).toArray) X (va_runI (As := As) (rest := rest) S (hC H.size) ⟨callB_of n S.2.2.2.2 (BG_call g5) rfl rfl rfl (S.2.2.2.2 _ g4) (S.2.2.2.2 _ g1) g7 hR.1, g6, S.2.2.2.2 _ g2⟩ hp rfl hn hsz hst (lv_room hsum) hdg hR.2) kk
end FR
theorem ln_rng {tn : Nat} {tb : Nat → Nat} {j i : Nat} (hG : lnF tn tb j i = 0) : (3 ≤ tkT tn tb i ∧ tkT tn tb i ≤ 7) ∧ (tkT tn tb i ≠ 7 → lnR tn tb i) := by
  by_cases h : 3 ≤ tkT tn tb i ∧ tkT tn tb i ≤ 7
  · refine ⟨h, fun h4 => ?_⟩
    by_cases h2 : j = 20
    · exact absurd hG (by rw [(lnF_b h h2).1]; decide)
    · by_cases h7 : tkT tn tb i = 3 ∨ tkT tn tb i = 7
      · by_cases h8 : 300 ≤ tkT tn tb (tkN tn tb i) ∧ tkT tn tb (tkN tn tb i) ≤ 305
        · by_cases h5 : tkT tn tb (lnK tn tb i) = 2
          · by_cases h6 : lnR tn tb i
            · exact h6
            · exact absurd hG (by rw [(lnF_e h h2 (fun _ => h8) h4 h5 h6).1]; decide)
          · exact absurd hG (by rw [(lnF_d h h2 (fun _ => h8) h4 h5).1]; decide)
        · exact absurd hG (by rw [(lnF_c h h2 h7 h8).1]; decide)
      · by_cases h5 : tkT tn tb (lnK tn tb i) = 2
        · by_cases h6 : lnR tn tb i
          · exact h6
          · exact absurd hG (by rw [(lnF_e h h2 (fun z => absurd z h7) h4 h5 h6).1]; decide)
        · exact absurd hG (by rw [(lnF_d h h2 (fun z => absurd z h7) h4 h5).1]; decide)
  · exact absurd hG (by rw [(lnF_a h).1]; decide)
theorem lnA_B {x : LWT} {u k v : Int} (hx : LawB x.1 x.2.2.1 x.2.2.2.1 x.2.2.2.2) (hu : 3 ≤ u ∧ u ≤ 7) (hr : u ≠ 7 → (if u = 5 then (1 : Int) else 0) ≤ v ∧ v ≤ (if u = 3 then (20 : Int) else if u = 5 then 99 else 9)) : LawB (lnA x u k v).1 (lnA x u k v).2.2.1 (lnA x u k v).2.2.2.1 (lnA x u k v).2.2.2.2 := by
  rcases (show u = 3 ∨ u = 4 ∨ u = 5 ∨ u = 6 ∨ u = 7 by omega) with h | h | h | h | h
  · rw [lnA_3 h]
    obtain ⟨r1, r2⟩ := hr (by omega)
    rw [if_pos h] at r2
    refine ⟨fun q => ?_, hx.2⟩
    show (if q = k.toNat then v.toNat else x.1 q) ≤ 20
    have := hx.1 q
    split <;> omega
  · rw [lnA_4 h]
    obtain ⟨r1, r2⟩ := hr (by omega)
    rw [if_neg (by omega), if_neg (by omega)] at r2
    exact ⟨hx.1, by show v.toNat ≤ 9; omega, hx.2.2⟩
  · rw [lnA_5 h]
    obtain ⟨r1, r2⟩ := hr (by omega)
    rw [if_neg (by omega), if_pos h] at r2
    rw [if_pos h] at r1
    exact ⟨hx.1, hx.2.1, by show 1 ≤ v.toNat ∧ v.toNat ≤ 99; omega, hx.2.2.2⟩
  · rw [lnA_6 h]
    obtain ⟨r1, r2⟩ := hr (by omega)
    rw [if_neg (by omega), if_neg (by omega)] at r2
    exact ⟨hx.1, hx.2.1, hx.2.2.1, by show v.toNat ≤ 9; omega⟩
  · rw [lnA_7 h]
    exact hx
theorem lnL_B (tn : Nat) (tb : Nat → Nat) : ∀ j, j ≤ lnJ tn tb → LawB (lnL tn tb j).1 (lnL tn tb j).2.2.1 (lnL tn tb j).2.2.2.1 (lnL tn tb j).2.2.2.2
  | 0, _ => ⟨fun _ => by show 1 ≤ 20; decide, by show 0 ≤ 9; decide, by show 1 ≤ 12 ∧ 12 ≤ 99; decide, by show 1 ≤ 9; decide⟩
  | j + 1, h => by
    have hG : lnG tn tb j := (spn_all (lnG tn tb) 21 0 j (Nat.zero_le _) h).2
    have hr := ln_rng hG.2
    exact lnA_B (lnL_B tn tb j (by omega)) hr.1 hr.2
