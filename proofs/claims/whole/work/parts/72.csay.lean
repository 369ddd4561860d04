theorem cp_10 {sa : Nat → Nat} : va_cpy (fun i => if i < 10 then some (sa i) else none) (fun _ => none) 0 0 10 = (fun i => if i < 10 then some (sa i) else none) := funext fun i => by
  unfold va_cpy
  by_cases c : i < 10
  · rw [if_pos (by omega), show 0 + (i - 0) = i by omega]
  · rw [if_neg (by omega), if_neg c]
theorem grw_1 {E : XX} {Γ : GG} {A : Nat → Prop} {s : State} {H : Heap} {locs : List Loc} {ad : Nat → Nat} {ed q : Nat} {f g : Nat → Nat → Int32} {sa : Nat → Nat} {S : Nat → Nat → Nat} (X : Wd E Γ A s H locs (wC Γ ad q f g (tT Γ ed 10 sa S 10 11) ++ [(q, .inl (Γ.2 3, 15, .inr (.inr (.inr (.inr (va_cpy (fun i => if i < 10 then some (sa i) else none) (fun _ => none) 0 0 10))))))])) : Wd E Γ A s H locs (wC Γ ad q f g (tT Γ q 15 sa S 10 11)) := by
  rw [cp_10] at X
  refine Wd.emb (fun k => if k = 44 then 56 else k) (fun i j hi hj h => ?_) (fun k x hx => ?_) X
  · have hi : i < 56 := hi
    have hj : j < 56 := hj
    (repeat' split at h) <;> omega
  · have hl : k < 56 := (List.getElem?_eq_some_iff.mp hx).1
    by_cases c : k < 44
    · rw [if_neg (by omega), ← hx]
      have e1 : wC Γ ad q f g (tT Γ ed 10 sa S 10 11) ++ [(q, .inl (Γ.2 3, 15, .inr (.inr (.inr (.inr (fun i => if i < 10 then some (sa i) else none))))))] = wC Γ ad q f g [] ++ (tT Γ ed 10 sa S 10 11 ++ [(q, .inl (Γ.2 3, 15, .inr (.inr (.inr (.inr (fun i => if i < 10 then some (sa i) else none))))))]) := rfl
      have e2 : wC Γ ad q f g (tT Γ q 15 sa S 10 11) = wC Γ ad q f g [] ++ tT Γ q 15 sa S 10 11 := rfl
      rw [e1, e2, List.getElem?_append_left (by show k < 44; exact c), List.getElem?_append_left (by show k < 44; exact c)]
    · rcases (show k = 44 ∨ k = 45 ∨ k = 46 ∨ k = 47 ∨ k = 48 ∨ k = 49 ∨ k = 50 ∨ k = 51 ∨ k = 52 ∨ k = 53 ∨ k = 54 ∨ k = 55 by omega) with e | e | e | e | e | e | e | e | e | e | e | e <;> subst e <;> exact hx

abbrev rm_growC : Room := ({ frames := 3, cells := 1, slots := 15, locals := 104 } : Room)
set_option maxHeartbeats 4000000 in
set_option maxRecDepth 100000 in
theorem c_growC {E : XX} (hE : XS E) (l : Launch) {Γ : GG} {κ : KK} (hN : EN E κ) {ad : Nat → Nat} {ed : Nat} {sa : Nat → Nat} {S : Nat → Nat → Nat} {f g : Nat → Nat → Int32} : Con E l yJx4a65c_grow_92f84 cJx4a65c_grow_92f84 4 (some (.array (.object "java/lang/Object"))) rm_growC Γ (wC Γ ad ed f g (tT Γ ed 10 sa S 10 11)) [.ref (ad 1), .int (iI (11))] (fun v w2 => ∃ q, v = some (.ref q) ∧ w2 = wC Γ ad q f g (tT Γ q 15 sa S 10 11)) := by
  refine Con_mk (by decide) (Nat.le_of_ble_eq_true rfl) ?_
  intro p e s₀ m args below meth c A Fx hr hlk hnm X ls hl
  have hl : lv_has ls 4 [(0, .ref (ad 1)), (1, .int (iI (11)))] := hl
  refine lv_aload_n Fx.1 Fx.2.1 dJx4a65c_grow_92f84_0 rfl (lv_at hl 0 rfl) ?_
  refine gC_Jx4a65c_9_1 Fx X dJx4a65c_grow_92f84_1 ?_
  refine r_len (t0 := 3) (q0 := 44) Fx X rfl rfl dJx4a65c_grow_92f84_4 ?_
  refine k_cg (show (iI (((10 : Nat) : Int))) = (iI (10)) from rfl) ?_
  refine lv_istore_n (lv' := [(2, .int (iI (10))), (0, .ref (ad 1)), (1, .int (iI (11)))]) Fx.1 Fx.2.1 dJx4a65c_grow_92f84_5 rfl hl (by decide) rfl (fun ls hl => ?_)
  refine lv_iload_n Fx.1 Fx.2.1 dJx4a65c_grow_92f84_6 rfl (lv_at hl 0 rfl) ?_
  refine k_if_gt (a := 10) (tgt := 20) Fx dJx4a65c_grow_92f84_7 (by decide) (by omega) (fun c_7 => ?_) (fun c_7 => ?_)
  · refine lv_iload_n Fx.1 Fx.2.1 dJx4a65c_grow_92f84_20 rfl (lv_at hl 0 rfl) ?_
    refine lv_iload_n Fx.1 Fx.2.1 dJx4a65c_grow_92f84_21 rfl (lv_at hl 2 rfl) ?_
    refine lv_iload_n Fx.1 Fx.2.1 dJx4a65c_grow_92f84_22 rfl (lv_at hl 0 rfl) ?_
    refine k_isub Fx dJx4a65c_grow_92f84_23 ?_
    refine lv_iload_n Fx.1 Fx.2.1 dJx4a65c_grow_92f84_24 rfl (lv_at hl 0 rfl) ?_
    refine k_iconst Fx dJx4a65c_grow_92f84_25 ?_
    refine lv_ishr Fx.1 Fx.2.1 dJx4a65c_grow_92f84_26 ?_
    refine k_cg (show ((iI (10)) >>> ((iI (1)) &&& 31)) = iI 5 from rfl) ?_
    refine r_callSi (As := [.int (iI (10)), .int (iI (1)), .int (iI (5))]) (rest := []) hE Fx X (c_J8_newLength_cabcc hE l) cS_Jx4a65c_73 rfl rfl (Nat.le_of_ble_eq_true rfl) (by decide) hl.1 dJx4a65c_grow_92f84_27 (fun H locs X => ?_)
    refine lv_istore_n (lv' := [(3, .int (iI (15))), (2, .int (iI (10))), (0, .ref (ad 1)), (1, .int (iI (11)))]) Fx.1 Fx.2.1 dJx4a65c_grow_92f84_30 rfl hl (by decide) rfl (fun ls hl => ?_)
    refine lv_aload_n Fx.1 Fx.2.1 dJx4a65c_grow_92f84_31 rfl (lv_at hl 2 rfl) ?_
    refine lv_aload_n Fx.1 Fx.2.1 dJx4a65c_grow_92f84_32 rfl (lv_at hl 2 rfl) ?_
    refine gC_Jx4a65c_9_1 Fx X dJx4a65c_grow_92f84_33 ?_
    refine lv_iload_n Fx.1 Fx.2.1 dJx4a65c_grow_92f84_36 rfl (lv_at hl 0 rfl) ?_
    refine r_callS (As := [.ref (ed), .int (iI (15))]) (rest := [.ref (ad 1)]) hE Fx X (c_J7_copyOf_1904c hE l hN) cS_Jx4a65c_66 rfl rfl (Nat.le_of_ble_eq_true rfl) (by decide) hl.1 dJx4a65c_grow_92f84_37 (fun v9 w9 H locs hq X => ?_)
    obtain ⟨q_1, rfl, rfl⟩ := hq
    refine lv_dup_x1 Fx.1 Fx.2.1 dJx4a65c_grow_92f84_40 rfl rfl ?_
    refine pf_Jx4a65c_9 (q0 := 1) Fx X rfl rfl rfl (by show 1 < 3; decide) dJx4a65c_grow_92f84_41 (fun H locs X => ?_)
    have X : Wd E Γ A s₀ H locs (wC Γ ad q_1 f g (tT Γ q_1 15 sa S 10 11)) := grw_1 (ed := ed) X
    exact r_aret Fx hr (by first | exact Or.inl ⟨_, rfl⟩ | exact Or.inr ⟨_, rfl⟩) hlk X (by decide) dJx4a65c_grow_92f84_44 (⟨_, rfl, rfl⟩)
  · exact absurd c_7 (by omega)

abbrev rm_growdC : Room := ({ frames := 4, cells := 1, slots := 15, locals := 127 } : Room)
set_option maxHeartbeats 4000000 in
set_option maxRecDepth 100000 in
theorem c_growdC {E : XX} (hE : XS E) (l : Launch) {Γ : GG} {κ : KK} (hN : EN E κ) {ad : Nat → Nat} {ed : Nat} {sa : Nat → Nat} {S : Nat → Nat → Nat} {f g : Nat → Nat → Int32} (hn9 : f 1 2 = iI 10) : Con E l yJx4a65c_grow_d5877 cJx4a65c_grow_d5877 1 (some (.array (.object "java/lang/Object"))) rm_growdC Γ (wC Γ ad ed f g (tT Γ ed 10 sa S 10 11)) [.ref (ad 1)] (fun v w2 => ∃ q, v = some (.ref q) ∧ w2 = wC Γ ad q f g (tT Γ q 15 sa S 10 11)) := by
  refine Con_mk (by decide) (Nat.le_of_ble_eq_true rfl) ?_
  intro p e s₀ m args below meth c A Fx hr hlk hnm X ls hl
  have hl : lv_has ls 1 [(0, .ref (ad 1))] := hl
  refine lv_aload_n Fx.1 Fx.2.1 dJx4a65c_grow_d5877_0 rfl (lv_at hl 0 rfl) ?_
  refine lv_aload_n Fx.1 Fx.2.1 dJx4a65c_grow_d5877_1 rfl (lv_at hl 0 rfl) ?_
  refine gC_Jx4a65c_48_1 (x := (iI (10))) Fx X (hn9) dJx4a65c_grow_d5877_2 ?_
  refine k_iconst Fx dJx4a65c_grow_d5877_5 ?_
  refine k_iadd Fx dJx4a65c_grow_d5877_6 ?_
  refine r_callV (As := [.int (iI ((10 + 1)))]) (rest := []) hE Fx X (c_growC hE l hN) cV_Jx4a65c_69 (recC_1 X) rfl rfl (Nat.le_of_ble_eq_true rfl) (by decide) hl.1 dJx4a65c_grow_d5877_7 (fun v9 w9 H locs hq X => ?_)
  obtain ⟨q_1, rfl, rfl⟩ := hq
  exact r_aret Fx hr (by first | exact Or.inl ⟨_, rfl⟩ | exact Or.inr ⟨_, rfl⟩) hlk X (by decide) dJx4a65c_grow_d5877_10 (⟨_, rfl, rfl⟩)

