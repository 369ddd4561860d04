theorem c_add72 {E : XX} (hE : XS E) (l : Launch) {Γ : GG} {κ : KK} (hN : EN E κ) {ad : Nat → Nat} {ed cap n : Nat} {sa : Nat → Nat} {S : Nat → Nat → Nat} {f g : Nat → Nat → Int32} (hc : CapO cap n) (hed : cap = 0 → ed = κ.2.2.1) (hn : n < 12) (hn9 : f 1 2 = iI ((n : Nat) : Int)) : Con E l yJx4a65c_add_72be8 cJx4a65c_add_72be8 4 none rm_addB Γ (wC Γ ad ed f g (tT Γ ed cap sa S n (n + 1))) [.ref (ad 1), .ref (sa n), .ref ed, .int (iI ((n : Nat) : Int))] (fun v w2 => v = none ∧ ∃ ed2 cap2, w2 = wC Γ ad ed2 (updA f 1 (upd (f 1) 2 (iI (((n : Nat) : Int) + 1)))) g (tT Γ ed2 cap2 sa S (n + 1) (n + 1)) ∧ CapO cap2 (n + 1)) := by
  obtain ⟨h1, h2⟩ := hc
  by_cases c : cap = 0
  · have hn0 : n = 0 := by omega
    have he := hed c
    subst c; subst hn0; subst he
    exact c_addA hE l hN hn9
  · by_cases d : n < cap
    · exact c_addB hE l hN (by omega) d hn9
    · have h10 : cap = 10 := by omega
      have hn10 : n = 10 := by omega
      subst h10; subst hn10
      exact c_addC hE l hN hn9

abbrev rm_Jx4a65c_add_9ea2d : Room := ({ frames := 6, cells := 1, slots := 15, locals := 210 } : Room)
set_option maxHeartbeats 4000000 in
set_option maxRecDepth 100000 in
theorem c_Jx4a65c_add_9ea2d {E : XX} (hE : XS E) (l : Launch) {Γ : GG} {κ : KK} (hN : EN E κ) {ad : Nat → Nat} {ed cap n : Nat} {sa : Nat → Nat} {S : Nat → Nat → Nat} {f g : Nat → Nat → Int32} (hc : CapO cap n) (hed : cap = 0 → ed = κ.2.2.1) (hn : n < 12) (hn9 : f 1 2 = iI ((n : Nat) : Int)) : Con E l yJx4a65c_add_9ea2d cJx4a65c_add_9ea2d 2 (some .boolean) rm_Jx4a65c_add_9ea2d Γ (wC Γ ad ed f g (tT Γ ed cap sa S n (n + 1))) [.ref (ad 1), .ref (sa n)] (fun v w2 => v = some (.int (iI 1)) ∧ ∃ ed2 cap2 f1, w2 = wC Γ ad ed2 f1 g (tT Γ ed2 cap2 sa S (n + 1) (n + 1)) ∧ CapO cap2 (n + 1) ∧ f1 1 2 = iI ((n + 1 : Nat) : Int) ∧ (∀ o j, o ≠ 1 → f1 o j = f o j)) := by
  refine Con_mk (by decide) (Nat.le_of_ble_eq_true rfl) ?_
  intro p e s₀ m args below meth c A Fx hr hlk hnm X ls hl
  have hl : lv_has ls 2 [(0, .ref (ad 1)), (1, .ref (sa n))] := hl
  refine lv_aload_n Fx.1 Fx.2.1 dJx4a65c_add_9ea2d_0 rfl (lv_at hl 0 rfl) ?_
  refine lv_dup Fx.1 Fx.2.1 dJx4a65c_add_9ea2d_1 rfl ?_
  refine gC_Jx4a65c_63_1 Fx X rfl dJx4a65c_add_9ea2d_2 ?_
  refine k_iconst Fx dJx4a65c_add_9ea2d_5 ?_
  refine lv_iadd Fx.1 Fx.2.1 dJx4a65c_add_9ea2d_6 ?_
  refine pC_Jx4a65c_63_1 Fx X dJx4a65c_add_9ea2d_7 (fun H locs X => ?_)
  refine lv_aload_n Fx.1 Fx.2.1 dJx4a65c_add_9ea2d_10 rfl (lv_at hl 0 rfl) ?_
  refine lv_aload_n Fx.1 Fx.2.1 dJx4a65c_add_9ea2d_11 rfl (lv_at hl 1 rfl) ?_
  refine lv_aload_n Fx.1 Fx.2.1 dJx4a65c_add_9ea2d_12 rfl (lv_at hl 0 rfl) ?_
  refine gC_Jx4a65c_9_1 Fx X dJx4a65c_add_9ea2d_13 ?_
  refine lv_aload_n Fx.1 Fx.2.1 dJx4a65c_add_9ea2d_16 rfl (lv_at hl 0 rfl) ?_
  refine gC_Jx4a65c_48_1 (x := (iI (((n : Nat) : Int)))) Fx X (hn9) dJx4a65c_add_9ea2d_17 ?_
  refine r_callV (As := [.ref (sa n), .ref (ed), .int (iI (((n : Nat) : Int)))]) (rest := []) hE Fx X (c_add72 hE l hN hc hed hn (by exact hn9)) cV_Jx4a65c_131 (recC_1 X) rfl rfl (Nat.le_of_ble_eq_true rfl) (by decide) hl.1 dJx4a65c_add_9ea2d_20 (fun v9 w9 H locs hq X => ?_)
  obtain ⟨rfl, ed_1, cap_2, rfl, hc2⟩ := hq
  refine k_iconst Fx dJx4a65c_add_9ea2d_23 ?_
  exact r_zret Fx hr hlk X (by decide) dJx4a65c_add_9ea2d_24 rfl (⟨rfl, _, _, _, rfl, hc2, rfl, fun o j h => (frF (by omega)).trans (frF (by omega))⟩)

def saN (sa : Nat → Nat) (n q : Nat) : Nat → Nat := fun i => if i = n then q else sa i
theorem tT_push {Γ : GG} {ad : Nat → Nat} {ed cap n q : Nat} {f g : Nat → Nat → Int32} {sa : Nat → Nat} {S : Nat → Nat → Nat} {k a b lo hi y d : Int} (h : aOk k a b lo hi y d) : wC Γ ad ed f g (tS Γ ed cap sa S n) ++ [(q, .inr (7, [.int (iI k), .int (iI a), .int (iI b), .int (iI lo), .int (iI hi), .int (iI y), .int (iI d)]))] = wC Γ ad ed f g (tT Γ ed cap (saN sa n q) (sPut S n k a b lo hi y d) n (n + 1)) := by
  have e0 : ∀ (x : va_W) (z : Nat × va_E), wC Γ ad ed f g x ++ [z] = wC Γ ad ed f g (x ++ [z]) := fun _ _ => rfl
  rw [e0]
  congr 1
  unfold tS tT
  rw [List.range_succ, List.map_append, List.append_assoc]
  have e1 : (fun i => if i < n then some (saN sa n q i) else none) = (fun i => if i < n then some (sa i) else none) := funext fun i => by
    by_cases c : i < n
    · rw [if_pos c, if_pos c]; unfold saN; rw [if_neg (by omega)]
    · rw [if_neg c, if_neg c]
  rw [e1]
  congr 1
  have e2 : (List.range n).map (fun i => ((saN sa n q i, .inr (7, sF (sPut S n k a b lo hi y d) i)) : Nat × va_E)) = (List.range n).map (fun i => ((sa i, .inr (7, sF S i)) : Nat × va_E)) := by
    apply List.map_congr_left
    intro i hi
    have hi := List.mem_range.mp hi
    unfold saN sF sPut
    simp only [if_neg (show ¬ i = n by omega)]
  rw [e2]
  congr 1
  obtain ⟨h1, h2, h3, h4, h5⟩ := h
  have tn : ∀ z : Int, 0 ≤ z → ((z.toNat : Nat) : Int) = z := fun z hz => Int.toNat_of_nonneg hz
  simp [saN, sF, sPut, tn k (by omega), tn a (by omega), tn b (by omega), tn lo (by omega), tn hi (by omega), tn y (by omega), tn d (by omega)]

