theorem k_bc1 : Cond.constant RJ6 265 1431655765 ∈ BG := by decide +kernel
theorem k_bc2 : Cond.constant RJ6 266 858993459 ∈ BG := by decide +kernel
theorem k_bc3 : Cond.constant RJ6 267 252645135 ∈ BG := by decide +kernel
def ush (x s : Int32) : Int32 := (x.toUInt32 >>> (s.toUInt32 &&& Int32.toUInt32 31)).toInt32
def bc1 (x : Int32) : Int32 := x - (ush x (iI 1) &&& 1431655765)
def bc2 (x : Int32) : Int32 := (x &&& 858993459) + (ush x (iI 2) &&& 858993459)
def bc3 (x : Int32) : Int32 := (x + ush x (iI 4)) &&& 252645135
def bc4 (x : Int32) : Int32 := x + ush x (iI 8)
def bc5 (x : Int32) : Int32 := x + ush x (iI 16)
def bcA (x : Int32) : Int32 := bc5 (bc4 (bc3 (bc2 (bc1 x)))) &&& iI 63
def popN (m : Nat) : Nat := ((List.range 10).filter (fun k => m.testBit k)).length
theorem bc_pop : ∀ m : Fin 1024, bcA (Int32.ofNat m.1) = Int32.ofNat (popN m.1) := by decide +kernel
theorem pop_s : ∀ (k : Fin 10) (m : Fin 512), m.1 < 2 ^ k.1 → (Int32.ofNat m.1 ||| ((1 : Int32) <<< ((iI ((k.1 : Nat) : Int)) &&& 31)) = Int32.ofNat (m.1 + 2 ^ k.1)) ∧ popN (m.1 + 2 ^ k.1) = popN m.1 + 1 ∧ m.1 + 2 ^ k.1 < 2 ^ (k.1 + 1) := by decide +kernel
/-- at how many of the first k stations saying i counts -/
noncomputable def cN (n : Nat) (S : Nat → Nat → Nat) (nw : Nat → Prop) (i : Nat) : Nat → Nat
  | 0 => 0
  | k + 1 => cN n S nw i k + @ite _ (aCt n S nw i k) (Classical.propDecidable _) 1 0
theorem set_pop {n : Nat} {S : Nat → Nat → Nat} {nw : Nat → Prop} {i : Nat} : ∀ k, k ≤ 10 → ∃ m, m < 2 ^ k ∧ aSet n S nw i k = Int32.ofNat m ∧ popN m = cN n S nw i k
  | 0, _ => ⟨0, by decide, rfl, (by decide : popN 0 = 0)⟩
  | k + 1, h => by
    obtain ⟨m, h1, h2, h3⟩ := set_pop k (by omega)
    have h4 : 2 ^ k ≤ 2 ^ 9 := Nat.pow_le_pow_right (by decide) (by omega)
    by_cases c : aCt n S nw i k
    · have q := pop_s ⟨k, by omega⟩ ⟨m, by omega⟩ h1
      refine ⟨m + 2 ^ k, q.2.2, ?_, ?_⟩
      · rw [← set_t c, h2]; exact q.1
      · show popN (m + 2 ^ k) = cN n S nw i k + _
        rw [if_pos c, q.2.1, h3]
    · refine ⟨m, by rw [Nat.pow_succ]; omega, ?_, ?_⟩
      · rw [← set_f2 c]; exact h2
      · show popN m = cN n S nw i k + _
        rw [if_neg c, h3, Nat.add_zero]
theorem set_bc {n : Nat} {S : Nat → Nat → Nat} {nw : Nat → Prop} {i : Nat} : bcA (aSet n S nw i 10) = iI ((cN n S nw i 10 : Nat) : Int) := by
  obtain ⟨m, h1, h2, h3⟩ := set_pop (n := n) (S := S) (nw := nw) (i := i) 10 (by omega)
  rw [h2, bc_pop ⟨m, h1⟩, ← h3, ← iI_nI]
  rfl
theorem set_lo {n : Nat} {S : Nat → Nat → Nat} {nw : Nat → Prop} {i : Nat} : ∀ k, k ≤ S 1 i → aSet n S nw i k = 0
  | 0, _ => rfl
  | k + 1, h => by rw [← set_f2 (fun z => by have := z.1.1; omega)]; exact set_lo k (by omega)
theorem set_hi {n : Nat} {S : Nat → Nat → Nat} {nw : Nat → Prop} {i a : Nat} (h : S 2 i < a) : ∀ c, aSet n S nw i a = aSet n S nw i (a + c)
  | 0 => rfl
  | c + 1 => by rw [← Nat.add_assoc, ← set_f2 (k := a + c) (fun z => by have := z.1.2; omega)]; exact set_hi h c
/-- the sums, by sayings and by stations -/
noncomputable def sK (n : Nat) (S : Nat → Nat → Nat) (wt : Nat → Nat) (nw : Nat → Prop) (th t k : Nat) : Nat → Nat
  | 0 => 0
  | q + 1 => sK n S wt nw th t k q + aCa n S wt nw th q t k
theorem sK_n (n : Nat) (S : Nat → Nat → Nat) (wt : Nat → Nat) (nw : Nat → Prop) (th t : Nat) : ∀ q, sK n S wt nw th t n q = aSm n S wt nw th t q
  | 0 => rfl
  | q + 1 => by show _ + _ = _ + _; rw [sK_n n S wt nw th t q]
theorem sK_0 (n : Nat) (S : Nat → Nat → Nat) (wt : Nat → Nat) (nw : Nat → Prop) (th t : Nat) : ∀ q, sK n S wt nw th t 0 q = 0
  | 0 => rfl
  | q + 1 => by show _ + 0 = 0; rw [sK_0 n S wt nw th t q]
theorem sK_s (n : Nat) (S : Nat → Nat → Nat) (wt : Nat → Nat) (nw : Nat → Prop) (th t k : Nat) : ∀ q, sK n S wt nw th t (k + 1) q = sK n S wt nw th t k q + cN n S nw k q * (wt (S 0 k) * aMs t (aMv S th k (S 3 k)) (aMv S th k (S 4 k)))
  | 0 => by show 0 = 0 + 0 * _; rw [Nat.zero_mul]
  | q + 1 => by
    show sK n S wt nw th t (k + 1) q + (aCa n S wt nw th q t k + aTm n S wt nw th q t k) = (sK n S wt nw th t k q + aCa n S wt nw th q t k) + (cN n S nw k q + _) * _
    rw [sK_s n S wt nw th t k q, Nat.add_mul]
    by_cases c : aCt n S nw k q
    · rw [if_pos c, aTm_t c, Nat.one_mul]; omega
    · rw [if_neg c, aTm_f c, Nat.zero_mul]; omega
theorem st_cv {n : Nat} {S : Nat → Nat → Nat} {wt : Nat → Nat} {nw : Nat → Prop} {th t k : Nat} (hB : SayB n S) : ((sK n S wt nw th t k 10 : Nat) : Int) + ((((cN n S nw k 10 : Nat) : Int) * ((wt (S 0 k) : Nat) : Int)) * (max 0 (max (((aMv S th k (S 3 k) : Nat) : Int) - ((t : Nat) : Int)) (((t : Nat) : Int) - ((aMv S th k (S 4 k) : Nat) : Int))))) = ((sK n S wt nw th t (k + 1) 10 : Nat) : Int) := by
  have h1 := hB.2 k
  rw [ms_max (aMv_mono (by omega)), sK_s, ← Int.natCast_mul, ← Int.natCast_mul, ← Int.natCast_add, Nat.mul_assoc]
def DrC (dr : Prop) (n : Nat) (S : Nat → Nat → Nat) (wt : Nat → Nat) (nw : Nat → Prop) (th be : Nat) (f g : Nat → Nat → Int32) : Prop := f 0 10 = bI dr ∧ (dr → (∀ s, s < 10 → g 12 s = iI ((aPp n S wt nw th be s : Nat) : Int)) ∧ f 4 1 = iI ((aOn n S wt nw th be 0 (aPp n S wt nw th be 0) : Nat) : Int))
def FrD (f1 f g1 g : Nat → Nat → Int32) : Prop := (∀ o j, ¬ (o = 4 ∧ j = 1) → ¬ (o = 0 ∧ j = 10) → f1 o j = f o j) ∧ (∀ j, (j < 12 ∨ (12 < j ∧ j < 40) ∨ 49 < j) → g1 j = g j)
def FrY (f1 f g1 g : Nat → Nat → Int32) : Prop := (∀ o j, ¬ (o = 4 ∧ j = 1) → ¬ (o = 0 ∧ j = 10) → ¬ (o = 7 ∧ j < 2) → f1 o j = f o j) ∧ (∀ j, (j < 12 ∨ (12 < j ∧ j < 22) ∨ (23 < j ∧ j < 40) ∨ 51 < j) → g1 j = g j)

abbrev rm_J6_bitCount_0f7a4 : Room := ({ frames := 0, cells := 0, slots := 0, locals := 0 } : Room)
set_option maxHeartbeats 4000000 in
set_option maxRecDepth 100000 in
theorem c_J6_bitCount_0f7a4 {E : XX} (hE : XS E) (l : Launch) {Γ : GG} {w : va_W} {x : Int32} : Con E l yJ6_bitCount_0f7a4 cJ6_bitCount_0f7a4 1 (some .int) rm_J6_bitCount_0f7a4 Γ w [.int (x)] (Qi (bcA x) w) := by
  refine Con_mk (by decide) (Nat.le_of_ble_eq_true rfl) ?_
  intro p e s₀ m args below meth c A Fx hr hlk hnm X ls hl
  have hl : lv_has ls 1 [(0, .int (x))] := hl
  refine lv_iload_n Fx.1 Fx.2.1 dJ6_bitCount_0f7a4_0 rfl (lv_at hl 0 rfl) ?_
  refine lv_iload_n Fx.1 Fx.2.1 dJ6_bitCount_0f7a4_1 rfl (lv_at hl 0 rfl) ?_
  refine k_iconst Fx dJ6_bitCount_0f7a4_2 ?_
  refine lv_iushr Fx.1 Fx.2.1 dJ6_bitCount_0f7a4_3 rfl ?_
  refine lv_ldcw (v := 1431655765) Fx.1 Fx.2.1 Fx.2.2.2.1 (Fx.2.2.2.2 _ k_bc1) dJ6_bitCount_0f7a4_4 ?_
  refine lv_iand Fx.1 Fx.2.1 dJ6_bitCount_0f7a4_7 ?_
  refine lv_isub Fx.1 Fx.2.1 dJ6_bitCount_0f7a4_8 ?_
  refine k_cg (show ((x) - ((((x).toUInt32 >>> ((iI (1)).toUInt32 &&& Int32.toUInt32 31)).toInt32) &&& (1431655765))) = (bc1 x) from rfl) ?_
  refine lv_istore_n (lv' := [(0, .int (bc1 x))]) Fx.1 Fx.2.1 dJ6_bitCount_0f7a4_9 rfl hl (by decide) rfl (fun ls hl => ?_)
  refine lv_iload_n Fx.1 Fx.2.1 dJ6_bitCount_0f7a4_10 rfl (lv_at hl 0 rfl) ?_
  refine lv_ldcw (v := 858993459) Fx.1 Fx.2.1 Fx.2.2.2.1 (Fx.2.2.2.2 _ k_bc2) dJ6_bitCount_0f7a4_11 ?_
  refine lv_iand Fx.1 Fx.2.1 dJ6_bitCount_0f7a4_14 ?_
  refine lv_iload_n Fx.1 Fx.2.1 dJ6_bitCount_0f7a4_15 rfl (lv_at hl 0 rfl) ?_
  refine k_iconst Fx dJ6_bitCount_0f7a4_16 ?_
  refine lv_iushr Fx.1 Fx.2.1 dJ6_bitCount_0f7a4_17 rfl ?_
  refine lv_ldcw (v := 858993459) Fx.1 Fx.2.1 Fx.2.2.2.1 (Fx.2.2.2.2 _ k_bc2) dJ6_bitCount_0f7a4_18 ?_
  refine lv_iand Fx.1 Fx.2.1 dJ6_bitCount_0f7a4_21 ?_
  refine lv_iadd Fx.1 Fx.2.1 dJ6_bitCount_0f7a4_22 ?_
  refine k_cg (show (((bc1 x) &&& (858993459)) + ((((bc1 x).toUInt32 >>> ((iI (2)).toUInt32 &&& Int32.toUInt32 31)).toInt32) &&& (858993459))) = (bc2 (bc1 x)) from rfl) ?_
  refine lv_istore_n (lv' := [(0, .int (bc2 (bc1 x)))]) Fx.1 Fx.2.1 dJ6_bitCount_0f7a4_23 rfl hl (by decide) rfl (fun ls hl => ?_)
  refine lv_iload_n Fx.1 Fx.2.1 dJ6_bitCount_0f7a4_24 rfl (lv_at hl 0 rfl) ?_
  refine lv_iload_n Fx.1 Fx.2.1 dJ6_bitCount_0f7a4_25 rfl (lv_at hl 0 rfl) ?_
  refine k_iconst Fx dJ6_bitCount_0f7a4_26 ?_
  refine lv_iushr Fx.1 Fx.2.1 dJ6_bitCount_0f7a4_27 rfl ?_
  refine lv_iadd Fx.1 Fx.2.1 dJ6_bitCount_0f7a4_28 ?_
  refine lv_ldcw (v := 252645135) Fx.1 Fx.2.1 Fx.2.2.2.1 (Fx.2.2.2.2 _ k_bc3) dJ6_bitCount_0f7a4_29 ?_
  refine lv_iand Fx.1 Fx.2.1 dJ6_bitCount_0f7a4_32 ?_
  refine k_cg (show (((bc2 (bc1 x)) + (((bc2 (bc1 x)).toUInt32 >>> ((iI (4)).toUInt32 &&& Int32.toUInt32 31)).toInt32)) &&& (252645135)) = (bc3 (bc2 (bc1 x))) from rfl) ?_
  refine lv_istore_n (lv' := [(0, .int (bc3 (bc2 (bc1 x))))]) Fx.1 Fx.2.1 dJ6_bitCount_0f7a4_33 rfl hl (by decide) rfl (fun ls hl => ?_)
  refine lv_iload_n Fx.1 Fx.2.1 dJ6_bitCount_0f7a4_34 rfl (lv_at hl 0 rfl) ?_
  refine lv_iload_n Fx.1 Fx.2.1 dJ6_bitCount_0f7a4_35 rfl (lv_at hl 0 rfl) ?_
  refine k_bipush Fx dJ6_bitCount_0f7a4_36 (by decide) ?_
  refine lv_iushr Fx.1 Fx.2.1 dJ6_bitCount_0f7a4_38 rfl ?_
  refine lv_iadd Fx.1 Fx.2.1 dJ6_bitCount_0f7a4_39 ?_
  refine k_cg (show ((bc3 (bc2 (bc1 x))) + (((bc3 (bc2 (bc1 x))).toUInt32 >>> ((iI (8)).toUInt32 &&& Int32.toUInt32 31)).toInt32)) = (bc4 (bc3 (bc2 (bc1 x)))) from rfl) ?_
  refine lv_istore_n (lv' := [(0, .int (bc4 (bc3 (bc2 (bc1 x)))))]) Fx.1 Fx.2.1 dJ6_bitCount_0f7a4_40 rfl hl (by decide) rfl (fun ls hl => ?_)
  refine lv_iload_n Fx.1 Fx.2.1 dJ6_bitCount_0f7a4_41 rfl (lv_at hl 0 rfl) ?_
  refine lv_iload_n Fx.1 Fx.2.1 dJ6_bitCount_0f7a4_42 rfl (lv_at hl 0 rfl) ?_
  refine k_bipush Fx dJ6_bitCount_0f7a4_43 (by decide) ?_
  refine lv_iushr Fx.1 Fx.2.1 dJ6_bitCount_0f7a4_45 rfl ?_
  refine lv_iadd Fx.1 Fx.2.1 dJ6_bitCount_0f7a4_46 ?_
  refine k_cg (show ((bc4 (bc3 (bc2 (bc1 x)))) + (((bc4 (bc3 (bc2 (bc1 x)))).toUInt32 >>> ((iI (16)).toUInt32 &&& Int32.toUInt32 31)).toInt32)) = (bc5 (bc4 (bc3 (bc2 (bc1 x))))) from rfl) ?_
  refine lv_istore_n (lv' := [(0, .int (bc5 (bc4 (bc3 (bc2 (bc1 x))))))]) Fx.1 Fx.2.1 dJ6_bitCount_0f7a4_47 rfl hl (by decide) rfl (fun ls hl => ?_)
  refine lv_iload_n Fx.1 Fx.2.1 dJ6_bitCount_0f7a4_48 rfl (lv_at hl 0 rfl) ?_
  refine k_bipush Fx dJ6_bitCount_0f7a4_49 (by decide) ?_
  refine lv_iand Fx.1 Fx.2.1 dJ6_bitCount_0f7a4_51 ?_
  exact r_iret Fx hr hlk X (by decide) dJ6_bitCount_0f7a4_52 (Qi_mk rfl)

abbrev rm_X9_stationsOf : Room := ({ frames := 4, cells := 0, slots := 0, locals := 89 } : Room)
set_option maxHeartbeats 4000000 in
set_option maxRecDepth 100000 in
theorem c_X9_stationsOf {E : XX} (hE : XS E) (l : Launch) {Γ : GG} {ad : Nat → Nat} {ed cap n : Nat} {sa : Nat → Nat} {S : Nat → Nat → Nat} {f g : Nat → Nat → Int32} (hn9 : f 1 2 = iI n) (hcap : n ≤ cap ∧ cap < 1000) (hB : SayB n S) {wt : Nat → Nat} {nw : Nat → Prop} {th ho be : Nat} (hL : LawC wt nw th ho be f g) (hLB : LawB wt th ho be) {i : Nat} (hi : i < n) : Con E l yX9_stationsOf cX9_stationsOf 4 (some .int) rm_X9_stationsOf Γ (wC Γ ad ed f g (tS Γ ed cap sa S n)) [.ref (ad 0), .ref (sa i)] (Qi (aSet n S nw i 10) (wC Γ ad ed f g (tS Γ ed cap sa S n))) := by
  refine Con_mk (by decide) (Nat.le_of_ble_eq_true rfl) ?_
  intro p e s₀ m args below meth c A Fx hr hlk hnm X ls hl
  have hl : lv_has ls 4 [(0, .ref (ad 0)), (1, .ref (sa i))] := hl
  have hB3 := hB.2 i
  refine k_iconst Fx dX9_stationsOf_0 ?_
  refine lv_istore_n (lv' := [(2, .int (iI (0))), (0, .ref (ad 0)), (1, .ref (sa i))]) Fx.1 Fx.2.1 dX9_stationsOf_1 rfl hl (by decide) rfl (fun ls hl => ?_)
  refine lv_aload_n Fx.1 Fx.2.1 dX9_stationsOf_2 rfl (lv_at hl 2 rfl) ?_
  refine gf_X9_177 (q0 := 45 + i) (v := .int (iI (((S 1 i : Nat) : Int)))) Fx X (tS_at (by omega) hcap.1) rfl dX9_stationsOf_3 ?_
  refine lv_istore_n (lv' := [(3, .int (iI (((S 1 i : Nat) : Int)))), (2, .int (iI (0))), (0, .ref (ad 0)), (1, .ref (sa i))]) Fx.1 Fx.2.1 dX9_stationsOf_6 rfl hl (by decide) rfl (fun ls hl => ?_)
  have lp_7 : ∀ (nn : Nat) (q : Nat), S 2 i + 1 - q < nn → (S 1 i ≤ q ∧ q ≤ S 2 i + 1) → ∀ (H : Heap) (locs : List Loc) (ls : Array Slot), Wd E Γ A s₀ H locs (wC Γ ad ed f g (tS Γ ed cap sa S n)) → lv_has ls 4 [(0, .ref (ad 0)), (1, .ref (sa i)), (2, .int (aSet n S nw i q)), (3, .int (iI (((q : Nat) : Int))))] → W p l e rm_X9_stationsOf s₀ m args below meth c H locs (0) (0) (RQ below args s₀ Γ A (Qi (aSet n S nw i 10) (wC Γ ad ed f g (tS Γ ed cap sa S n))) rm_X9_stationsOf) (F0 m 7 ls []) := by
    intro nn
    induction nn with
    | zero => intro q hmu; exact absurd hmu (Nat.not_lt_zero _)
    | succ nn ih =>
      intro q hmu hq H locs ls X hl
      have ih_7 := ih
      refine lv_iload_n Fx.1 Fx.2.1 dX9_stationsOf_7 rfl (lv_at hl 3 rfl) ?_
      refine lv_aload_n Fx.1 Fx.2.1 dX9_stationsOf_8 rfl (lv_at hl 1 rfl) ?_
      refine gf_X9_180 (q0 := 45 + i) (v := .int (iI (((S 2 i : Nat) : Int)))) Fx X (tS_at (by omega) hcap.1) rfl dX9_stationsOf_9 ?_
      refine k_icmp_gt (a := ((q : Nat) : Int)) (b := ((S 2 i : Nat) : Int)) (tgt := 43) Fx dX9_stationsOf_12 (by decide) (by omega) (by omega) (fun c_12 => ?_) (fun c_12 => ?_)
      · refine lv_iload_n Fx.1 Fx.2.1 dX9_stationsOf_43 rfl (lv_at hl 2 rfl) ?_
        exact r_iret Fx hr hlk X (by decide) dX9_stationsOf_44 (Qi_mk ((set_hi (by omega) (10 - q)).trans (by rw [show q + (10 - q) = 10 by omega])))
      · refine lv_aload_n Fx.1 Fx.2.1 dX9_stationsOf_15 rfl (lv_at hl 1 rfl) ?_
        refine lv_iload_n Fx.1 Fx.2.1 dX9_stationsOf_16 rfl (lv_at hl 3 rfl) ?_
        refine lv_aload_n Fx.1 Fx.2.1 dX9_stationsOf_17 rfl (lv_at hl 0 rfl) ?_
        refine gC_X9_10_0 Fx X dX9_stationsOf_18 ?_
        refine lv_aload_n Fx.1 Fx.2.1 dX9_stationsOf_21 rfl (lv_at hl 0 rfl) ?_
        refine gC_X9_72_0 Fx X dX9_stationsOf_22 ?_
        refine r_callVi (As := [.int (iI (((q : Nat) : Int))), .ref (ad 1), .ref (ad 9)]) (rest := []) hE Fx X (c_X6_countsAt hE l (by exact hn9) hcap hB (by exact hL) hLB (i := i) (s := q) (by omega) (by omega)) cV_X9_183 (va_recv X.1 X.2.1 (ci := 7) (q0 := 45 + i) rfl (tS_at (by omega) hcap.1)) rfl rfl (Nat.le_of_ble_eq_true rfl) (by decide) hl.1 dX9_stationsOf_25 (fun H locs X => ?_)
        refine k_bif_eq (tgt := 37) Fx dX9_stationsOf_28 (by decide) (fun c_28 => ?_) (fun c_28 => ?_)
        · refine k_iinc (k := 3) (a := ((q : Nat) : Int)) (lv' := [(3, .int (iI ((((q : Nat) : Int) + 1)))), (0, .ref (ad 0)), (1, .ref (sa i)), (2, .int (aSet n S nw i q))]) Fx dX9_stationsOf_37 hl rfl (by decide) rfl (fun ls hl => ?_)
          refine lv_goto (tgt := 7) Fx.1 Fx.2.1 dX9_stationsOf_40 (by decide) ?_
          have hl_1 := lv_rp hl 3 rfl (show (aSet n S nw i q) = (aSet n S nw i (q + 1)) from set_f2 c_28)
          have hl_2 := lv_rp hl_1 0 rfl (show (iI ((((q : Nat) : Int) + 1))) = (iI ((((q + 1) : Nat) : Int))) from congrArg iI (by omega))
          exact ih_7 (q + 1) (by omega) (by omega) _ _ _ X (lv_sub hl_2 [1, 2, 3, 0] rfl)
        · refine lv_iload_n Fx.1 Fx.2.1 dX9_stationsOf_31 rfl (lv_at hl 2 rfl) ?_
          refine k_iconst Fx dX9_stationsOf_32 ?_
          refine lv_iload_n Fx.1 Fx.2.1 dX9_stationsOf_33 rfl (lv_at hl 3 rfl) ?_
          refine lv_ishl Fx.1 Fx.2.1 dX9_stationsOf_34 ?_
          refine lv_ior Fx.1 Fx.2.1 dX9_stationsOf_35 ?_
          refine lv_istore_n (lv' := [(2, .int ((aSet n S nw i q) ||| ((iI (1)) <<< ((iI (((q : Nat) : Int))) &&& 31)))), (0, .ref (ad 0)), (1, .ref (sa i)), (3, .int (iI (((q : Nat) : Int))))]) Fx.1 Fx.2.1 dX9_stationsOf_36 rfl hl (by decide) rfl (fun ls hl => ?_)
          refine k_iinc (k := 3) (a := ((q : Nat) : Int)) (lv' := [(3, .int (iI ((((q : Nat) : Int) + 1)))), (2, .int ((aSet n S nw i q) ||| ((iI (1)) <<< ((iI (((q : Nat) : Int))) &&& 31)))), (0, .ref (ad 0)), (1, .ref (sa i))]) Fx dX9_stationsOf_37 hl rfl (by decide) rfl (fun ls hl => ?_)
          refine lv_goto (tgt := 7) Fx.1 Fx.2.1 dX9_stationsOf_40 (by decide) ?_
          have hl_3 := lv_rp hl 1 rfl (show ((aSet n S nw i q) ||| ((iI (1)) <<< ((iI (((q : Nat) : Int))) &&& 31))) = (aSet n S nw i (q + 1)) from set_t c_28)
          have hl_4 := lv_rp hl_3 0 rfl (show (iI ((((q : Nat) : Int) + 1))) = (iI ((((q + 1) : Nat) : Int))) from congrArg iI (by omega))
          exact ih_7 (q + 1) (by omega) (by omega) _ _ _ X (lv_sub hl_4 [2, 3, 1, 0] rfl)
  have hl_5 := lv_rp hl 1 rfl (show (iI (0)) = (aSet n S nw i (S 1 i)) from (set_lo _ (Nat.le_refl _)).symm)
  have hl_6 := lv_rp hl_5 0 rfl (show (iI (((S 1 i : Nat) : Int))) = (iI ((((S 1 i) : Nat) : Int))) from congrArg iI (by omega))
  exact lp_7 _ (S 1 i) (Nat.lt_succ_self _) (by omega) _ _ _ X (lv_sub hl_6 [2, 3, 1, 0] rfl)

abbrev rm_X9_said : Room := ({ frames := 5, cells := 0, slots := 0, locals := 112 } : Room)
set_option maxHeartbeats 4000000 in
set_option maxRecDepth 100000 in
theorem c_X9_said {E : XX} (hE : XS E) (l : Launch) {Γ : GG} {ad : Nat → Nat} {ed cap n : Nat} {sa : Nat → Nat} {S : Nat → Nat → Nat} {f g : Nat → Nat → Int32} (hn9 : f 1 2 = iI n) (hcap : n ≤ cap ∧ cap < 1000) (hB : SayB n S) {wt : Nat → Nat} {nw : Nat → Prop} {th ho be : Nat} (hL : LawC wt nw th ho be f g) (hLB : LawB wt th ho be) {z u : Int} (hz : -2147483648 ≤ z ∧ z < 2147483648) (hu : -2147483648 ≤ u ∧ u < 2147483648) : Con E l yX9_said cX9_said 4 (some .int) rm_X9_said Γ (wC Γ ad ed f g (tS Γ ed cap sa S n)) [.ref (ad 0), .int (iI (z)), .int (iI (u))] (Qi (aSaid n S nw th z u) (wC Γ ad ed f g (tS Γ ed cap sa S n))) := by
  refine Con_mk (by decide) (Nat.le_of_ble_eq_true rfl) ?_
  intro p e s₀ m args below meth c A Fx hr hlk hnm X ls hl
  have hl : lv_has ls 4 [(0, .ref (ad 0)), (1, .int (iI (z))), (2, .int (iI (u)))] := hl
  have hB1 := hB.1
  refine lv_iload_n Fx.1 Fx.2.1 dX9_said_0 rfl (lv_at hl 1 rfl) ?_
  refine lv_aload_n Fx.1 Fx.2.1 dX9_said_1 rfl (lv_at hl 0 rfl) ?_
  refine gC_X9_10_0 Fx X dX9_said_2 ?_
  refine r_callVi (As := []) (rest := [.int (iI (z))]) hE Fx X (c_Jx4a65c_size_8abf5 hE l (by exact hn9) hcap hB) cV_X9_91 (recC_1 X) rfl rfl (Nat.le_of_ble_eq_true rfl) (by decide) hl.1 dX9_said_5 (fun H locs X => ?_)
  refine r_callSi (As := [.int (iI (z)), .int (iI (((n : Nat) : Int)))]) (rest := []) hE Fx X (c_X9_below hE l (a := z) (b := ((n : Nat) : Int)) (by omega) (by omega)) cS_X9_83 rfl rfl (Nat.le_of_ble_eq_true rfl) (by decide) hl.1 dX9_said_8 (fun H locs X => ?_)
  refine k_bif_ne (tgt := 16) Fx dX9_said_11 (by decide) (fun c_11 => ?_) (fun c_11 => ?_)
  · have hl := lv_rp hl 1 rfl (show (iI (z)) = (iI (((z.toNat : Nat) : Int))) from congrArg iI (by omega))
    have hB2 := hB.2 z.toNat
    refine lv_aload_n Fx.1 Fx.2.1 dX9_said_16 rfl (lv_at hl 0 rfl) ?_
    refine gC_X9_10_0 Fx X dX9_said_17 ?_
    refine lv_iload_n Fx.1 Fx.2.1 dX9_said_20 rfl (lv_at hl 1 rfl) ?_
    refine r_callVr (As := [.int (iI (((z.toNat : Nat) : Int)))]) (rest := []) hE Fx X (c_Jx4a65c_get_915e3 hE l (by exact hn9) hcap hB (i := z.toNat) (by omega)) cV_X9_153 (recC_1 X) rfl rfl (Nat.le_of_ble_eq_true rfl) (by decide) hl.1 dX9_said_21 (fun H locs X => ?_)
    refine r_cast Fx cl_say9 (va_recv X.1 X.2.1 (ci := 7) (q0 := 45 + (z.toNat)) rfl (tS_at (by omega) hcap.1)) dX9_said_24 ?_
    refine lv_astore_n (lv' := [(3, .ref (sa (z.toNat))), (0, .ref (ad 0)), (1, .int (iI (((z.toNat : Nat) : Int)))), (2, .int (iI (u)))]) Fx.1 Fx.2.1 dX9_said_27 rfl hl (by decide) rfl (fun ls hl => ?_)
    refine lv_iload_n Fx.1 Fx.2.1 dX9_said_28 rfl (lv_at hl 3 rfl) ?_
    by_cases c_29_0 : u = 0
    · refine k_tableIn (a := u) (tgt := 64) Fx dX9_said_29 (by omega) (by omega) (by omega) (by rw [c_29_0]; rfl) (by decide) ?_
      refine lv_aload_n Fx.1 Fx.2.1 dX9_said_64 rfl (lv_at hl 0 rfl) ?_
      refine gf_X9_157 (q0 := 45 + (z.toNat)) (v := .int (iI (((S 0 (z.toNat) : Nat) : Int)))) Fx X (tS_at (by omega) hcap.1) rfl dX9_said_65 ?_
      exact r_iret Fx hr hlk X (by decide) dX9_said_68 (Qi_mk (by unfold aSaid; rw [if_pos c_11, if_pos (by omega)]))
    by_cases c_29_1 : u = 1
    · refine k_tableIn (a := u) (tgt := 69) Fx dX9_said_29 (by omega) (by omega) (by omega) (by rw [c_29_1]; rfl) (by decide) ?_
      refine lv_aload_n Fx.1 Fx.2.1 dX9_said_69 rfl (lv_at hl 0 rfl) ?_
      refine lv_aload_n Fx.1 Fx.2.1 dX9_said_70 rfl (lv_at hl 0 rfl) ?_
      refine gf_X9_160 (q0 := 45 + (z.toNat)) (v := .int (iI (((S 3 (z.toNat) : Nat) : Int)))) Fx X (tS_at (by omega) hcap.1) rfl dX9_said_71 ?_
      refine lv_aload_n Fx.1 Fx.2.1 dX9_said_74 rfl (lv_at hl 1 rfl) ?_
      refine gC_X9_72_0 Fx X dX9_said_75 ?_
      refine r_callVi (As := [.int (iI (((S 3 (z.toNat) : Nat) : Int))), .ref (ad 9)]) (rest := []) hE Fx X (c_X6_counted hE l (by exact hn9) hcap hB (by exact hL) hLB (i := (z.toNat)) (t := S 3 (z.toNat)) (by omega) (by omega)) cV_X9_163 (va_recv X.1 X.2.1 (ci := 7) (q0 := 45 + (z.toNat)) rfl (tS_at (by omega) hcap.1)) rfl rfl (Nat.le_of_ble_eq_true rfl) (by decide) hl.1 dX9_said_78 (fun H locs X => ?_)
      have bmv_78 := aMv_lt (S := S) (th := th) (i := (z.toNat)) (f := S 3 (z.toNat)) (by omega)
      exact r_iret Fx hr hlk X (by decide) dX9_said_81 (Qi_mk (by unfold aSaid; rw [if_pos c_11, if_neg (by omega), if_pos (by omega)]))
    by_cases c_29_2 : u = 2
    · refine k_tableIn (a := u) (tgt := 82) Fx dX9_said_29 (by omega) (by omega) (by omega) (by rw [c_29_2]; rfl) (by decide) ?_
      refine lv_aload_n Fx.1 Fx.2.1 dX9_said_82 rfl (lv_at hl 0 rfl) ?_
      refine lv_aload_n Fx.1 Fx.2.1 dX9_said_83 rfl (lv_at hl 0 rfl) ?_
      refine gf_X9_167 (q0 := 45 + (z.toNat)) (v := .int (iI (((S 4 (z.toNat) : Nat) : Int)))) Fx X (tS_at (by omega) hcap.1) rfl dX9_said_84 ?_
      refine lv_aload_n Fx.1 Fx.2.1 dX9_said_87 rfl (lv_at hl 1 rfl) ?_
      refine gC_X9_72_0 Fx X dX9_said_88 ?_
      refine r_callVi (As := [.int (iI (((S 4 (z.toNat) : Nat) : Int))), .ref (ad 9)]) (rest := []) hE Fx X (c_X6_counted hE l (by exact hn9) hcap hB (by exact hL) hLB (i := (z.toNat)) (t := S 4 (z.toNat)) (by omega) (by omega)) cV_X9_163 (va_recv X.1 X.2.1 (ci := 7) (q0 := 45 + (z.toNat)) rfl (tS_at (by omega) hcap.1)) rfl rfl (Nat.le_of_ble_eq_true rfl) (by decide) hl.1 dX9_said_91 (fun H locs X => ?_)
      have bmv_91 := aMv_lt (S := S) (th := th) (i := (z.toNat)) (f := S 4 (z.toNat)) (by omega)
      exact r_iret Fx hr hlk X (by decide) dX9_said_94 (Qi_mk (by unfold aSaid; rw [if_pos c_11, if_neg (by omega), if_neg (by omega), if_pos (by omega)]))
    by_cases c_29_3 : u = 3
    · refine k_tableIn (a := u) (tgt := 95) Fx dX9_said_29 (by omega) (by omega) (by omega) (by rw [c_29_3]; rfl) (by decide) ?_
      refine lv_aload_n Fx.1 Fx.2.1 dX9_said_95 rfl (lv_at hl 0 rfl) ?_
      refine gf_X9_170 (q0 := 45 + (z.toNat)) (v := .int (iI (((S 5 (z.toNat) : Nat) : Int)))) Fx X (tS_at (by omega) hcap.1) rfl dX9_said_96 ?_
      exact r_iret Fx hr hlk X (by decide) dX9_said_99 (Qi_mk (by unfold aSaid; rw [if_pos c_11, if_neg (by omega), if_neg (by omega), if_neg (by omega), if_pos (by omega)]))
    by_cases c_29_4 : u = 4
    · refine k_tableIn (a := u) (tgt := 100) Fx dX9_said_29 (by omega) (by omega) (by omega) (by rw [c_29_4]; rfl) (by decide) ?_
      refine lv_aload_n Fx.1 Fx.2.1 dX9_said_100 rfl (lv_at hl 1 rfl) ?_
      refine lv_aload_n Fx.1 Fx.2.1 dX9_said_101 rfl (lv_at hl 0 rfl) ?_
      refine r_callVi (As := [.ref (sa (z.toNat))]) (rest := []) hE Fx X (c_X9_stationsOf hE l (by exact hn9) hcap hB (by exact hL) hLB (i := (z.toNat)) (by omega)) cV_X9_173 (recC_0 X) rfl rfl (Nat.le_of_ble_eq_true rfl) (by decide) hl.1 dX9_said_102 (fun H locs X => ?_)
      exact r_iret Fx hr hlk X (by decide) dX9_said_105 (Qi_mk (by unfold aSaid; rw [if_pos c_11, if_neg (by omega), if_neg (by omega), if_neg (by omega), if_neg (by omega), if_pos (by omega)]))
    refine k_tableOut (a := u) (tgt := 106) Fx dX9_said_29 (by omega) (by omega) (by decide) ?_
    refine k_iconst Fx dX9_said_106 ?_
    exact r_iret Fx hr hlk X (by decide) dX9_said_107 (Qi_mk (by unfold aSaid; rw [if_pos c_11, if_neg (by omega), if_neg (by omega), if_neg (by omega), if_neg (by omega), if_neg (by omega)]))
  · refine k_iconst Fx dX9_said_14 ?_
    exact r_iret Fx hr hlk X (by decide) dX9_said_15 (Qi_mk (by unfold aSaid; rw [if_neg c_11]))

abbrev rm_X9_straight : Room := ({ frames := 5, cells := 0, slots := 0, locals := 112 } : Room)
set_option maxHeartbeats 4000000 in
set_option maxRecDepth 100000 in
theorem c_X9_straight {E : XX} (hE : XS E) (l : Launch) {Γ : GG} {ad : Nat → Nat} {ed cap n : Nat} {sa : Nat → Nat} {S : Nat → Nat → Nat} {f g : Nat → Nat → Int32} (hn9 : f 1 2 = iI n) (hcap : n ≤ cap ∧ cap < 1000) (hB : SayB n S) {wt : Nat → Nat} {nw : Nat → Prop} {th ho be : Nat} (hL : LawC wt nw th ho be f g) (hLB : LawB wt th ho be) {z : Int} (hz : -2147483648 ≤ z ∧ z < 2147483648) : Con E l yX9_straight cX9_straight 7 (some .int) rm_X9_straight Γ (wC Γ ad ed f g (tS Γ ed cap sa S n)) [.ref (ad 0), .int (iI (z))] (Qi (iI (aStr n S wt nw th z)) (wC Γ ad ed f g (tS Γ ed cap sa S n))) := by
  refine Con_mk (by decide) (Nat.le_of_ble_eq_true rfl) ?_
  intro p e s₀ m args below meth c A Fx hr hlk hnm X ls hl
  have hl : lv_has ls 7 [(0, .ref (ad 0)), (1, .int (iI (z)))] := hl
  have hB1 := hB.1
  refine lv_iload_n Fx.1 Fx.2.1 dX9_straight_0 rfl (lv_at hl 1 rfl) ?_
  refine k_bipush Fx dX9_straight_1 (by decide) ?_
  refine r_callSi (As := [.int (iI (z)), .int (iI (80))]) (rest := []) hE Fx X (c_X9_below hE l (a := z) (b := 80) (by omega) (by omega)) cS_X9_83 rfl rfl (Nat.le_of_ble_eq_true rfl) (by decide) hl.1 dX9_straight_3 (fun H locs X => ?_)
  refine k_bif_ne (tgt := 11) Fx dX9_straight_6 (by decide) (fun c_6 => ?_) (fun c_6 => ?_)
  · have hl := lv_rp hl 1 rfl (show (iI (z)) = (iI (((z.toNat : Nat) : Int))) from congrArg iI (by omega))
    refine k_iconst Fx dX9_straight_11 ?_
    refine lv_istore_n (lv' := [(2, .int (iI (0))), (0, .ref (ad 0)), (1, .int (iI (((z.toNat : Nat) : Int))))]) Fx.1 Fx.2.1 dX9_straight_12 rfl hl (by decide) rfl (fun ls hl => ?_)
    refine k_iconst Fx dX9_straight_13 ?_
    refine lv_istore_n (lv' := [(3, .int (iI (0))), (2, .int (iI (0))), (0, .ref (ad 0)), (1, .int (iI (((z.toNat : Nat) : Int))))]) Fx.1 Fx.2.1 dX9_straight_14 rfl hl (by decide) rfl (fun ls hl => ?_)
    have lp_15 : ∀ (nn : Nat) (j : Nat), n - j < nn → (j ≤ n) → ∀ (H : Heap) (locs : List Loc) (ls : Array Slot), Wd E Γ A s₀ H locs (wC Γ ad ed f g (tS Γ ed cap sa S n)) → lv_has ls 7 [(0, .ref (ad 0)), (1, .int (iI (((z.toNat : Nat) : Int)))), (2, .int (iI (((sK n S wt nw th z.toNat j 10 : Nat) : Int)))), (3, .int (iI (((j : Nat) : Int))))] → W p l e rm_X9_straight s₀ m args below meth c H locs (0) (0) (RQ below args s₀ Γ A (Qi (iI (aStr n S wt nw th z)) (wC Γ ad ed f g (tS Γ ed cap sa S n))) rm_X9_straight) (F0 m 15 ls []) := by
      intro nn
      induction nn with
      | zero => intro j hmu; exact absurd hmu (Nat.not_lt_zero _)
      | succ nn ih =>
        intro j hmu hj H locs ls X hl
        have ih_15 := ih
        refine lv_iload_n Fx.1 Fx.2.1 dX9_straight_15 rfl (lv_at hl 3 rfl) ?_
        refine lv_aload_n Fx.1 Fx.2.1 dX9_straight_16 rfl (lv_at hl 0 rfl) ?_
        refine gC_X9_10_0 Fx X dX9_straight_17 ?_
        refine r_callVi (As := []) (rest := [.int (iI (((j : Nat) : Int)))]) hE Fx X (c_Jx4a65c_size_8abf5 hE l (by exact hn9) hcap hB) cV_X9_91 (recC_1 X) rfl rfl (Nat.le_of_ble_eq_true rfl) (by decide) hl.1 dX9_straight_20 (fun H locs X => ?_)
        refine k_icmp_ge (a := ((j : Nat) : Int)) (b := ((n : Nat) : Int)) (tgt := 112) Fx dX9_straight_23 (by decide) (by omega) (by omega) (fun c_23 => ?_) (fun c_23 => ?_)
        · refine lv_iload_n Fx.1 Fx.2.1 dX9_straight_112 rfl (lv_at hl 2 rfl) ?_
          exact r_iret Fx hr hlk X (by decide) dX9_straight_113 (Qi_mk (congrArg iI (by unfold aStr; rw [if_pos (by omega), show j = n by omega, sK_n])))
        · have hB2 := hB.2 j
          refine lv_aload_n Fx.1 Fx.2.1 dX9_straight_26 rfl (lv_at hl 0 rfl) ?_
          refine gC_X9_10_0 Fx X dX9_straight_27 ?_
          refine lv_iload_n Fx.1 Fx.2.1 dX9_straight_30 rfl (lv_at hl 3 rfl) ?_
          refine r_callVr (As := [.int (iI (((j : Nat) : Int)))]) (rest := []) hE Fx X (c_Jx4a65c_get_915e3 hE l (by exact hn9) hcap hB (i := j) (by omega)) cV_X9_153 (recC_1 X) rfl rfl (Nat.le_of_ble_eq_true rfl) (by decide) hl.1 dX9_straight_31 (fun H locs X => ?_)
          refine r_cast Fx cl_say9 (va_recv X.1 X.2.1 (ci := 7) (q0 := 45 + j) rfl (tS_at (by omega) hcap.1)) dX9_straight_34 ?_
          refine lv_astore (lv' := [(4, .ref (sa j)), (0, .ref (ad 0)), (1, .int (iI (((z.toNat : Nat) : Int)))), (2, .int (iI (((sK n S wt nw th z.toNat j 10 : Nat) : Int)))), (3, .int (iI (((j : Nat) : Int))))]) Fx.1 Fx.2.1 dX9_straight_37 hl (by decide) rfl (fun ls hl => ?_)
          refine lv_aload_n Fx.1 Fx.2.1 dX9_straight_39 rfl (lv_at hl 1 rfl) ?_
          refine lv_aload Fx.1 Fx.2.1 dX9_straight_40 (lv_at hl 0 rfl) ?_
          refine r_callVi (As := [.ref (sa j)]) (rest := []) hE Fx X (c_X9_stationsOf hE l (by exact hn9) hcap hB (by exact hL) hLB (i := j) (by omega)) cV_X9_173 (recC_0 X) rfl rfl (Nat.le_of_ble_eq_true rfl) (by decide) hl.1 dX9_straight_42 (fun H locs X => ?_)
          refine r_callSi (As := [.int (aSet n S nw j 10)]) (rest := []) hE Fx X (c_J6_bitCount_0f7a4 hE l (x := aSet n S nw j 10)) cS_X9_200 rfl rfl (Nat.le_of_ble_eq_true rfl) (by decide) hl.1 dX9_straight_45 (fun H locs X => ?_)
          refine k_cg (show (bcA (aSet n S nw j 10)) = (iI (((cN n S nw j 10 : Nat) : Int))) from set_bc) ?_
          refine lv_istore (lv' := [(5, .int (iI (((cN n S nw j 10 : Nat) : Int)))), (4, .ref (sa j)), (0, .ref (ad 0)), (1, .int (iI (((z.toNat : Nat) : Int)))), (2, .int (iI (((sK n S wt nw th z.toNat j 10 : Nat) : Int)))), (3, .int (iI (((j : Nat) : Int))))]) Fx.1 Fx.2.1 dX9_straight_48 hl (by decide) rfl (fun ls hl => ?_)
          refine lv_iload_n Fx.1 Fx.2.1 dX9_straight_50 rfl (lv_at hl 3 rfl) ?_
          refine lv_aload Fx.1 Fx.2.1 dX9_straight_51 (lv_at hl 1 rfl) ?_
          refine lv_aload Fx.1 Fx.2.1 dX9_straight_53 (lv_at hl 1 rfl) ?_
          refine gf_X9_160 (q0 := 45 + j) (v := .int (iI (((S 3 j : Nat) : Int)))) Fx X (tS_at (by omega) hcap.1) rfl dX9_straight_55 ?_
          refine lv_aload_n Fx.1 Fx.2.1 dX9_straight_58 rfl (lv_at hl 2 rfl) ?_
          refine gC_X9_72_0 Fx X dX9_straight_59 ?_
          refine r_callVi (As := [.int (iI (((S 3 j : Nat) : Int))), .ref (ad 9)]) (rest := [.int (iI (((z.toNat : Nat) : Int)))]) hE Fx X (c_X6_counted hE l (by exact hn9) hcap hB (by exact hL) hLB (i := j) (t := S 3 j) (by omega) (by omega)) cV_X9_163 (va_recv X.1 X.2.1 (ci := 7) (q0 := 45 + j) rfl (tS_at (by omega) hcap.1)) rfl rfl (Nat.le_of_ble_eq_true rfl) (by decide) hl.1 dX9_straight_62 (fun H locs X => ?_)
          have bmv_62 := aMv_lt (S := S) (th := th) (i := j) (f := S 3 j) (by omega)
          refine lv_aload Fx.1 Fx.2.1 dX9_straight_65 (lv_at hl 1 rfl) ?_
          refine lv_aload Fx.1 Fx.2.1 dX9_straight_67 (lv_at hl 1 rfl) ?_
          refine gf_X9_167 (q0 := 45 + j) (v := .int (iI (((S 4 j : Nat) : Int)))) Fx X (tS_at (by omega) hcap.1) rfl dX9_straight_69 ?_
          refine lv_aload_n Fx.1 Fx.2.1 dX9_straight_72 rfl (lv_at hl 2 rfl) ?_
          refine gC_X9_72_0 Fx X dX9_straight_73 ?_
          refine r_callVi (As := [.int (iI (((S 4 j : Nat) : Int))), .ref (ad 9)]) (rest := [.int (iI (((aMv S th j (S 3 j) : Nat) : Int))), .int (iI (((z.toNat : Nat) : Int)))]) hE Fx X (c_X6_counted hE l (by exact hn9) hcap hB (by exact hL) hLB (i := j) (t := S 4 j) (by omega) (by omega)) cV_X9_163 (va_recv X.1 X.2.1 (ci := 7) (q0 := 45 + j) rfl (tS_at (by omega) hcap.1)) rfl rfl (Nat.le_of_ble_eq_true rfl) (by decide) hl.1 dX9_straight_76 (fun H locs X => ?_)
          have bmv_76 := aMv_lt (S := S) (th := th) (i := j) (f := S 4 j) (by omega)
          refine r_callSi (As := [.int (iI (((z.toNat : Nat) : Int))), .int (iI (((aMv S th j (S 3 j) : Nat) : Int))), .int (iI (((aMv S th j (S 4 j) : Nat) : Int)))]) (rest := []) hE Fx X (c_X9_missOf hE l (t := z.toNat) (lo := aMv S th j (S 3 j)) (hi := aMv S th j (S 4 j)) (by omega) (by omega) (by omega)) cS_X9_205 rfl rfl (Nat.le_of_ble_eq_true rfl) (by decide) hl.1 dX9_straight_79 (fun H locs X => ?_)
          refine lv_istore (lv' := [(6, .int (iI ((max 0 (max (((aMv S th j (S 3 j) : Nat) : Int) - ((z.toNat : Nat) : Int)) (((z.toNat : Nat) : Int) - ((aMv S th j (S 4 j) : Nat) : Int))))))), (5, .int (iI (((cN n S nw j 10 : Nat) : Int)))), (4, .ref (sa j)), (0, .ref (ad 0)), (1, .int (iI (((z.toNat : Nat) : Int)))), (2, .int (iI (((sK n S wt nw th z.toNat j 10 : Nat) : Int)))), (3, .int (iI (((j : Nat) : Int))))]) Fx.1 Fx.2.1 dX9_straight_82 hl (by decide) rfl (fun ls hl => ?_)
          refine lv_iload_n Fx.1 Fx.2.1 dX9_straight_84 rfl (lv_at hl 5 rfl) ?_
          refine lv_iload Fx.1 Fx.2.1 dX9_straight_85 (lv_at hl 1 rfl) ?_
          refine lv_aload_n Fx.1 Fx.2.1 dX9_straight_87 rfl (lv_at hl 3 rfl) ?_
          refine gC_X9_72_0 Fx X dX9_straight_88 ?_
          refine gC_X9_145_9 Fx X dX9_straight_91 ?_
          refine lv_aload Fx.1 Fx.2.1 dX9_straight_94 (lv_at hl 2 rfl) ?_
          refine gf_X9_157 (q0 := 45 + j) (v := .int (iI (((S 0 j : Nat) : Int)))) Fx X (tS_at (by omega) hcap.1) rfl dX9_straight_96 ?_
          refine ldC_28 (z := ((S 0 j : Nat) : Int)) (i := (S 0 j)) (x := (iI (((wt (S 0 j) : Nat) : Int)))) Fx X (rfl) (by omega) (hL.2.2.2.1 (S 0 j) (by omega)) dX9_straight_99 ?_
          have blw_x := hLB.1 (S 0 j)
          refine k_imul Fx dX9_straight_100 ?_
          refine lv_iload Fx.1 Fx.2.1 dX9_straight_101 (lv_at hl 0 rfl) ?_
          refine k_imul Fx dX9_straight_103 ?_
          refine k_iadd Fx dX9_straight_104 ?_
          refine k_cg (show (iI ((((sK n S wt nw th z.toNat j 10 : Nat) : Int) + ((((cN n S nw j 10 : Nat) : Int) * ((wt (S 0 j) : Nat) : Int)) * (max 0 (max (((aMv S th j (S 3 j) : Nat) : Int) - ((z.toNat : Nat) : Int)) (((z.toNat : Nat) : Int) - ((aMv S th j (S 4 j) : Nat) : Int)))))))) = (iI (((sK n S wt nw th z.toNat (j + 1) 10 : Nat) : Int))) from congrArg iI (st_cv hB)) ?_
          refine lv_istore_n (lv' := [(2, .int (iI (((sK n S wt nw th z.toNat (j + 1) 10 : Nat) : Int)))), (6, .int (iI ((max 0 (max (((aMv S th j (S 3 j) : Nat) : Int) - ((z.toNat : Nat) : Int)) (((z.toNat : Nat) : Int) - ((aMv S th j (S 4 j) : Nat) : Int))))))), (5, .int (iI (((cN n S nw j 10 : Nat) : Int)))), (4, .ref (sa j)), (0, .ref (ad 0)), (1, .int (iI (((z.toNat : Nat) : Int)))), (3, .int (iI (((j : Nat) : Int))))]) Fx.1 Fx.2.1 dX9_straight_105 rfl hl (by decide) rfl (fun ls hl => ?_)
          refine k_iinc (k := 6) (a := ((j : Nat) : Int)) (lv' := [(3, .int (iI ((((j : Nat) : Int) + 1)))), (2, .int (iI (((sK n S wt nw th z.toNat (j + 1) 10 : Nat) : Int)))), (6, .int (iI ((max 0 (max (((aMv S th j (S 3 j) : Nat) : Int) - ((z.toNat : Nat) : Int)) (((z.toNat : Nat) : Int) - ((aMv S th j (S 4 j) : Nat) : Int))))))), (5, .int (iI (((cN n S nw j 10 : Nat) : Int)))), (4, .ref (sa j)), (0, .ref (ad 0)), (1, .int (iI (((z.toNat : Nat) : Int))))]) Fx dX9_straight_106 hl rfl (by decide) rfl (fun ls hl => ?_)
          refine lv_goto (tgt := 15) Fx.1 Fx.2.1 dX9_straight_109 (by decide) ?_
          have hl_1 := lv_rp hl 0 rfl (show (iI ((((j : Nat) : Int) + 1))) = (iI ((((j + 1) : Nat) : Int))) from congrArg iI (by omega))
          exact ih_15 (j + 1) (by omega) (by omega) _ _ _ X (lv_sub hl_1 [5, 6, 1, 0] rfl)
    have hl_2 := lv_rp hl 1 rfl (show (iI (0)) = (iI (((sK n S wt nw th z.toNat 0 10 : Nat) : Int))) from by rw [sK_0]; rfl)
    have hl_3 := lv_rp hl_2 0 rfl (show (iI (0)) = (iI (((0 : Nat) : Int))) from congrArg iI (by omega))
    exact lp_15 _ (0) (Nat.lt_succ_self _) (by omega) _ _ _ X (lv_sub hl_3 [2, 3, 1, 0] rfl)
  · refine k_iconst Fx dX9_straight_9 ?_
    exact r_iret Fx hr hlk X (by decide) dX9_straight_10 (Qi_mk (congrArg iI (by unfold aStr; rw [if_neg (by omega)])))

abbrev rm_X9_lookAtKinds : Room := ({ frames := 0, cells := 0, slots := 0, locals := 0 } : Room)
set_option maxHeartbeats 4000000 in
set_option maxRecDepth 100000 in
theorem c_X9_lookAtKinds {E : XX} (hE : XS E) (l : Launch) {Γ : GG} {ad : Nat → Nat} {ed cap n : Nat} {sa : Nat → Nat} {S : Nat → Nat → Nat} {f g : Nat → Nat → Int32} (hn9 : f 1 2 = iI n) (hcap : n ≤ cap ∧ cap < 1000) (hB : SayB n S) {wt : Nat → Nat} {nw : Nat → Prop} {th ho be : Nat} (hL : LawC wt nw th ho be f g) (hLB : LawB wt th ho be) {mn : Nat} {z : Int} (hz0 : z < 0 ∨ 4 < z) (hz : -2147483648 ≤ z ∧ z < 2147483648) : Con E l yX9_lookAtKinds cX9_lookAtKinds 2 (some .int) rm_X9_lookAtKinds Γ (wC Γ ad ed f g (tS Γ ed cap sa S n)) [.ref (ad 0), .int (iI (z))] (Qi (iI (aLook n mn wt nw th ho be z)) (wC Γ ad ed f g (tS Γ ed cap sa S n))) := by
  refine Con_mk (by decide) (Nat.le_of_ble_eq_true rfl) ?_
  intro p e s₀ m args below meth c A Fx hr hlk hnm X ls hl
  have hl : lv_has ls 2 [(0, .ref (ad 0)), (1, .int (iI (z)))] := hl
  refine lv_iload_n Fx.1 Fx.2.1 dX9_lookAtKinds_0 rfl (lv_at hl 1 rfl) ?_
  refine k_bipush Fx dX9_lookAtKinds_1 (by decide) ?_
  refine k_icmp_lt (a := z) (b := 10) (tgt := 25) Fx dX9_lookAtKinds_3 (by decide) (by omega) (by omega) (fun c_3 => ?_) (fun c_3 => ?_)
  · refine lv_iload_n Fx.1 Fx.2.1 dX9_lookAtKinds_25 rfl (lv_at hl 1 rfl) ?_
    refine k_bipush Fx dX9_lookAtKinds_26 (by decide) ?_
    refine k_icmp_lt (a := z) (b := 20) (tgt := 58) Fx dX9_lookAtKinds_28 (by decide) (by omega) (by omega) (fun c_28 => ?_) (fun c_28 => ?_)
    · refine k_iconst Fx dX9_lookAtKinds_58 ?_
      exact r_iret Fx hr hlk X (by decide) dX9_lookAtKinds_59 (Qi_mk (congrArg iI (by unfold aLook; rw [if_neg (by omega), if_neg (by omega), if_neg (by omega), if_neg (by omega), if_neg (by omega), if_neg (by omega), if_neg (by omega)])))
    · refine lv_iload_n Fx.1 Fx.2.1 dX9_lookAtKinds_31 rfl (lv_at hl 1 rfl) ?_
      refine k_bipush Fx dX9_lookAtKinds_32 (by decide) ?_
      refine k_icmp_ge (a := z) (b := 26) (tgt := 58) Fx dX9_lookAtKinds_34 (by decide) (by omega) (by omega) (fun c_34 => ?_) (fun c_34 => ?_)
      · refine k_iconst Fx dX9_lookAtKinds_58 ?_
        exact r_iret Fx hr hlk X (by decide) dX9_lookAtKinds_59 (Qi_mk (congrArg iI (by unfold aLook; rw [if_neg (by omega), if_neg (by omega), if_neg (by omega), if_neg (by omega), if_neg (by omega), if_neg (by omega), if_neg (by omega)])))
      · refine lv_aload_n Fx.1 Fx.2.1 dX9_lookAtKinds_37 rfl (lv_at hl 0 rfl) ?_
        refine gC_X9_72_0 Fx X dX9_lookAtKinds_38 ?_
        refine gC_X9_149_9 Fx X dX9_lookAtKinds_41 ?_
        refine lv_iload_n Fx.1 Fx.2.1 dX9_lookAtKinds_44 rfl (lv_at hl 1 rfl) ?_
        refine k_bipush Fx dX9_lookAtKinds_45 (by decide) ?_
        refine k_isub Fx dX9_lookAtKinds_47 ?_
        refine ldC_29 (z := (z - 20)) (i := (z - 20).toNat) (x := (bI (nw (z - 20).toNat))) Fx X (by omega) (by omega) (hL.2.2.2.2 (z - 20).toNat (by omega)) dX9_lookAtKinds_48 ?_
        refine k_bif_eq (tgt := 56) Fx dX9_lookAtKinds_49 (by decide) (fun c_49 => ?_) (fun c_49 => ?_)
        · refine k_iconst Fx dX9_lookAtKinds_56 ?_
          exact r_iret Fx hr hlk X (by decide) dX9_lookAtKinds_57 (Qi_mk (congrArg iI (by unfold aLook; rw [if_neg (by omega), if_neg (by omega), if_neg (by omega), if_neg (by omega), if_neg (by omega), if_neg (by omega), if_pos (by omega), if_neg c_49])))
        · refine k_iconst Fx dX9_lookAtKinds_52 ?_
          refine lv_goto (tgt := 57) Fx.1 Fx.2.1 dX9_lookAtKinds_53 (by decide) ?_
          exact r_iret Fx hr hlk X (by decide) dX9_lookAtKinds_57 (Qi_mk (congrArg iI (by unfold aLook; rw [if_neg (by omega), if_neg (by omega), if_neg (by omega), if_neg (by omega), if_neg (by omega), if_neg (by omega), if_pos (by omega), if_pos c_49])))
  · refine lv_iload_n Fx.1 Fx.2.1 dX9_lookAtKinds_6 rfl (lv_at hl 1 rfl) ?_
    refine k_bipush Fx dX9_lookAtKinds_7 (by decide) ?_
    refine k_icmp_ge (a := z) (b := 16) (tgt := 25) Fx dX9_lookAtKinds_9 (by decide) (by omega) (by omega) (fun c_9 => ?_) (fun c_9 => ?_)
    · refine lv_iload_n Fx.1 Fx.2.1 dX9_lookAtKinds_25 rfl (lv_at hl 1 rfl) ?_
      refine k_bipush Fx dX9_lookAtKinds_26 (by decide) ?_
      refine k_icmp_lt (a := z) (b := 20) (tgt := 58) Fx dX9_lookAtKinds_28 (by decide) (by omega) (by omega) (fun c_28 => ?_) (fun c_28 => ?_)
      · refine k_iconst Fx dX9_lookAtKinds_58 ?_
        exact r_iret Fx hr hlk X (by decide) dX9_lookAtKinds_59 (Qi_mk (congrArg iI (by unfold aLook; rw [if_neg (by omega), if_neg (by omega), if_neg (by omega), if_neg (by omega), if_neg (by omega), if_neg (by omega), if_neg (by omega)])))
      · refine lv_iload_n Fx.1 Fx.2.1 dX9_lookAtKinds_31 rfl (lv_at hl 1 rfl) ?_
        refine k_bipush Fx dX9_lookAtKinds_32 (by decide) ?_
        refine k_icmp_ge (a := z) (b := 26) (tgt := 58) Fx dX9_lookAtKinds_34 (by decide) (by omega) (by omega) (fun c_34 => ?_) (fun c_34 => ?_)
        · refine k_iconst Fx dX9_lookAtKinds_58 ?_
          exact r_iret Fx hr hlk X (by decide) dX9_lookAtKinds_59 (Qi_mk (congrArg iI (by unfold aLook; rw [if_neg (by omega), if_neg (by omega), if_neg (by omega), if_neg (by omega), if_neg (by omega), if_neg (by omega), if_neg (by omega)])))
        · refine lv_aload_n Fx.1 Fx.2.1 dX9_lookAtKinds_37 rfl (lv_at hl 0 rfl) ?_
          refine gC_X9_72_0 Fx X dX9_lookAtKinds_38 ?_
          refine gC_X9_149_9 Fx X dX9_lookAtKinds_41 ?_
          refine lv_iload_n Fx.1 Fx.2.1 dX9_lookAtKinds_44 rfl (lv_at hl 1 rfl) ?_
          refine k_bipush Fx dX9_lookAtKinds_45 (by decide) ?_
          refine k_isub Fx dX9_lookAtKinds_47 ?_
          refine ldC_29 (z := (z - 20)) (i := (z - 20).toNat) (x := (bI (nw (z - 20).toNat))) Fx X (by omega) (by omega) (hL.2.2.2.2 (z - 20).toNat (by omega)) dX9_lookAtKinds_48 ?_
          refine k_bif_eq (tgt := 56) Fx dX9_lookAtKinds_49 (by decide) (fun c_49 => ?_) (fun c_49 => ?_)
          · refine k_iconst Fx dX9_lookAtKinds_56 ?_
            exact r_iret Fx hr hlk X (by decide) dX9_lookAtKinds_57 (Qi_mk (congrArg iI (by unfold aLook; rw [if_neg (by omega), if_neg (by omega), if_neg (by omega), if_neg (by omega), if_neg (by omega), if_neg (by omega), if_pos (by omega), if_neg c_49])))
          · refine k_iconst Fx dX9_lookAtKinds_52 ?_
            refine lv_goto (tgt := 57) Fx.1 Fx.2.1 dX9_lookAtKinds_53 (by decide) ?_
            exact r_iret Fx hr hlk X (by decide) dX9_lookAtKinds_57 (Qi_mk (congrArg iI (by unfold aLook; rw [if_neg (by omega), if_neg (by omega), if_neg (by omega), if_neg (by omega), if_neg (by omega), if_neg (by omega), if_pos (by omega), if_pos c_49])))
    · refine lv_aload_n Fx.1 Fx.2.1 dX9_lookAtKinds_12 rfl (lv_at hl 0 rfl) ?_
      refine gC_X9_72_0 Fx X dX9_lookAtKinds_13 ?_
      refine gC_X9_145_9 Fx X dX9_lookAtKinds_16 ?_
      refine lv_iload_n Fx.1 Fx.2.1 dX9_lookAtKinds_19 rfl (lv_at hl 1 rfl) ?_
      refine k_bipush Fx dX9_lookAtKinds_20 (by decide) ?_
      refine k_isub Fx dX9_lookAtKinds_22 ?_
      refine ldC_28 (z := (z - 10)) (i := (z - 10).toNat) (x := (iI (((wt (z - 10).toNat : Nat) : Int)))) Fx X (by omega) (by omega) (hL.2.2.2.1 (z - 10).toNat (by omega)) dX9_lookAtKinds_23 ?_
      have blw_x := hLB.1 (z - 10).toNat
      exact r_iret Fx hr hlk X (by decide) dX9_lookAtKinds_24 (Qi_mk (congrArg iI (by unfold aLook; rw [if_neg (by omega), if_neg (by omega), if_neg (by omega), if_neg (by omega), if_neg (by omega), if_pos (by omega)])))

abbrev rm_X9_look : Room := ({ frames := 1, cells := 0, slots := 0, locals := 21 } : Room)
set_option maxHeartbeats 4000000 in
set_option maxRecDepth 100000 in
theorem c_X9_look {E : XX} (hE : XS E) (l : Launch) {Γ : GG} {ad : Nat → Nat} {ed cap n : Nat} {sa : Nat → Nat} {S : Nat → Nat → Nat} {f g : Nat → Nat → Int32} (hn9 : f 1 2 = iI n) (hcap : n ≤ cap ∧ cap < 1000) (hB : SayB n S) {wt : Nat → Nat} {nw : Nat → Prop} {th ho be : Nat} (hL : LawC wt nw th ho be f g) (hLB : LawB wt th ho be) {mn : Nat} (hmn : f 5 0 = iI mn) {z : Int} (hz : -2147483648 ≤ z ∧ z < 2147483648) : Con E l yX9_look cX9_look 2 (some .int) rm_X9_look Γ (wC Γ ad ed f g (tS Γ ed cap sa S n)) [.ref (ad 0), .int (iI (z))] (Qi (iI (aLook n mn wt nw th ho be z)) (wC Γ ad ed f g (tS Γ ed cap sa S n))) := by
  refine Con_mk (by decide) (Nat.le_of_ble_eq_true rfl) ?_
  intro p e s₀ m args below meth c A Fx hr hlk hnm X ls hl
  have hl : lv_has ls 2 [(0, .ref (ad 0)), (1, .int (iI (z)))] := hl
  refine lv_iload_n Fx.1 Fx.2.1 dX9_look_0 rfl (lv_at hl 1 rfl) ?_
  by_cases c_1_0 : z = 0
  · refine k_tableIn (a := z) (tgt := 36) Fx dX9_look_1 (by omega) (by omega) (by omega) (by rw [c_1_0]; rfl) (by decide) ?_
    refine lv_aload_n Fx.1 Fx.2.1 dX9_look_36 rfl (lv_at hl 0 rfl) ?_
    refine gC_X9_10_0 Fx X dX9_look_37 ?_
    refine r_callVi (As := []) (rest := []) hE Fx X (c_Jx4a65c_size_8abf5 hE l (by exact hn9) hcap hB) cV_X9_91 (recC_1 X) rfl rfl (Nat.le_of_ble_eq_true rfl) (by decide) hl.1 dX9_look_40 (fun H locs X => ?_)
    exact r_iret Fx hr hlk X (by decide) dX9_look_43 (Qi_mk (congrArg iI (by unfold aLook; rw [if_pos (by omega)])))
  by_cases c_1_1 : z = 1
  · refine k_tableIn (a := z) (tgt := 44) Fx dX9_look_1 (by omega) (by omega) (by omega) (by rw [c_1_1]; rfl) (by decide) ?_
    refine lv_aload_n Fx.1 Fx.2.1 dX9_look_44 rfl (lv_at hl 0 rfl) ?_
    refine gC_X9_72_0 Fx X dX9_look_45 ?_
    refine gC_X9_129_9 (x := (iI (((th : Nat) : Int)))) Fx X (hL.1) dX9_look_48 ?_
    exact r_iret Fx hr hlk X (by decide) dX9_look_51 (Qi_mk (congrArg iI (by unfold aLook; rw [if_neg (by omega), if_pos (by omega)])))
  by_cases c_1_2 : z = 2
  · refine k_tableIn (a := z) (tgt := 52) Fx dX9_look_1 (by omega) (by omega) (by omega) (by rw [c_1_2]; rfl) (by decide) ?_
    refine lv_aload_n Fx.1 Fx.2.1 dX9_look_52 rfl (lv_at hl 0 rfl) ?_
    refine gC_X9_72_0 Fx X dX9_look_53 ?_
    refine gC_X9_132_9 (x := (iI (((ho : Nat) : Int)))) Fx X (hL.2.1) dX9_look_56 ?_
    exact r_iret Fx hr hlk X (by decide) dX9_look_59 (Qi_mk (congrArg iI (by unfold aLook; rw [if_neg (by omega), if_neg (by omega), if_pos (by omega)])))
  by_cases c_1_3 : z = 3
  · refine k_tableIn (a := z) (tgt := 60) Fx dX9_look_1 (by omega) (by omega) (by omega) (by rw [c_1_3]; rfl) (by decide) ?_
    refine lv_aload_n Fx.1 Fx.2.1 dX9_look_60 rfl (lv_at hl 0 rfl) ?_
    refine gC_X9_72_0 Fx X dX9_look_61 ?_
    refine gC_X9_135_9 (x := (iI (((be : Nat) : Int)))) Fx X (hL.2.2.1) dX9_look_64 ?_
    exact r_iret Fx hr hlk X (by decide) dX9_look_67 (Qi_mk (congrArg iI (by unfold aLook; rw [if_neg (by omega), if_neg (by omega), if_neg (by omega), if_pos (by omega)])))
  by_cases c_1_4 : z = 4
  · refine k_tableIn (a := z) (tgt := 68) Fx dX9_look_1 (by omega) (by omega) (by omega) (by rw [c_1_4]; rfl) (by decide) ?_
    refine lv_aload_n Fx.1 Fx.2.1 dX9_look_68 rfl (lv_at hl 0 rfl) ?_
    refine gC_X9_42_0 Fx X dX9_look_69 ?_
    refine gC_X9_138_5 (x := (iI (((mn : Nat) : Int)))) Fx X (hmn) dX9_look_72 ?_
    exact r_iret Fx hr hlk X (by decide) dX9_look_75 (Qi_mk (congrArg iI (by unfold aLook; rw [if_neg (by omega), if_neg (by omega), if_neg (by omega), if_neg (by omega), if_pos (by omega)])))
  refine k_tableOut (a := z) (tgt := 76) Fx dX9_look_1 (by omega) (by omega) (by decide) ?_
  refine lv_aload_n Fx.1 Fx.2.1 dX9_look_76 rfl (lv_at hl 0 rfl) ?_
  refine lv_iload_n Fx.1 Fx.2.1 dX9_look_77 rfl (lv_at hl 1 rfl) ?_
  refine r_callVi (As := [.int (iI (z))]) (rest := []) hE Fx X (c_X9_lookAtKinds hE l (by exact hn9) hcap hB (by exact hL) hLB (mn := mn) (z := z) (by omega) (by omega)) cV_X9_141 (recC_0 X) rfl rfl (Nat.le_of_ble_eq_true rfl) (by decide) hl.1 dX9_look_78 (fun H locs X => ?_)
  exact r_iret Fx hr hlk X (by decide) dX9_look_81 (Qi_mk rfl)

abbrev rm_X9_fault : Room := ({ frames := 0, cells := 0, slots := 0, locals := 0 } : Room)
set_option maxHeartbeats 4000000 in
set_option maxRecDepth 100000 in
theorem c_X9_fault {E : XX} (hE : XS E) (l : Launch) {Γ : GG} {ad : Nat → Nat} {ed : Nat} {f g : Nat → Nat → Int32} {tl : va_W} {fk fp : Int} (h1 : f 3 0 = iI fk) (h2 : f 3 1 = iI fp) {z : Int} (hz : -2147483648 ≤ z ∧ z < 2147483648) : Con E l yX9_fault cX9_fault 2 (some .int) rm_X9_fault Γ (wC Γ ad ed f g tl) [.ref (ad 0), .int (iI (z))] (Qi (iI (aFault fk fp z)) (wC Γ ad ed f g tl)) := by
  refine Con_mk (by decide) (Nat.le_of_ble_eq_true rfl) ?_
  intro p e s₀ m args below meth c A Fx hr hlk hnm X ls hl
  have hl : lv_has ls 2 [(0, .ref (ad 0)), (1, .int (iI (z)))] := hl
  refine lv_iload_n Fx.1 Fx.2.1 dX9_fault_0 rfl (lv_at hl 1 rfl) ?_
  by_cases c_1_0 : z = 0
  · refine lv_lookup (off := 27) (tgt := 28) Fx.1 Fx.2.1 dX9_fault_1 (by decide) (by rw [iI_toInt (by omega), c_1_0]; rfl) (by decide) ?_
    refine lv_aload_n Fx.1 Fx.2.1 dX9_fault_28 rfl (lv_at hl 0 rfl) ?_
    refine gC_X9_28_0 Fx X dX9_fault_29 ?_
    refine gC_X9_120_3 (x := (iI (fk))) Fx X (h1) dX9_fault_32 ?_
    exact r_iret Fx hr hlk X (by decide) dX9_fault_35 (Qi_mk (congrArg iI (by unfold aFault; (repeat' split) <;> omega)))
  by_cases c_1_1 : z = 1
  · refine lv_lookup (off := 35) (tgt := 36) Fx.1 Fx.2.1 dX9_fault_1 (by decide) (by rw [iI_toInt (by omega), c_1_1]; rfl) (by decide) ?_
    refine lv_aload_n Fx.1 Fx.2.1 dX9_fault_36 rfl (lv_at hl 0 rfl) ?_
    refine gC_X9_28_0 Fx X dX9_fault_37 ?_
    refine gC_X9_126_3 (x := (iI (fp))) Fx X (h2) dX9_fault_40 ?_
    exact r_iret Fx hr hlk X (by decide) dX9_fault_43 (Qi_mk (congrArg iI (by unfold aFault; (repeat' split) <;> omega)))
  refine lv_lookup (off := 43) (tgt := 44) Fx.1 Fx.2.1 dX9_fault_1 (by decide) (by rw [iI_toInt (by omega)]; simp [Op.lookupswitch.offset, Ne.symm c_1_0, c_1_0, Ne.symm c_1_1, c_1_1]) (by decide) ?_
  refine k_iconst Fx dX9_fault_44 ?_
  exact r_iret Fx hr hlk X (by decide) dX9_fault_45 (Qi_mk (congrArg iI (by unfold aFault; (repeat' split) <;> omega)))

abbrev rm_X9_drawPaperLine : Room := ({ frames := 6, cells := 0, slots := 0, locals := 142 } : Room)
set_option maxHeartbeats 4000000 in
set_option maxRecDepth 100000 in
theorem c_X9_drawPaperLine {E : XX} (hE : XS E) (l : Launch) {Γ : GG} {κ : KK} (hN : EN E κ)  {ad : Nat → Nat} {ed cap n : Nat} {sa : Nat → Nat} {S : Nat → Nat → Nat} {f g : Nat → Nat → Int32} (hn9 : f 1 2 = iI n) (hcap : n ≤ cap ∧ cap < 1000) (hB : SayB n S) {wt : Nat → Nat} {nw : Nat → Prop} {th ho be : Nat} (hL : LawC wt nw th ho be f g) (hLB : LawB wt th ho be) {dr : Prop} (hD : DrC dr n S wt nw th be f g) : Con E l yX9_drawPaperLine cX9_drawPaperLine 1 none rm_X9_drawPaperLine Γ (wC Γ ad ed f g (tS Γ ed cap sa S n)) [.ref (ad 0)] (fun v w2 => v = none ∧ ∃ f1 g1, w2 = wC Γ ad ed f1 g1 (tS Γ ed cap sa S n) ∧ DrC True n S wt nw th be f1 g1 ∧ FrD f1 f g1 g) := by
  refine Con_mk (by decide) (Nat.le_of_ble_eq_true rfl) ?_
  intro p e s₀ m args below meth c A Fx hr hlk hnm X ls hl
  have hl : lv_has ls 1 [(0, .ref (ad 0))] := hl
  refine lv_aload_n Fx.1 Fx.2.1 dX9_drawPaperLine_0 rfl (lv_at hl 0 rfl) ?_
  refine gC_X9_79_0 (x := (bI (dr))) Fx X (hD.1) dX9_drawPaperLine_1 ?_
  refine k_bif_ne (tgt := 27) Fx dX9_drawPaperLine_4 (by decide) (fun c_4 => ?_) (fun c_4 => ?_)
  · exact r_vret Fx hr hlk X (by decide) dX9_drawPaperLine_27 (⟨rfl, _, _, rfl, ⟨hD.1.trans (bI_c ⟨fun _ => trivial, fun _ => c_4⟩), fun _ => hD.2 c_4⟩, fun _ _ _ _ => rfl, fun _ _ => rfl⟩)
  · refine lv_aload_n Fx.1 Fx.2.1 dX9_drawPaperLine_7 rfl (lv_at hl 0 rfl) ?_
    refine gC_X9_35_0 Fx X dX9_drawPaperLine_8 ?_
    refine lv_aload_n Fx.1 Fx.2.1 dX9_drawPaperLine_11 rfl (lv_at hl 0 rfl) ?_
    refine gC_X9_10_0 Fx X dX9_drawPaperLine_12 ?_
    refine lv_aload_n Fx.1 Fx.2.1 dX9_drawPaperLine_15 rfl (lv_at hl 0 rfl) ?_
    refine gC_X9_72_0 Fx X dX9_drawPaperLine_16 ?_
    refine r_callV (As := [.ref (ad 1), .ref (ad 9)]) (rest := []) hE Fx X (c_X3_draw hE l hN (by exact hn9) hcap hB (by exact hL) hLB) cV_X9_196 (recC_4 X) rfl rfl (Nat.le_of_ble_eq_true rfl) (by decide) hl.1 dX9_drawPaperLine_19 (fun v9 w9 H locs hq X => ?_)
    obtain ⟨rfl, g_1, rfl, hPp, hPg⟩ := hq
    refine lv_aload_n Fx.1 Fx.2.1 dX9_drawPaperLine_22 rfl (lv_at hl 0 rfl) ?_
    refine k_iconst Fx dX9_drawPaperLine_23 ?_
    refine pC_X9_79_0 Fx X rfl rfl dX9_drawPaperLine_24 (fun H locs X => ?_)
    exact r_vret Fx hr hlk X (by decide) dX9_drawPaperLine_27 (⟨rfl, _, _, rfl, ⟨bI_1 trivial, fun _ => ⟨hPp, rfl⟩⟩, fun o j h1 h2 => (frF h2).trans (frF h1), hPg⟩)

theorem LawC_f {wt : Nat → Nat} {nw : Nat → Prop} {th ho be : Nat} {f f1 g g1 : Nat → Nat → Int32} (h : FrD f1 f g1 g) (hL : LawC wt nw th ho be f g) : LawC wt nw th ho be f1 g1 := ⟨(h.1 9 2 (by omega) (by omega)).trans hL.1, (h.1 9 3 (by omega) (by omega)).trans hL.2.1, (h.1 9 4 (by omega) (by omega)).trans hL.2.2.1, by rw [h.2 28 (by omega)]; exact hL.2.2.2.1, by rw [h.2 29 (by omega)]; exact hL.2.2.2.2⟩
theorem MowC_d {k : Nat} {M : Nat → Nat → Nat} {f f1 g g1 : Nat → Nat → Int32} (h : FrD f1 f g1 g) (hM : MowC k M f g) : MowC k M f1 g1 := ⟨(h.1 5 0 (by omega) (by omega)).trans hM.1, by rw [h.2 15 (by omega)]; exact hM.2.1, by rw [h.2 16 (by omega)]; exact hM.2.2.1, by rw [h.2 17 (by omega)]; exact hM.2.2.2.1, by rw [h.2 18 (by omega)]; exact hM.2.2.2.2.1, by rw [h.2 19 (by omega)]; exact hM.2.2.2.2.2⟩
theorem ProC_d {k : Nat} {P : Nat → Nat → Nat} {f f1 g g1 : Nat → Nat → Int32} (h : FrD f1 f g1 g) (hP : ProC k P f g) : ProC k P f1 g1 := ⟨(h.1 6 2 (by omega) (by omega)).trans hP.1, by rw [h.2 20 (by omega)]; exact hP.2.1, by rw [h.2 21 (by omega)]; exact hP.2.2⟩
theorem YrC_d {yc : Nat} {Y : Nat → Nat} {f f1 g g1 : Nat → Nat → Int32} (h : FrD f1 f g1 g) (hY : YrC yc Y f g) : YrC yc Y f1 g1 := ⟨(h.1 5 2 (by omega) (by omega)).trans hY.1, by rw [h.2 14 (by omega)]; exact hY.2⟩

abbrev rm_X9_paper : Room := ({ frames := 7, cells := 0, slots := 0, locals := 162 } : Room)
set_option maxHeartbeats 4000000 in
set_option maxRecDepth 100000 in
theorem c_X9_paper {E : XX} (hE : XS E) (l : Launch) {Γ : GG} {κ : KK} (hN : EN E κ)  {ad : Nat → Nat} {ed cap n : Nat} {sa : Nat → Nat} {S : Nat → Nat → Nat} {f g : Nat → Nat → Int32} (hn9 : f 1 2 = iI n) (hcap : n ≤ cap ∧ cap < 1000) (hB : SayB n S) {wt : Nat → Nat} {nw : Nat → Prop} {th ho be : Nat} (hL : LawC wt nw th ho be f g) (hLB : LawB wt th ho be) {dr : Prop} (hD : DrC dr n S wt nw th be f g) {z : Int} (hz : -2147483648 ≤ z ∧ z < 2147483648) : Con E l yX9_paper cX9_paper 2 (some .int) rm_X9_paper Γ (wC Γ ad ed f g (tS Γ ed cap sa S n)) [.ref (ad 0), .int (iI (z))] (fun v w2 => ∃ dr2 f1 g1, v = some (.int (iI (aPaper n S wt nw th be z))) ∧ w2 = wC Γ ad ed f1 g1 (tS Γ ed cap sa S n) ∧ DrC dr2 n S wt nw th be f1 g1 ∧ FrD f1 f g1 g) := by
  refine Con_mk (by decide) (Nat.le_of_ble_eq_true rfl) ?_
  intro p e s₀ m args below meth c A Fx hr hlk hnm X ls hl
  have hl : lv_has ls 2 [(0, .ref (ad 0)), (1, .int (iI (z)))] := hl
  refine lv_iload_n Fx.1 Fx.2.1 dX9_paper_0 rfl (lv_at hl 1 rfl) ?_
  refine k_iconst Fx dX9_paper_1 ?_
  refine k_icmp_eq (a := z) (b := (-1)) (tgt := 17) Fx dX9_paper_2 (by decide) (by omega) (by omega) (fun c_2 => ?_) (fun c_2 => ?_)
  · refine lv_aload_n Fx.1 Fx.2.1 dX9_paper_17 rfl (lv_at hl 0 rfl) ?_
    refine r_callV (As := []) (rest := []) hE Fx X (c_X9_drawPaperLine hE l hN (by exact hn9) hcap hB (by exact hL) hLB (by exact hD)) cV_X9_187 (recC_0 X) rfl rfl (Nat.le_of_ble_eq_true rfl) (by decide) hl.1 dX9_paper_18 (fun v9 w9 H locs hq X => ?_)
    obtain ⟨rfl, f_1, g_2, rfl, hD, hFD⟩ := hq
    have hn9 : f_1 1 2 = iI n := (hFD.1 1 2 (by omega) (by omega)).trans hn9
    have hL := LawC_f hFD hL
    refine lv_iload_n Fx.1 Fx.2.1 dX9_paper_21 rfl (lv_at hl 1 rfl) ?_
    refine k_iconst Fx dX9_paper_22 ?_
    refine k_icmp_ne (a := z) (b := (-1)) (tgt := 36) Fx dX9_paper_23 (by decide) (by omega) (by omega) (fun c_23 => ?_) (fun c_23 => ?_)
    · exact absurd c_2 (by omega)
    · refine lv_aload_n Fx.1 Fx.2.1 dX9_paper_26 rfl (lv_at hl 0 rfl) ?_
      refine gC_X9_35_0 Fx X dX9_paper_27 ?_
      refine gC_X9_190_4 (x := (iI (((aOn n S wt nw th be 0 (aPp n S wt nw th be 0) : Nat) : Int)))) Fx X ((hD.2 trivial).2) dX9_paper_30 ?_
      refine lv_goto (tgt := 45) Fx.1 Fx.2.1 dX9_paper_33 (by decide) ?_
      exact r_iret Fx hr hlk X (by decide) dX9_paper_45 (⟨True, _, _, by unfold aPaper; rw [if_pos (by omega)], rfl, hD, hFD⟩)
  · refine lv_iload_n Fx.1 Fx.2.1 dX9_paper_5 rfl (lv_at hl 1 rfl) ?_
    refine k_bipush Fx dX9_paper_6 (by decide) ?_
    refine r_callSi (As := [.int (iI (z)), .int (iI (10))]) (rest := []) hE Fx X (c_X9_below hE l (a := z) (b := 10) (by omega) (by omega)) cS_X9_83 rfl rfl (Nat.le_of_ble_eq_true rfl) (by decide) hl.1 dX9_paper_8 (fun H locs X => ?_)
    refine k_bif_ne (tgt := 17) Fx dX9_paper_11 (by decide) (fun c_11 => ?_) (fun c_11 => ?_)
    · refine lv_aload_n Fx.1 Fx.2.1 dX9_paper_17 rfl (lv_at hl 0 rfl) ?_
      refine r_callV (As := []) (rest := []) hE Fx X (c_X9_drawPaperLine hE l hN (by exact hn9) hcap hB (by exact hL) hLB (by exact hD)) cV_X9_187 (recC_0 X) rfl rfl (Nat.le_of_ble_eq_true rfl) (by decide) hl.1 dX9_paper_18 (fun v9 w9 H locs hq X => ?_)
      obtain ⟨rfl, f_3, g_4, rfl, hD, hFD⟩ := hq
      have hn9 : f_3 1 2 = iI n := (hFD.1 1 2 (by omega) (by omega)).trans hn9
      have hL := LawC_f hFD hL
      refine lv_iload_n Fx.1 Fx.2.1 dX9_paper_21 rfl (lv_at hl 1 rfl) ?_
      refine k_iconst Fx dX9_paper_22 ?_
      refine k_icmp_ne (a := z) (b := (-1)) (tgt := 36) Fx dX9_paper_23 (by decide) (by omega) (by omega) (fun c_23 => ?_) (fun c_23 => ?_)
      · refine lv_aload_n Fx.1 Fx.2.1 dX9_paper_36 rfl (lv_at hl 0 rfl) ?_
        refine gC_X9_35_0 Fx X dX9_paper_37 ?_
        refine gC_X9_193_4 Fx X dX9_paper_40 ?_
        refine lv_iload_n Fx.1 Fx.2.1 dX9_paper_43 rfl (lv_at hl 1 rfl) ?_
        refine ldC_12 (z := z) (i := z.toNat) (x := (iI (((aPp n S wt nw th be z.toNat : Nat) : Int)))) Fx X (by omega) (by omega) ((hD.2 trivial).1 z.toNat (by omega)) dX9_paper_44 ?_
        exact r_iret Fx hr hlk X (by decide) dX9_paper_45 (⟨True, _, _, by unfold aPaper; rw [if_neg (by omega), if_pos (by omega)], rfl, hD, hFD⟩)
      · exact absurd c_23 (by omega)
    · refine k_bipush Fx dX9_paper_14 (by decide) ?_
      exact r_iret Fx hr hlk X (by decide) dX9_paper_16 (⟨dr, _, _, by unfold aPaper; rw [if_neg (by omega), if_neg (by omega)], rfl, hD, fun _ _ _ _ => rfl, fun _ _ => rfl⟩)

