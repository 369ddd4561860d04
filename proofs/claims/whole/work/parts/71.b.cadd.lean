theorem mlM_Jx4a65c_79 : Cond.methodLink RJx4a65c 79 Lib.Math.max.name ∈ BG := by decide +kernel
theorem mlM_J8_194 : Cond.methodLink RJ8 194 Lib.Math.max.name ∈ BG := by decide +kernel
theorem mlM_J7_304 : Cond.methodLink RJ7 304 Lib.Math.min.name ∈ BG := by decide +kernel
section AP
variable {α : Type} {w s : List α}
theorem ap_at {k : Nat} : (w ++ s)[w.length + k]? = s[k]? := by rw [List.getElem?_append_right (Nat.le_add_right _ _), Nat.add_sub_cancel_left]
theorem ap_set {k : Nat} {x : α} : (w ++ s).set (w.length + k) x = w ++ s.set k x := by rw [List.set_append_right _ _ (Nat.le_add_right _ _), Nat.add_sub_cancel_left]
end AP
theorem ml_oi_X6 : Cond.methodLink RX6 3 objectInit ∈ BG := by decide +kernel

abbrev rm_X6_init : Room := ({ frames := 1, cells := 0, slots := 0, locals := 12 } : Room)
set_option maxHeartbeats 4000000 in
set_option maxRecDepth 100000 in
theorem c_X6_init {E : XX} (hE : XS E) (l : Launch) {Γ : GG} {w : va_W} {o : Nat} {k a b lo hi y d : Int} : Con E l yX6_init cX6_init 8 none rm_X6_init Γ (w ++ [(o, .inr (7, [.int 0, .int 0, .int 0, .int 0, .int 0, .int 0, .int 0]))]) [.ref (o), .int (iI (k)), .int (iI (a)), .int (iI (b)), .int (iI (lo)), .int (iI (hi)), .int (iI (y)), .int (iI (d))] (fun v w2 => v = none ∧ w2 = w ++ [(o, .inr (7, [.int (iI (k)), .int (iI (a)), .int (iI (b)), .int (iI (lo)), .int (iI (hi)), .int (iI (y)), .int (iI (d))]))]) := by
  refine Con_mk (by decide) (Nat.le_of_ble_eq_true rfl) ?_
  intro p e s₀ m args below meth c A Fx hr hlk hnm X ls hl
  have hl : lv_has ls 8 [(0, .ref (o)), (1, .int (iI (k))), (2, .int (iI (a))), (3, .int (iI (b))), (4, .int (iI (lo))), (5, .int (iI (hi))), (6, .int (iI (y))), (7, .int (iI (d)))] := hl
  refine lv_aload_n Fx.1 Fx.2.1 dX6_init_0 rfl (lv_at hl 0 rfl) ?_
  refine r_objInit Fx ml_oi_X6 hl.1 dX6_init_1 (by decide) (by decide) ?_
  refine lv_aload_n Fx.1 Fx.2.1 dX6_init_4 rfl (lv_at hl 0 rfl) ?_
  refine lv_iload_n Fx.1 Fx.2.1 dX6_init_5 rfl (lv_at hl 1 rfl) ?_
  refine pF_X6_9 (q0 := w.length + 0) Fx hnm X (ap_at.trans rfl) rfl rfl (Nat.le_of_ble_eq_true rfl) dX6_init_6 (fun H locs X => ?_)
  have X : Wd E Γ A s₀ _ _ (w ++ [(o, .inr (7, [.int (iI (k)), .int 0, .int 0, .int 0, .int 0, .int 0, .int 0]))]) := Wd.to X (ap_set.trans rfl)
  refine lv_aload_n Fx.1 Fx.2.1 dX6_init_9 rfl (lv_at hl 0 rfl) ?_
  refine lv_iload_n Fx.1 Fx.2.1 dX6_init_10 rfl (lv_at hl 2 rfl) ?_
  refine pF_X6_15 (q0 := w.length + 0) Fx hnm X (ap_at.trans rfl) rfl rfl (Nat.le_of_ble_eq_true rfl) dX6_init_11 (fun H locs X => ?_)
  have X : Wd E Γ A s₀ _ _ (w ++ [(o, .inr (7, [.int (iI (k)), .int (iI (a)), .int 0, .int 0, .int 0, .int 0, .int 0]))]) := Wd.to X (ap_set.trans rfl)
  refine lv_aload_n Fx.1 Fx.2.1 dX6_init_14 rfl (lv_at hl 0 rfl) ?_
  refine lv_iload_n Fx.1 Fx.2.1 dX6_init_15 rfl (lv_at hl 3 rfl) ?_
  refine pF_X6_18 (q0 := w.length + 0) Fx hnm X (ap_at.trans rfl) rfl rfl (Nat.le_of_ble_eq_true rfl) dX6_init_16 (fun H locs X => ?_)
  have X : Wd E Γ A s₀ _ _ (w ++ [(o, .inr (7, [.int (iI (k)), .int (iI (a)), .int (iI (b)), .int 0, .int 0, .int 0, .int 0]))]) := Wd.to X (ap_set.trans rfl)
  refine lv_aload_n Fx.1 Fx.2.1 dX6_init_19 rfl (lv_at hl 0 rfl) ?_
  refine lv_iload Fx.1 Fx.2.1 dX6_init_20 (lv_at hl 4 rfl) ?_
  refine pF_X6_21 (q0 := w.length + 0) Fx hnm X (ap_at.trans rfl) rfl rfl (Nat.le_of_ble_eq_true rfl) dX6_init_22 (fun H locs X => ?_)
  have X : Wd E Γ A s₀ _ _ (w ++ [(o, .inr (7, [.int (iI (k)), .int (iI (a)), .int (iI (b)), .int (iI (lo)), .int 0, .int 0, .int 0]))]) := Wd.to X (ap_set.trans rfl)
  refine lv_aload_n Fx.1 Fx.2.1 dX6_init_25 rfl (lv_at hl 0 rfl) ?_
  refine lv_iload Fx.1 Fx.2.1 dX6_init_26 (lv_at hl 5 rfl) ?_
  refine pF_X6_24 (q0 := w.length + 0) Fx hnm X (ap_at.trans rfl) rfl rfl (Nat.le_of_ble_eq_true rfl) dX6_init_28 (fun H locs X => ?_)
  have X : Wd E Γ A s₀ _ _ (w ++ [(o, .inr (7, [.int (iI (k)), .int (iI (a)), .int (iI (b)), .int (iI (lo)), .int (iI (hi)), .int 0, .int 0]))]) := Wd.to X (ap_set.trans rfl)
  refine lv_aload_n Fx.1 Fx.2.1 dX6_init_31 rfl (lv_at hl 0 rfl) ?_
  refine lv_iload Fx.1 Fx.2.1 dX6_init_32 (lv_at hl 6 rfl) ?_
  refine pF_X6_27 (q0 := w.length + 0) Fx hnm X (ap_at.trans rfl) rfl rfl (Nat.le_of_ble_eq_true rfl) dX6_init_34 (fun H locs X => ?_)
  have X : Wd E Γ A s₀ _ _ (w ++ [(o, .inr (7, [.int (iI (k)), .int (iI (a)), .int (iI (b)), .int (iI (lo)), .int (iI (hi)), .int (iI (y)), .int 0]))]) := Wd.to X (ap_set.trans rfl)
  refine lv_aload_n Fx.1 Fx.2.1 dX6_init_37 rfl (lv_at hl 0 rfl) ?_
  refine lv_iload Fx.1 Fx.2.1 dX6_init_38 (lv_at hl 7 rfl) ?_
  refine pF_X6_30 (q0 := w.length + 0) Fx hnm X (ap_at.trans rfl) rfl rfl (Nat.le_of_ble_eq_true rfl) dX6_init_40 (fun H locs X => ?_)
  have X : Wd E Γ A s₀ _ _ (w ++ [(o, .inr (7, [.int (iI (k)), .int (iI (a)), .int (iI (b)), .int (iI (lo)), .int (iI (hi)), .int (iI (y)), .int (iI (d))]))]) := Wd.to X (ap_set.trans rfl)
  exact r_vret Fx hr hlk X (by decide) dX6_init_43 (⟨rfl, rfl⟩)

def CapO (cap n : Nat) : Prop := (cap = 0 ∨ cap = 10 ∨ cap = 15) ∧ n ≤ cap
theorem r_acmp_t {p : Program} {l : Launch} {e : Env} {R : Room} {s : State} {m : MethodId} {args : Array Value} {below : List Frame} {meth : Method} {c : Code} {H : Heap} {locs : List Loc} {cells slots : Nat} {Q : State → Prop} {cc : ByteArray} {nL pc : Nat} {own : String} {ls : Array Slot} {rest : List Value} {a b : Nat} {off : Int} {tgt : Nat} (S : CallFix p m c cc nL s args BG own) (hdg : decode cc pc = .ok (.if_acmp .eq off, 3)) (ht : (pc : Int) + off = (tgt : Int)) (h : a = b) (kt : W p l e R s m args below meth c H locs cells slots Q (F0 m tgt ls rest)) : W p l e R s m args below meth c H locs cells slots Q (F0 m pc ls (.ref b :: .ref a :: rest)) :=
  lv_acmp_eq (rx := some a) (ry := some b) S.1 S.2.1 hdg ht (fun _ => kt) (fun z => absurd (congrArg some h) z)
theorem r_acmpn_f {p : Program} {l : Launch} {e : Env} {R : Room} {s : State} {m : MethodId} {args : Array Value} {below : List Frame} {meth : Method} {c : Code} {H : Heap} {locs : List Loc} {cells slots : Nat} {Q : State → Prop} {cc : ByteArray} {nL pc : Nat} {own : String} {ls : Array Slot} {rest : List Value} {a b : Nat} {off : Int} {tgt : Nat} (S : CallFix p m c cc nL s args BG own) (hdg : decode cc pc = .ok (.if_acmp .ne off, 3)) (ht : (pc : Int) + off = (tgt : Int)) (h : a = b) (kf : W p l e R s m args below meth c H locs cells slots Q (F0 m (pc + 3) ls rest)) : W p l e R s m args below meth c H locs cells slots Q (F0 m pc ls (.ref b :: .ref a :: rest)) :=
  lv_acmp_ne (rx := some a) (ry := some b) S.1 S.2.1 hdg ht (fun z => absurd (congrArg some h) z) (fun _ => kf)
theorem tT_0 {Γ : GG} {ed : Nat} {sa : Nat → Nat} {S : Nat → Nat → Nat} {n m : Nat} : tT Γ ed 0 sa S n m = (List.range m).map (fun i => (sa i, .inr (7, sF S i))) := rfl
/-- a first row behind a first saying -/
theorem grw_0 {E : XX} {Γ : GG} {A : Nat → Prop} {s : State} {H : Heap} {locs : List Loc} {ad : Nat → Nat} {ed q : Nat} {f g : Nat → Nat → Int32} {sa : Nat → Nat} {S : Nat → Nat → Nat} (X : Wd E Γ A s H locs (wC Γ ad q f g (tT Γ ed 0 sa S 0 1) ++ [(q, .inl (Γ.2 3, 10, .inr (.inr (.inr (.inr (fun _ => none))))))])) : Wd E Γ A s H locs (wC Γ ad q f g (tT Γ q 10 sa S 0 1)) := by
  refine Wd.emb (fun k => if k = 44 then 45 else if k = 45 then 44 else k) (fun i j hi hj h => ?_) (fun k x hx => ?_) X
  · (repeat' split at h) <;> omega
  · by_cases c : k < 44
    · rw [if_neg (by omega), if_neg (by omega)]
      rw [← hx]
      have e1 : wC Γ ad q f g (tT Γ ed 0 sa S 0 1) ++ [(q, .inl (Γ.2 3, 10, .inr (.inr (.inr (.inr (fun _ => none))))))] = wC Γ ad q f g [] ++ (tT Γ ed 0 sa S 0 1 ++ [(q, .inl (Γ.2 3, 10, .inr (.inr (.inr (.inr (fun _ => none))))))]) := rfl
      have e2 : wC Γ ad q f g (tT Γ q 10 sa S 0 1) = wC Γ ad q f g [] ++ tT Γ q 10 sa S 0 1 := rfl
      rw [e1, e2, List.getElem?_append_left (by show k < 44; exact c), List.getElem?_append_left (by show k < 44; exact c)]
    · have hl := (List.getElem?_eq_some_iff.mp hx).1
      have hl : k < 46 := hl
      rcases (show k = 44 ∨ k = 45 by omega) with e | e
      · subst e; rw [if_pos rfl]; exact hx
      · subst e; rw [if_neg (by decide), if_pos rfl]; exact hx

abbrev rm_growA : Room := ({ frames := 1, cells := 1, slots := 10, locals := 14 } : Room)
set_option maxHeartbeats 4000000 in
set_option maxRecDepth 100000 in
theorem c_growA {E : XX} (hE : XS E) (l : Launch) {Γ : GG} {κ : KK} (hN : EN E κ) {ad : Nat → Nat} {sa : Nat → Nat} {S : Nat → Nat → Nat} {f g : Nat → Nat → Int32} : Con E l yJx4a65c_grow_92f84 cJx4a65c_grow_92f84 4 (some (.array (.object "java/lang/Object"))) rm_growA Γ (wC Γ ad κ.2.2.1 f g (tT Γ κ.2.2.1 0 sa S 0 1)) [.ref (ad 1), .int (iI (1))] (fun v w2 => ∃ q, v = some (.ref q) ∧ w2 = wC Γ ad q f g (tT Γ q 10 sa S 0 1)) := by
  refine Con_mk (by decide) (Nat.le_of_ble_eq_true rfl) ?_
  intro p e s₀ m args below meth c A Fx hr hlk hnm X ls hl
  have hl : lv_has ls 4 [(0, .ref (ad 1)), (1, .int (iI (1)))] := hl
  refine lv_aload_n Fx.1 Fx.2.1 dJx4a65c_grow_92f84_0 rfl (lv_at hl 0 rfl) ?_
  refine gC_Jx4a65c_9_1 Fx X dJx4a65c_grow_92f84_1 ?_
  refine va_tlen Fx.1 Fx.2.1 (X.ef hN).2.2.2.1.2 X.2.2.2.1 (v := iI 0) rfl dJx4a65c_grow_92f84_4 ?_
  refine lv_istore_n (lv' := [(2, .int (iI (0))), (0, .ref (ad 1)), (1, .int (iI (1)))]) Fx.1 Fx.2.1 dJx4a65c_grow_92f84_5 rfl hl (by decide) rfl (fun ls hl => ?_)
  refine lv_iload_n Fx.1 Fx.2.1 dJx4a65c_grow_92f84_6 rfl (lv_at hl 0 rfl) ?_
  refine k_if_gt (a := 0) (tgt := 20) Fx dJx4a65c_grow_92f84_7 (by decide) (by omega) (fun c_7 => ?_) (fun c_7 => ?_)
  · exact absurd c_7 (by omega)
  · refine lv_aload_n Fx.1 Fx.2.1 dJx4a65c_grow_92f84_10 rfl (lv_at hl 1 rfl) ?_
    refine gC_Jx4a65c_9_1 Fx X dJx4a65c_grow_92f84_11 ?_
    refine va_gets Fx.1 Fx.2.1 (X.ef hN).2.2.2.1.1 X.2.2.2.1 Fx.2.2.2.1 (Fx.2.2.2.2 _ kf_39) (fun _ h => h) dJx4a65c_grow_92f84_14 ?_
    refine r_acmp_t (tgt := 45) Fx dJx4a65c_grow_92f84_17 (by decide) rfl ?_
    refine lv_aload_n Fx.1 Fx.2.1 dJx4a65c_grow_92f84_45 rfl (lv_at hl 1 rfl) ?_
    refine k_bipush Fx dJx4a65c_grow_92f84_46 (by decide) ?_
    refine lv_iload_n Fx.1 Fx.2.1 dJx4a65c_grow_92f84_48 rfl (lv_at hl 2 rfl) ?_
    refine r_max (a := 10) (b := 1) Fx mlM_Jx4a65c_79 (by omega) (by omega) hl.1 (by decide) (Nat.le_of_ble_eq_true rfl) (by decide) (by decide) dJx4a65c_grow_92f84_49 ?_
    refine r_newq (N := 10) hN Fx X cl_obj (by omega) (by decide) (by decide) (by decide) dJx4a65c_grow_92f84_52 (fun q_1 H X => ?_)
    refine lv_dup_x1 Fx.1 Fx.2.1 dJx4a65c_grow_92f84_55 rfl rfl ?_
    refine pf_Jx4a65c_9 (q0 := 1) Fx X rfl rfl rfl (by show 1 < 3; decide) dJx4a65c_grow_92f84_56 (fun H locs X => ?_)
    have X : Wd E Γ A s₀ H locs (wC Γ ad q_1 f g (tT Γ q_1 10 sa S 0 1)) := grw_0 (ed := κ.2.2.1) X
    exact r_aret Fx hr (by first | exact Or.inl ⟨_, rfl⟩ | exact Or.inr ⟨_, rfl⟩) hlk X (by decide) dJx4a65c_grow_92f84_59 (⟨_, rfl, rfl⟩)

abbrev rm_growdA : Room := ({ frames := 2, cells := 1, slots := 10, locals := 37 } : Room)
set_option maxHeartbeats 4000000 in
set_option maxRecDepth 100000 in
theorem c_growdA {E : XX} (hE : XS E) (l : Launch) {Γ : GG} {κ : KK} (hN : EN E κ) {ad : Nat → Nat} {sa : Nat → Nat} {S : Nat → Nat → Nat} {f g : Nat → Nat → Int32} (hn9 : f 1 2 = iI 0) : Con E l yJx4a65c_grow_d5877 cJx4a65c_grow_d5877 1 (some (.array (.object "java/lang/Object"))) rm_growdA Γ (wC Γ ad κ.2.2.1 f g (tT Γ κ.2.2.1 0 sa S 0 1)) [.ref (ad 1)] (fun v w2 => ∃ q, v = some (.ref q) ∧ w2 = wC Γ ad q f g (tT Γ q 10 sa S 0 1)) := by
  refine Con_mk (by decide) (Nat.le_of_ble_eq_true rfl) ?_
  intro p e s₀ m args below meth c A Fx hr hlk hnm X ls hl
  have hl : lv_has ls 1 [(0, .ref (ad 1))] := hl
  refine lv_aload_n Fx.1 Fx.2.1 dJx4a65c_grow_d5877_0 rfl (lv_at hl 0 rfl) ?_
  refine lv_aload_n Fx.1 Fx.2.1 dJx4a65c_grow_d5877_1 rfl (lv_at hl 0 rfl) ?_
  refine gC_Jx4a65c_48_1 (x := (iI (0))) Fx X (hn9) dJx4a65c_grow_d5877_2 ?_
  refine k_iconst Fx dJx4a65c_grow_d5877_5 ?_
  refine k_iadd Fx dJx4a65c_grow_d5877_6 ?_
  refine r_callV (As := [.int (iI ((0 + 1)))]) (rest := []) hE Fx X (c_growA hE l hN) cV_Jx4a65c_69 (recC_1 X) rfl rfl (Nat.le_of_ble_eq_true rfl) (by decide) hl.1 dJx4a65c_grow_d5877_7 (fun v9 w9 H locs hq X => ?_)
  obtain ⟨q_1, rfl, rfl⟩ := hq
  exact r_aret Fx hr (by first | exact Or.inl ⟨_, rfl⟩ | exact Or.inr ⟨_, rfl⟩) hlk X (by decide) dJx4a65c_grow_d5877_10 (⟨_, rfl, rfl⟩)

section CQ
variable {p : Program} {l : Launch} {e : Env} {R : Room} {s : State} {m : MethodId} {args : Array Value} {below : List Frame} {meth : Method} {c : Code} {H : Heap} {locs : List Loc} {cells slots : Nat} {Q : State → Prop}
variable {cc : ByteArray} {nL pc : Nat} {ls : Array Slot} {rest : List Value} {E : XX} {Γ : GG} {A : Nat → Prop} {w : va_W} {κ : KK}
theorem r_cpyq {q0 q1 n0 n1 n a0 a1 : Nat} {F G : Nat → Option Nat} (hN : EN E κ) (S : CallFix p m c cc nL s args BG RJ7) (X : Wd E Γ A s H locs w) (h0 : w[q0]? = some (a0, .inl (Γ.2 3, n0, .inr (.inr (.inr (.inr F)))))) (h1 : w[q1]? = some (a1, .inl (Γ.2 3, n1, .inr (.inr (.inr (.inr G)))))) (hn0 : n ≤ n0) (hn1 : n ≤ n1) (hn : n < 2147483648) (hel : ∀ i, i < n → ∀ y, F i = some y → ∃ (q9 : Nat) (vs : List Value), w[q9]? = some ((y, .inr (7, vs)) : Nat × va_E)) (hsz : ls.size = nL) (hf : 1 ≤ R.frames) (hlo : (rest.map fun v => v.category).sum + (nativeFrameWords "java/lang/System" "arraycopy" 5 + 11) ≤ R.locals) (hdg : decode cc pc = .ok (.invokestatic 150, 3))
    (kk : ∀ (H1 : Heap) (locs1 : List Loc), Wd E Γ A s H1 locs1 (w.set q1 (a1, .inl (Γ.2 3, n1, .inr (.inr (.inr (.inr (va_cpy F G 0 0 n))))))) → W p l e R s m args below meth c H1 locs1 cells slots Q (F0 m (pc + 3) ls rest)) : W p l e R s m args below meth c H locs cells slots Q (F0 m pc ls (.int (iI (n : Nat)) :: .int (iI 0) :: .ref a1 :: .int (iI 0) :: .ref a0 :: rest)) := by
  have e0 : (iI 0).toNatClampNeg = 0 := rfl
  have en : (iI (n : Nat)).toNatClampNeg = n := by rw [iI_cl (by omega)]; rfl
  have hca := (X.ef hN).2.1.2.2
  refine va_copyM (D := Γ.1) (cl := vwCl) (tys := gT Γ) S.1 S.2.1 (S.2.2.1.trans hsz.symm) S.2.2.2.1 (S.2.2.2.2 _ ml_cpy7) (S.2.2.2.2 _ arr_st.2.1) (S.2.2.2.2 _ arr_st.1) (S.2.2.2.2 _ arr_st.2.2) X.1 X.2.1 X.2.2.1 X.2.2.2.1 q0 q1 3 3 (E0 := "java/lang/Object") (E1 := "java/lang/Object") h0 h1 rfl rfl (by decide) (by decide) (by rw [← iI_0, iI_lt (by omega) (by omega)]; omega) (by rw [e0, en]; omega) (by rw [e0, en]; omega) (fun i hi y hy => ?_) hf hlo hdg (fun H1 locs1 a1 a2 a3 => ?_)
  · rw [en] at hi
    rw [e0, Nat.zero_add] at hy
    obtain ⟨q9, vs, hq9⟩ := hel i hi y hy
    refine va_rAny (ci := 7) X.1 X.2.1 hq9 rfl (fun comp c0 hc1 hc2 => ?_)
    obtain ⟨d0, t1, f1, f2, f3⟩ := Cond.castable_spec (va_Nw.use (A := args) rfl hca)
    cases f1.symm.trans hc2
    cases f2.symm.trans hc1
    exact f3
  · rw [e0, en] at a1 a2
    exact kk H1 locs1 ⟨X.1, a1, a2, a3, X.2.2.2.2⟩
end CQ

abbrev rm_J8_newLength_cabcc : Room := ({ frames := 1, cells := 0, slots := 0, locals := 14 } : Room)
set_option maxHeartbeats 4000000 in
set_option maxRecDepth 100000 in
theorem c_J8_newLength_cabcc {E : XX} (hE : XS E) (l : Launch) {Γ : GG} {w : va_W} : Con E l yJ8_newLength_cabcc cJ8_newLength_cabcc 4 (some .int) rm_J8_newLength_cabcc Γ w [.int (iI (10)), .int (iI (1)), .int (iI (5))] (Qi (iI 15) w) := by
  refine Con_mk (by decide) (Nat.le_of_ble_eq_true rfl) ?_
  intro p e s₀ m args below meth c A Fx hr hlk hnm X ls hl
  have hl : lv_has ls 4 [(0, .int (iI (10))), (1, .int (iI (1))), (2, .int (iI (5)))] := hl
  refine lv_iload_n Fx.1 Fx.2.1 dJ8_newLength_cabcc_0 rfl (lv_at hl 0 rfl) ?_
  refine lv_iload_n Fx.1 Fx.2.1 dJ8_newLength_cabcc_1 rfl (lv_at hl 1 rfl) ?_
  refine lv_iload_n Fx.1 Fx.2.1 dJ8_newLength_cabcc_2 rfl (lv_at hl 2 rfl) ?_
  refine r_max (a := 1) (b := 5) Fx mlM_J8_194 (by omega) (by omega) hl.1 (by decide) (Nat.le_of_ble_eq_true rfl) (by decide) (by decide) dJ8_newLength_cabcc_3 ?_
  refine k_iadd Fx dJ8_newLength_cabcc_6 ?_
  refine lv_istore_n (lv' := [(3, .int (iI ((10 + (if 1 < 5 then 5 else 1))))), (0, .int (iI (10))), (1, .int (iI (1))), (2, .int (iI (5)))]) Fx.1 Fx.2.1 dJ8_newLength_cabcc_7 rfl hl (by decide) rfl (fun ls hl => ?_)
  refine k_iconst Fx dJ8_newLength_cabcc_8 ?_
  refine lv_iload_n Fx.1 Fx.2.1 dJ8_newLength_cabcc_9 rfl (lv_at hl 0 rfl) ?_
  refine k_icmp_ge (a := 0) (b := (10 + (if 1 < 5 then 5 else 1))) (tgt := 21) Fx dJ8_newLength_cabcc_10 (by decide) (by omega) (by decide) (fun c_10 => ?_) (fun c_10 => ?_)
  · exact absurd c_10 (by decide)
  · refine lv_iload_n Fx.1 Fx.2.1 dJ8_newLength_cabcc_13 rfl (lv_at hl 0 rfl) ?_
    refine lv_ldc (v := iI 2147483639) Fx.1 Fx.2.1 Fx.2.2.2.1 (Fx.2.2.2.2 _ k_big8) dJ8_newLength_cabcc_14 ?_
    refine k_icmp_gt (a := (10 + (if 1 < 5 then 5 else 1))) (b := 2147483639) (tgt := 21) Fx dJ8_newLength_cabcc_16 (by decide) (by decide) (by omega) (fun c_16 => ?_) (fun c_16 => ?_)
    · exact absurd c_16 (by decide)
    · refine lv_iload_n Fx.1 Fx.2.1 dJ8_newLength_cabcc_19 rfl (lv_at hl 0 rfl) ?_
      exact r_iret Fx hr hlk X (by decide) dJ8_newLength_cabcc_20 (Qi_mk rfl)

theorem el_10 {Γ : GG} {ad : Nat → Nat} {ed ed2 : Nat} {f g : Nat → Nat → Int32} {sa : Nat → Nat} {S : Nat → Nat → Nat} {x : va_W} : ∀ i, i < 10 → ∀ y, (fun i => if i < 10 then some (sa i) else none) i = some y → ∃ (q9 : Nat) (vs : List Value), (wC Γ ad ed2 f g (tT Γ ed 10 sa S 10 11) ++ x)[q9]? = some ((y, .inr (7, vs)) : Nat × va_E) := by
  intro i hi y hy
  have hy : (if i < 10 then some (sa i) else none) = some y := hy
  rw [if_pos hi] at hy
  cases hy
  refine ⟨45 + i, sF S i, ?_⟩
  rcases (show i = 0 ∨ i = 1 ∨ i = 2 ∨ i = 3 ∨ i = 4 ∨ i = 5 ∨ i = 6 ∨ i = 7 ∨ i = 8 ∨ i = 9 by omega) with e | e | e | e | e | e | e | e | e | e <;> subst e <;> rfl

abbrev rm_J7_copyOf_6403c : Room := ({ frames := 1, cells := 1, slots := 15, locals := 60 } : Room)
set_option maxHeartbeats 4000000 in
set_option maxRecDepth 100000 in
theorem c_J7_copyOf_6403c {E : XX} (hE : XS E) (l : Launch) {Γ : GG} {κ : KK} (hN : EN E κ) {ad : Nat → Nat} {ed : Nat} {sa : Nat → Nat} {S : Nat → Nat → Nat} {f g : Nat → Nat → Int32} : Con E l yJ7_copyOf_6403c cJ7_copyOf_6403c 4 (some (.array (.object "java/lang/Object"))) rm_J7_copyOf_6403c Γ (wC Γ ad ed f g (tT Γ ed 10 sa S 10 11)) [.ref (ed), .int (iI (15)), .ref (κ.2.2.2)] (fun v w2 => ∃ q, v = some (.ref q) ∧ w2 = wC Γ ad ed f g (tT Γ ed 10 sa S 10 11) ++ [(q, .inl (Γ.2 3, 15, .inr (.inr (.inr (.inr (va_cpy (fun i => if i < 10 then some (sa i) else none) (fun _ => none) 0 0 10))))))]) := by
  refine Con_mk (by decide) (Nat.le_of_ble_eq_true rfl) ?_
  intro p e s₀ m args below meth c A Fx hr hlk hnm X ls hl
  have hl : lv_has ls 4 [(0, .ref (ed)), (1, .int (iI (15))), (2, .ref (κ.2.2.2))] := hl
  refine lv_aload_n Fx.1 Fx.2.1 dJ7_copyOf_6403c_0 rfl (lv_at hl 2 rfl) ?_
  refine r_ldcM hN Fx X dJ7_copyOf_6403c_1 ?_
  refine r_acmpn_f (tgt := 13) Fx dJ7_copyOf_6403c_3 (by decide) rfl ?_
  refine lv_iload_n Fx.1 Fx.2.1 dJ7_copyOf_6403c_6 rfl (lv_at hl 1 rfl) ?_
  refine r_newq (N := 15) hN Fx X cl_obj7 rfl (by decide) (by decide) (by decide) dJ7_copyOf_6403c_7 (fun q_1 H X => ?_)
  refine lv_goto (tgt := 24) Fx.1 Fx.2.1 dJ7_copyOf_6403c_10 (by decide) ?_
  refine lv_astore_n (lv' := [(3, .ref (q_1)), (0, .ref (ed)), (1, .int (iI (15))), (2, .ref (κ.2.2.2))]) Fx.1 Fx.2.1 dJ7_copyOf_6403c_24 rfl hl (by decide) rfl (fun ls hl => ?_)
  refine lv_aload_n Fx.1 Fx.2.1 dJ7_copyOf_6403c_25 rfl (lv_at hl 1 rfl) ?_
  refine k_iconst Fx dJ7_copyOf_6403c_26 ?_
  refine lv_aload_n Fx.1 Fx.2.1 dJ7_copyOf_6403c_27 rfl (lv_at hl 0 rfl) ?_
  refine k_iconst Fx dJ7_copyOf_6403c_28 ?_
  refine lv_aload_n Fx.1 Fx.2.1 dJ7_copyOf_6403c_29 rfl (lv_at hl 1 rfl) ?_
  refine r_len (t0 := 3) (q0 := 44) Fx X rfl rfl dJ7_copyOf_6403c_30 ?_
  refine lv_iload_n Fx.1 Fx.2.1 dJ7_copyOf_6403c_31 rfl (lv_at hl 2 rfl) ?_
  refine r_min (a := ((10 : Nat) : Int)) (b := 15) Fx mlM_J7_304 (by omega) (by omega) hl.1 (by decide) (Nat.le_of_ble_eq_true rfl) (by decide) (by decide) dJ7_copyOf_6403c_32 ?_
  refine k_cg (show (iI ((if 15 < ((10 : Nat) : Int) then 15 else ((10 : Nat) : Int)))) = (iI (((10 : Nat) : Int))) from rfl) ?_
  refine r_cpyq (q0 := 44) (q1 := 56) (n0 := 10) (n1 := 15) (n := 10) hN Fx X rfl rfl (by decide) (by decide) (by decide) el_10 hl.1 (by decide) (Nat.le_of_ble_eq_true rfl) dJ7_copyOf_6403c_35 (fun H locs X => ?_)
  have X : Wd E Γ A s₀ H locs ((wC Γ ad ed f g (tT Γ ed 10 sa S 10 11)) ++ [(q_1, .inl (Γ.2 3, 15, .inr (.inr (.inr (.inr (va_cpy (fun i => if i < 10 then some (sa i) else none) (fun _ => none) 0 0 10))))))]) := X
  refine lv_aload_n Fx.1 Fx.2.1 dJ7_copyOf_6403c_38 rfl (lv_at hl 0 rfl) ?_
  exact r_aret Fx hr (by first | exact Or.inl ⟨_, rfl⟩ | exact Or.inr ⟨_, rfl⟩) hlk X (by decide) dJ7_copyOf_6403c_39 (⟨_, rfl, rfl⟩)

abbrev rm_J7_copyOf_1904c : Room := ({ frames := 2, cells := 1, slots := 15, locals := 83 } : Room)
set_option maxHeartbeats 4000000 in
set_option maxRecDepth 100000 in
theorem c_J7_copyOf_1904c {E : XX} (hE : XS E) (l : Launch) {Γ : GG} {κ : KK} (hN : EN E κ) {ad : Nat → Nat} {ed : Nat} {sa : Nat → Nat} {S : Nat → Nat → Nat} {f g : Nat → Nat → Int32} : Con E l yJ7_copyOf_1904c cJ7_copyOf_1904c 2 (some (.array (.object "java/lang/Object"))) rm_J7_copyOf_1904c Γ (wC Γ ad ed f g (tT Γ ed 10 sa S 10 11)) [.ref (ed), .int (iI (15))] (fun v w2 => ∃ q, v = some (.ref q) ∧ w2 = wC Γ ad ed f g (tT Γ ed 10 sa S 10 11) ++ [(q, .inl (Γ.2 3, 15, .inr (.inr (.inr (.inr (va_cpy (fun i => if i < 10 then some (sa i) else none) (fun _ => none) 0 0 10))))))]) := by
  refine Con_mk (by decide) (Nat.le_of_ble_eq_true rfl) ?_
  intro p e s₀ m args below meth c A Fx hr hlk hnm X ls hl
  have hl : lv_has ls 2 [(0, .ref (ed)), (1, .int (iI (15)))] := hl
  refine lv_aload_n Fx.1 Fx.2.1 dJ7_copyOf_1904c_0 rfl (lv_at hl 0 rfl) ?_
  refine lv_iload_n Fx.1 Fx.2.1 dJ7_copyOf_1904c_1 rfl (lv_at hl 1 rfl) ?_
  refine lv_aload_n Fx.1 Fx.2.1 dJ7_copyOf_1904c_2 rfl (lv_at hl 0 rfl) ?_
  refine r_getC (q0 := 44) hN Fx X rfl hl.1 (by decide) (Nat.le_of_ble_eq_true rfl) dJ7_copyOf_1904c_3 ?_
  refine r_callS (As := [.ref (ed), .int (iI (15)), .ref (κ.2.2.2)]) (rest := []) hE Fx X (c_J7_copyOf_6403c hE l hN) cS_J7_300 rfl rfl (Nat.le_of_ble_eq_true rfl) (by decide) hl.1 dJ7_copyOf_1904c_6 (fun v9 w9 H locs hq X => ?_)
  obtain ⟨q_1, rfl, rfl⟩ := hq
  exact r_aret Fx hr (by first | exact Or.inl ⟨_, rfl⟩ | exact Or.inr ⟨_, rfl⟩) hlk X (by decide) dJ7_copyOf_1904c_9 (⟨_, rfl, rfl⟩)

