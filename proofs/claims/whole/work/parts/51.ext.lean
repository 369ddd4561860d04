/-! what lies outside the worlds and stays: nest links, texts, statics -/
def va_AOA (ty : FieldType) (U : State) : Prop := (Cond.arrayOver (.array ty)).before #[] U = true
abbrev KK : Type := (Nat → Nat) × (Nat → Nat) × Nat × Nat
def kwI : List Nat := [127, 129, 131, 133, 135, 137, 139, 141, 143, 144, 145, 147]
def kwT : List String := ["deed", "map", "ditch", "post", "word", "survey", "weigh", "throw", "hold", "bend", "newer", ""]
def kwL : List Nat := [4, 3, 5, 4, 4, 6, 5, 5, 4, 4, 5, 0]
def kwB : List (List Int32) := [[100, 101, 101, 100], [109, 97, 112], [100, 105, 116, 99, 104], [112, 111, 115, 116], [119, 111, 114, 100], [115, 117, 114, 118, 101, 121], [119, 101, 105, 103, 104], [116, 104, 114, 111, 119], [104, 111, 108, 100], [98, 101, 110, 100], [110, 101, 119, 101, 114], []]
def FN (U : State) : Prop := va_Nw (.methodLinkNest RX9 18 yX7_init RX9) U ∧ va_Nw (.methodLinkNest RX9 34 yX3_init RX9) U ∧ va_Nw (.methodLinkNest RX9 41 yX2_init RX9) U ∧ va_Nw (.methodLinkNest RX9 48 yX4_init RX9) U ∧ va_Nw (.methodLinkNest RX9 64 yX5_init RX9) U ∧ va_Nw (.methodLinkNest RX3 91 yX9_missOf RX9) U ∧ va_Nw (.methodLinkNest RX5 44 yX9_below RX9) U
def FO (U : State) : Prop := va_AO "java/lang/Object" U ∧ va_AOA .int U ∧ va_Nw (.castable "HedgeCourt$Saying" "java/lang/Object") U
def FS (κ : KK) (A : Nat → Prop) (U : State) (H : Heap) : Prop := vk_S 12 kwL kwB κ.1 κ.2.1 A U H ∧ ∀ i, i < 12 → vk_R RX1 (kwI.getD i 0) (kwT.getD i "") (κ.1 i) U
def FD (κ : KK) (A : Nat → Prop) (U : State) (H : Heap) : Prop := va_Z "java/util/ArrayList" "DEFAULTCAPACITY_EMPTY_ELEMENTDATA" "[Ljava/lang/Object;" (.ref κ.2.2.1) A U H ∧ va_T (.object "java/lang/Object") κ.2.2.1 0 (fun _ => .null) A U H
def FC (A : Nat → Prop) (U : State) (H : Heap) : Prop := va_Z "java/lang/String" "COMPACT_STRINGS" "Z" (.int 1) A U H ∧ va_Zq "jdk/internal/util/Preconditions" "SIOOBE_FORMATTER" "Ljava/util/function/BiFunction;" A U H
def FM (κ : KK) (U : State) : Prop := va_Mi "[Ljava/lang/Object;" κ.2.2.2 U ∧ va_Dc U
def EF (κ : KK) : XX := fun A U H => FN U ∧ FO U ∧ FS κ A U H ∧ FD κ A U H ∧ FC A U H ∧ FM κ U
abbrev EN (E : XX) (κ : KK) : Prop := ∀ (A : Nat → Prop) (U : State) (H : Heap), E A U H → EF κ A U H
theorem AOA_moved {ty : FieldType} {u U : State} (hvm : u.vm.Alike U.vm) (h : va_AOA ty u) : va_AOA ty U := by
  obtain ⟨comp, c, k, hcomp, hidx, hk, hkind, hname⟩ := arrayOverA_spec h
  obtain ⟨k', hk', hek⟩ := hvm.2.2 _ _ hk
  have hkind' : k'.kind = .array comp (.array ty) := by rw [hek]; exact hkind
  have hname' : U.vm.findClass ("[" ++ (FieldType.array ty).toString) = some c := by rw [hvm.findClass]; exact hname
  have hcomp' : U.vm.findClass (FieldType.array ty).toString = some comp := by rw [hvm.findClass]; exact hcomp
  show (Cond.arrayOver (.array ty)).holds #[] U none U [] = true
  simp only [Cond.holds, Cond.value, hcomp', Option.bind_some, beq_iff_eq]
  rw [Option.bind_eq_some_iff]
  refine ⟨c, (hvm.findIdx?_eq _ (fun _ => rfl)).trans hidx, ?_⟩
  simp [hk', hkind', hname']
theorem FN_w {u U : State} (hW : u.WarmedH U.vm) (h : FN u) : FN U := ⟨va_Nw.warmM hW h.1, va_Nw.warmM hW h.2.1, va_Nw.warmM hW h.2.2.1, va_Nw.warmM hW h.2.2.2.1, va_Nw.warmM hW h.2.2.2.2.1, va_Nw.warmM hW h.2.2.2.2.2.1, va_Nw.warmM hW h.2.2.2.2.2.2⟩
theorem FN_s {u U : State} (hv : U.vm = u.vm) (h : FN u) : FN U := ⟨va_Nw.same rfl hv.symm h.1, va_Nw.same rfl hv.symm h.2.1, va_Nw.same rfl hv.symm h.2.2.1, va_Nw.same rfl hv.symm h.2.2.2.1, va_Nw.same rfl hv.symm h.2.2.2.2.1, va_Nw.same rfl hv.symm h.2.2.2.2.2.1, va_Nw.same rfl hv.symm h.2.2.2.2.2.2⟩
theorem al_of {u U : State} (hv : U.vm = u.vm) : u.vm.Alike U.vm := by rw [hv]; exact Vm.Alike.refl _
theorem FO_w {u U : State} (hW : u.WarmedH U.vm) (h : FO u) : FO U := ⟨va_AO.moved hW.alike h.1, AOA_moved hW.alike h.2.1, va_Nw.warmC hW h.2.2⟩
theorem FO_s {u U : State} (hv : U.vm = u.vm) (h : FO u) : FO U := ⟨va_AO.moved (al_of hv) h.1, AOA_moved (al_of hv) h.2.1, va_Nw.same rfl hv.symm h.2.2⟩
theorem EFs (κ : KK) : XS (EF κ) := by
  refine ⟨fun A u U H hv h => ?_, fun A u U H hW h => ?_, fun A U H H1 hk h => ?_, fun A B U H hAB h => ?_⟩
  · obtain ⟨h1, h2, h3, h4, h5, h6⟩ := h
    have ha := al_of hv
    exact ⟨FN_s hv h1, FO_s hv h2, ⟨h3.1.moved ha, fun i hi => (h3.2 i hi).same hv⟩, ⟨h4.1.moved ha, h4.2.moved ha⟩, ⟨h5.1.moved ha, h5.2.moved ha⟩, h6.1.moved ha, h6.2.moved ha⟩
  · obtain ⟨h1, h2, h3, h4, h5, h6⟩ := h
    have ha := hW.alike
    exact ⟨FN_w hW h1, FO_w hW h2, ⟨h3.1.moved ha, fun i hi => (h3.2 i hi).warm hW⟩, ⟨h4.1.moved ha, h4.2.moved ha⟩, ⟨h5.1.moved ha, h5.2.moved ha⟩, h6.1.moved ha, h6.2.moved ha⟩
  · obtain ⟨h1, h2, h3, h4, h5, h6⟩ := h
    exact ⟨h1, h2, ⟨h3.1.kept hk, h3.2⟩, ⟨h4.1.kept hk, h4.2.kept hk⟩, ⟨h5.1.kept hk, h5.2.kept hk⟩, h6⟩
  · obtain ⟨h1, h2, h3, h4, h5, h6⟩ := h
    exact ⟨h1, h2, ⟨h3.1.narrow hAB, h3.2⟩, ⟨h4.1.narrow hAB, h4.2.narrow hAB⟩, ⟨h5.1.narrow hAB, h5.2.narrow hAB⟩, h6⟩
abbrev gSN (y : MethodName) (bytes : ByteArray) (maxL : Nat) (ret : Option FieldType) (n : Nat) : Prop := (Cond.static y ∈ BG ∧ Cond.initialized y.cls ∈ BG ∧ Cond.code y bytes maxL ret ∈ BG) ∧ y.cls ≠ "java/lang/invoke/MethodHandle" ∧ y.cls ≠ "java/lang/invoke/VarHandle" ∧ (parseMethodDescriptor y.desc).map (fun d => d.parameters.length) = some n
abbrev gIN (y : MethodName) (bytes : ByteArray) (maxL : Nat) (n : Nat) : Prop := (Cond.instanceMethod y ∈ BG ∧ Cond.initialized y.cls ∈ BG ∧ Cond.code y bytes maxL none ∈ BG) ∧ y.name = "<init>" ∧ y.cls ≠ "java/lang/invoke/MethodHandle" ∧ y.cls ≠ "java/lang/invoke/VarHandle" ∧ (parseMethodDescriptor y.desc).map (fun d => d.parameters.length) = some n
section EXT
variable {p : Program} {l : Launch} {e : Env} {R : Room} {s : State} {m : MethodId} {args : Array Value} {below : List Frame} {meth : Method} {c : Code} {H : Heap} {locs : List Loc} {cells slots : Nat} {Q : State → Prop}
variable {cc : ByteArray} {nL pc : Nat} {own : String} {ls : Array Slot} {rest : List Value} {E : XX} {Γ : GG} {A : Nat → Prop} {w : va_W} {κ : KK} {Qp : PT}
theorem Wd.ef (hN : EN E κ) (X : Wd E Γ A s H locs w) : EF κ A s s.heap := hN _ _ _ X.2.2.2.2.2
theorem r_callSN {y : MethodName} {bytes : ByteArray} {maxL n index : Nat} {ret : Option FieldType} {rm : Room} {As st0 : List Value} {host : String} {x : Int32} (hE : XS E) (S : CallFix p m c cc nL s args BG own) (X : Wd E Γ A s H locs w) (hC : Con E l y bytes maxL ret rm Γ w As (Qi x w)) (hG : gSN y bytes maxL ret n) (hl : va_Nw (.methodLinkNest own index y host) s)
    (hn : As.length = n) (hst : st0 = As.reverse ++ rest) (hsum : (rest.map fun v => v.category).sum ≤ 8) (hR : rmOk R rm maxL cells slots) (hsz : ls.size = nL) (hdg : decode cc pc = .ok (.invokestatic index, 3))
    (kk : ∀ (H1 : Heap) (locs1 : List Loc), Wd E Γ A s H1 locs1 w → W p l e R s m args below meth c H1 locs1 (cells + rm.cells) (slots + rm.slots) Q (F0 m (pc + 3) ls (.int x :: rest))) : W p l e R s m args below meth c H locs cells slots Q (F0 m pc ls st0) := by
  obtain ⟨⟨g2, g4, g5⟩, g6⟩ := hG
  have hp := Wd.pre hE X As
  refine k_call (a := As.toArray) X (va_runSN (As := As) (rest := rest) S (hC H.size) ⟨va_cnB n S.2.2.2.2 (BG_call g5) rfl rfl rfl hl (S.2.2.2.2 _ g4) g6 hR.1, S.2.2.2.2 _ g2, trivial⟩ hp rfl hn hsz hst (lv_room hsum) hdg hR.2) (fun v w' H1 locs1 hq X1 => ?_)
  obtain ⟨rfl, rfl⟩ := hq
  exact kk H1 locs1 X1
theorem r_callIN {y : MethodName} {bytes : ByteArray} {maxL n index b : Nat} {rm : Room} {As st0 : List Value} {host : String} (hE : XS E) (S : CallFix p m c cc nL s args BG own) (X : Wd E Γ A s H locs w) (hC : Con E l y bytes maxL none rm Γ w (.ref b :: As) Qp) (hG : gIN y bytes maxL n) (hl : va_Nw (.methodLinkNest own index y host) s)
    (hn : As.length = n) (hst : st0 = As.reverse ++ .ref b :: rest) (hsum : (rest.map fun v => v.category).sum ≤ 8) (hR : rmOk R rm maxL cells slots) (hsz : ls.size = nL) (hdg : decode cc pc = .ok (.invokespecial index, 3))
    (kk : ∀ (v : Option Value) (w' : va_W) (H1 : Heap) (locs1 : List Loc), Qp v w' → Wd E Γ A s H1 locs1 w' → W p l e R s m args below meth c H1 locs1 (cells + rm.cells) (slots + rm.slots) Q (F0 m (pc + 3) ls (v.toList ++ rest))) : W p l e R s m args below meth c H locs cells slots Q (F0 m pc ls st0) := by
  obtain ⟨⟨g2, g4, g5⟩, g6, g7⟩ := hG
  have hp := Wd.pre hE X (.ref b :: As)
  exact k_call (a := (Value.ref b :: As).toArray) X (va_runIN (As := As) (rest := rest) S (hC H.size) ⟨va_cnB n S.2.2.2.2 (BG_call g5) rfl rfl rfl hl (S.2.2.2.2 _ g4) g7 hR.1, g6, S.2.2.2.2 _ g2⟩ hp rfl hn hsz hst (lv_room hsum) hdg hR.2) kk
/-! Math -/
theorem st_max : Cond.static Lib.Math.max.name ∈ BG ∧ Cond.code Lib.Math.max.name Lib.Math.max.code 2 (some .int) ∈ BG := by decide +kernel
theorem st_min : Cond.static Lib.Math.min.name ∈ BG ∧ Cond.code Lib.Math.min.name Lib.Math.min.code 2 (some .int) ∈ BG := by decide +kernel
theorem st_abs : Cond.static Lib.Math.abs.name ∈ BG ∧ Cond.code Lib.Math.abs.name Lib.Math.abs.code 1 (some .int) ∈ BG := by decide +kernel
theorem in_math : Cond.initialized "java/lang/Math" ∈ BG := by decide +kernel
theorem r_max {index : Nat} {a b : Int} (S : CallFix p m c cc nL s args BG own) (hl : Cond.methodLink own index Lib.Math.max.name ∈ BG) (ha : -2147483648 ≤ a ∧ a < 2147483648) (hb : -2147483648 ≤ b ∧ b < 2147483648) (hsz : ls.size = nL) (hf : 1 ≤ R.frames) (hlo : (rest.map fun v => v.category).sum + 13 ≤ R.locals) (hc : cells ≤ R.cells) (hs : slots ≤ R.slots) (hdg : decode cc pc = .ok (.invokestatic index, 3))
    (kk : W p l e R s m args below meth c H locs cells slots Q (F0 m (pc + 3) ls (.int (iI (if a < b then b else a)) :: rest))) : W p l e R s m args below meth c H locs cells slots Q (F0 m pc ls (.int (iI b) :: .int (iI a) :: rest)) := by
  refine va_mmax S.1 S.2.1 (S.2.2.1.trans hsz.symm) S.2.2.2.1 (S.2.2.2.2 _ hl) (S.2.2.2.2 _ st_max.1) (S.2.2.2.2 _ in_math) (S.2.2.2.2 _ st_max.2) hf hlo hc hs hdg (k_cg ?_ kk)
  by_cases h : a < b
  · rw [if_pos h, if_pos ((iI_lt ha hb).mpr h)]
  · rw [if_neg h, if_neg (fun z => h ((iI_lt ha hb).mp z))]
theorem r_min {index : Nat} {a b : Int} (S : CallFix p m c cc nL s args BG own) (hl : Cond.methodLink own index Lib.Math.min.name ∈ BG) (ha : -2147483648 ≤ a ∧ a < 2147483648) (hb : -2147483648 ≤ b ∧ b < 2147483648) (hsz : ls.size = nL) (hf : 1 ≤ R.frames) (hlo : (rest.map fun v => v.category).sum + 13 ≤ R.locals) (hc : cells ≤ R.cells) (hs : slots ≤ R.slots) (hdg : decode cc pc = .ok (.invokestatic index, 3))
    (kk : W p l e R s m args below meth c H locs cells slots Q (F0 m (pc + 3) ls (.int (iI (if b < a then b else a)) :: rest))) : W p l e R s m args below meth c H locs cells slots Q (F0 m pc ls (.int (iI b) :: .int (iI a) :: rest)) := by
  refine va_mmin S.1 S.2.1 (S.2.2.1.trans hsz.symm) S.2.2.2.1 (S.2.2.2.2 _ hl) (S.2.2.2.2 _ st_min.1) (S.2.2.2.2 _ in_math) (S.2.2.2.2 _ st_min.2) hf hlo hc hs hdg (k_cg ?_ kk)
  by_cases h : b < a
  · rw [if_pos h, if_pos ((iI_lt hb ha).mpr h)]
  · rw [if_neg h, if_neg (fun z => h ((iI_lt hb ha).mp z))]
theorem r_abs {index : Nat} {a : Int} (S : CallFix p m c cc nL s args BG own) (hl : Cond.methodLink own index Lib.Math.abs.name ∈ BG) (ha : -2147483648 ≤ a ∧ a < 2147483648) (hsz : ls.size = nL) (hf : 1 ≤ R.frames) (hlo : (rest.map fun v => v.category).sum + 13 ≤ R.locals) (hc : cells ≤ R.cells) (hs : slots ≤ R.slots) (hdg : decode cc pc = .ok (.invokestatic index, 3))
    (kk : W p l e R s m args below meth c H locs cells slots Q (F0 m (pc + 3) ls (.int (iI (if a < 0 then -a else a)) :: rest))) : W p l e R s m args below meth c H locs cells slots Q (F0 m pc ls (.int (iI a) :: rest)) := by
  refine va_mabs S.1 S.2.1 (S.2.2.1.trans hsz.symm) S.2.2.2.1 (S.2.2.2.2 _ hl) (S.2.2.2.2 _ st_abs.1) (S.2.2.2.2 _ in_math) (S.2.2.2.2 _ st_abs.2) hf hlo hc hs hdg (k_cg ?_ kk)
  by_cases h : a < 0
  · show (if iI 0 ≤ iI a then iI a else iI 0 - iI a) = _
    rw [if_pos h, if_neg (fun z => absurd ((iI_le (by omega) ha).mp z) (by omega)), iI_sub, Int.zero_sub]
  · show (if iI 0 ≤ iI a then iI a else iI 0 - iI a) = _
    rw [if_neg h, if_pos ((iI_le (by omega) ha).mpr (by omega))]
end EXT
