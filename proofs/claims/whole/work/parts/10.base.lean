/-! numbers: an int by the whole number that it is -/
def iI (z : Int) : Int32 := Int32.ofInt z
theorem iI_add (a b : Int) : iI a + iI b = iI (a + b) := (Int32.ofInt_add a b).symm
theorem iI_sub (a b : Int) : iI a - iI b = iI (a - b) := (Int32.ofInt_sub a b).symm
theorem iI_mul (a b : Int) : iI a * iI b = iI (a * b) := (Int32.ofInt_mul a b).symm
theorem iI_neg (a : Int) : - iI a = iI (-a) := (Int32.ofInt_neg a).symm
theorem iI_toInt {z : Int} (h : -2147483648 ≤ z ∧ z < 2147483648) : (iI z).toInt = z := by
  unfold iI
  rw [Int32.toInt_ofInt]
  show z.bmod 4294967296 = z
  exact Int.bmod_eq_of_le (by omega) (by omega)
theorem iI_self (x : Int32) : iI x.toInt = x := Int32.ofInt_toInt x
theorem iI_ex (x : Int32) : ∃ z : Int, (-2147483648 ≤ z ∧ z < 2147483648) ∧ x = iI z :=
  ⟨x.toInt, ⟨Int32.le_toInt x, Int32.toInt_lt x⟩, (iI_self x).symm⟩
theorem iI_lt {a b : Int} (ha : -2147483648 ≤ a ∧ a < 2147483648) (hb : -2147483648 ≤ b ∧ b < 2147483648) : iI a < iI b ↔ a < b := by
  rw [Int32.lt_iff_toInt_lt, iI_toInt ha, iI_toInt hb]
theorem iI_le {a b : Int} (ha : -2147483648 ≤ a ∧ a < 2147483648) (hb : -2147483648 ≤ b ∧ b < 2147483648) : iI a ≤ iI b ↔ a ≤ b := by
  rw [Int32.le_iff_toInt_le, iI_toInt ha, iI_toInt hb]
theorem iI_eq {a b : Int} (ha : -2147483648 ≤ a ∧ a < 2147483648) (hb : -2147483648 ≤ b ∧ b < 2147483648) : iI a = iI b ↔ a = b := by
  refine ⟨fun h => ?_, fun h => by rw [h]⟩
  have h1 := congrArg Int32.toInt h
  rwa [iI_toInt ha, iI_toInt hb] at h1
theorem iI_0 : iI 0 = 0 := rfl
theorem iI_nI (n : Nat) : nI n = iI n := by
  unfold nI iI
  exact (Int32.ofInt_eq_ofNat).symm
theorem iI_cl {z : Int} (h : 0 ≤ z ∧ z < 2147483648) : (iI z).toNatClampNeg = z.toNat := by
  show (iI z).toInt.toNat = z.toNat
  rw [iI_toInt ⟨by omega, h.2⟩]
theorem iI_in {z : Int} {n : Nat} (h : 0 ≤ z ∧ z < n) (hn : n < 2147483648) : vp_in (iI z) n := by
  unfold vp_in
  rw [← iI_0, iI_lt ⟨by omega, by omega⟩ ⟨by omega, by omega⟩, iI_cl ⟨by omega, by omega⟩]
  omega
/-- a condition as the machine's boolean -/
noncomputable def bI (P : Prop) : Int32 := @ite _ P (Classical.propDecidable P) 1 0
theorem bI_t {P : Prop} (h : P) : bI P = 1 := if_pos h
theorem bI_f {P : Prop} (h : ¬ P) : bI P = 0 := if_neg h
theorem bI_c {P Q : Prop} (h : P ↔ Q) : bI P = bI Q := by rw [propext h]
theorem bI_z {P : Prop} : bI P = 0 ↔ ¬ P := by
  by_cases h : P
  · rw [bI_t h]; simp [h]
  · rw [bI_f h]; simp [h]
theorem bI_nz {P : Prop} : ¬ bI P = 0 ↔ P := by rw [bI_z]; exact Classical.not_not
theorem bI_1 {P : Prop} (h : P) : iI 1 = bI P := (bI_t h).symm
theorem bI_0 {P : Prop} (h : ¬ P) : iI 0 = bI P := (bI_f h).symm
theorem bI_nar (P : Prop) : narrow .boolean (.int (bI P)) = .int (bI P) := by
  by_cases h : P
  · rw [bI_t h]; rfl
  · rw [bI_f h]; rfl
theorem bI_iI (P : Prop) : bI P = iI (@ite _ P (Classical.propDecidable P) 1 0) := by
  by_cases h : P
  · rw [bI_t h, if_pos h]; rfl
  · rw [bI_f h, if_neg h]; rfl
/-! one list of words for every method -/
abbrev BG : List Cond := wsL_law
set_option maxRecDepth 20000 in
theorem BG_good : BG.all goodWord = true := by decide +kernel
theorem BG_gd {w : Cond} (h : w ∈ BG) : w ∈ BG ∧ ((w.onTables && w.keeps) = true ∨ ∃ ty, w = .arrayClass ty) := ⟨h, good_of_word (List.all_eq_true.mp BG_good w h)⟩
theorem BG_call {y : MethodName} {bytes : ByteArray} {n : Nat} {r : Option FieldType} (h : Cond.code y bytes n r ∈ BG) : GoodIn BG (.code y bytes n r :: BG) := fun w hw => (List.mem_cons.mp hw).elim (fun e => e ▸ BG_gd h) BG_gd
/-! what a state is given by: classes, array classes; what lies outside the world -/
abbrev GG : Type := va_G × (Nat → ClassId)
def gT (Γ : GG) : List (ClassId × FieldType) := [(Γ.2 0, .int), (Γ.2 1, .byte), (Γ.2 2, .boolean), (Γ.2 3, .object "java/lang/Object"), (Γ.2 4, .array .int)]
abbrev XX : Type := (Nat → Prop) → State → Heap → Prop
def XS (E : XX) : Prop := (∀ (A : Nat → Prop) (u U : State) (H : Heap), U.vm = u.vm → E A u H → E A U H) ∧ (∀ (A : Nat → Prop) (u U : State) (H : Heap), u.WarmedH U.vm → E A u H → E A U H) ∧ (∀ (A : Nat → Prop) (U : State) (H H1 : Heap), (∀ a : Nat, a < H.size → ¬ A a → H1[a]? = H[a]?) → E A U H → E A U H1) ∧ (∀ (A B : Nat → Prop) (U : State) (H : Heap), (∀ q, B q → A q) → E A U H → E B U H)
def X0 : XX := fun _ _ _ => True
theorem X0s : XS X0 := ⟨fun _ _ _ _ _ _ => trivial, fun _ _ _ _ _ _ => trivial, fun _ _ _ _ _ _ => trivial, fun _ _ _ _ _ _ => trivial⟩
/-- the post of a method: an answer, a world -/
abbrev PT : Type := Option Value → va_W → Prop
def CPre (E : XX) (Γ : GG) (w : va_W) (av : List Value) (sz : Nat) : Array Value → State → Prop := va_Pc av (fun U => U.heap.size = sz ∧ va_P Γ.1 vwCl w U.heap ∧ va_K Γ.1 vwCl (gT Γ) U ∧ va_D (fun _ => True) w ∧ E (va_A w sz) U U.heap)
def CPost (Γ : GG) (A : Nat → Prop) (Qp : PT) : Array Value → State → Outcome → State → Prop := fun _ st oc t => (∃ (v : Option Value) (w' : va_W), oc = .returned v ∧ Qp v w' ∧ va_P Γ.1 vwCl w' t.heap ∧ va_D A w') ∧ va_F A st t
def Con (E : XX) (l : Launch) (y : MethodName) (cc : ByteArray) (nL : Nat) (ret : Option FieldType) (rm : Room) (Γ : GG) (w : va_W) (av : List Value) (Qp : PT) : Prop :=
  ∀ sz : Nat, Met l y (.code y cc nL ret :: BG) rm (CPre E Γ w av sz) (CPost Γ (va_A w sz) Qp) rm.cells rm.slots (va_A w sz)
def Wd (E : XX) (Γ : GG) (A : Nat → Prop) (s : State) (H : Heap) (locs : List Loc) (w : va_W) : Prop :=
  va_K Γ.1 vwCl (gT Γ) s ∧ va_P Γ.1 vwCl w H ∧ va_D A w ∧ va_S A s.heap H locs ∧ (∀ q, s.heap.size ≤ q → A q) ∧ E A s s.heap
def RQ (below : List Frame) (args : Array Value) (s : State) (Γ : GG) (A : Nat → Prop) (Qp : PT) (rm : Room) : State → Prop := MQ below (CPost Γ A Qp) args s rm.cells rm.slots A
theorem Con_mk {E : XX} {l : Launch} {y : MethodName} {cc : ByteArray} {nL : Nat} {ret : Option FieldType} {rm : Room} {Γ : GG} {w : va_W} {av : List Value} {Qp : PT} (hy : plainName y.cls = true) (hn : (lg_sl av).length ≤ nL)
    (body : ∀ (p : Program) (e : Env) (s : State) (m : MethodId) (args : Array Value) (below : List Frame) (meth : Method) (c : Code) (A : Nat → Prop), CallFix p m c cc nL s args BG y.cls → meth.sig.returnType = ret → meth.locks = false → meth.name = y.name → Wd E Γ A s s.heap [] w → ∀ ls : Array Slot, lv_has ls nL (lv_args 0 av) → W p l e rm s m args below meth c s.heap [] 0 0 (RQ below args s Γ A Qp rm) (F0 m 0 ls [])) : Con E l y cc nL ret rm Γ w av Qp := by
  intro sz
  refine Met.ofW (cc := cc) (maxL := nL) (ret := ret) hy rfl ?_
  intro p e s m args below meth c s₁ B hml hv
  obtain ⟨rfl, hsz, hP, hK, hD0, hE⟩ := hv
  subst hsz
  have hts : ∀ w ∈ BG, w.before av.toArray s = true := fun w hw => atoms_spec (ws := .code y cc nL ret :: BG) B.pre w (List.mem_cons_of_mem _ hw)
  rw [lg_entry_eq]
  exact body p e s m av.toArray below meth c (va_A w s.heap.size) ⟨B.exec, B.bytes, hml, findClass_of_methodNamed B.named, hts⟩ B.returns B.notSynchronized (name_of_methodNamed B.named B.method).1 ⟨hK, hP, hD0.self, va_S.rf, fun q h => Or.inr h, hE⟩ _ (lv_entry av hn)
section BASE
variable {p : Program} {l : Launch} {e : Env} {R : Room} {s : State} {m : MethodId} {args : Array Value} {below : List Frame} {meth : Method} {c : Code} {H : Heap} {locs : List Loc} {cells slots : Nat} {Q : State → Prop}
variable {cc : ByteArray} {nL pc : Nat} {own : String} {ls : Array Slot} {rest : List Value} {E : XX} {Γ : GG} {A : Nat → Prop} {w w' : va_W} {Qp : PT}
theorem Wd.pre (hE : XS E) (X : Wd E Γ A s H locs w) (av : List Value) : FrameBlind (CPre E Γ w av H.size) ∧ ∀ U : State, U.heap = H → s.WarmedH U.vm → CPre E Γ w av H.size av.toArray U := by
  obtain ⟨hK, hP, hD, hS, hA, hX⟩ := X
  refine ⟨fun a U g mk q => ?_, fun U hU hW => ?_⟩
  · obtain ⟨q0, q1, qP, qK, qD, qE⟩ := q
    exact ⟨q0, q1, qP, va_K.moved (u := U) (U := U.calling g mk a) (Vm.Alike.refl U.vm) qK, qD, hE.1 _ U _ _ rfl qE⟩
  · refine ⟨rfl, by rw [hU], by rw [hU]; exact hP, va_K.moved hW.alike hK, hD.weaken (fun _ _ _ _ => trivial), ?_⟩
    rw [hU]
    refine hE.2.2.2 A _ U H (fun q h => ?_) (hE.2.1 A s U H hW (hE.2.2.1 A s s.heap H hS.2.1 hX))
    rcases h with ⟨k, e, h⟩ | h
    · exact hD.2 k (q, e) h
    · exact hA q (Nat.le_trans hS.1 h)
theorem k_call {mc ms : Nat} {st0 : List Value} {a : Array Value} (X : Wd E Γ A s H locs w) (hr : va_Run p l e R s m args below meth c H locs cells slots mc ms (F0 m pc ls st0) rest (CPost Γ (va_A w H.size) Qp a) (va_A w H.size))
    (kk : ∀ (v : Option Value) (w' : va_W) (H1 : Heap) (locs1 : List Loc), Qp v w' → Wd E Γ A s H1 locs1 w' → W p l e R s m args below meth c H1 locs1 (cells + mc) (slots + ms) Q (F0 m (pc + 3) ls (v.toList ++ rest))) : W p l e R s m args below meth c H locs cells slots Q (F0 m pc ls st0) := by
  obtain ⟨hK, hP, hD, hS, hA, hX⟩ := X
  have hF : ∀ q, va_A w H.size q → A q := by
    intro q h
    rcases h with ⟨k, e, h⟩ | h
    · exact hD.2 k (q, e) h
    · exact hA q (Nat.le_trans hS.1 h)
  intro T hT Xs
  obtain ⟨v, st₀, t, T', L, h0, X', hL, e1, e2, ⟨⟨v', w', hv, hq, hP1, hD1⟩, hz, hk⟩, st⟩ := hr T hT Xs
  cases hv
  rw [h0] at hz hk
  obtain ⟨t2, a1, b1⟩ := kk v w' T'.heap (locs ++ L) hq ⟨hK, by rw [e1]; exact hP1, ⟨hD1.1, fun k q h => hF _ (hD1.2 k q h)⟩,
    ⟨Nat.le_trans hS.1 (by rw [e1]; exact hz), fun q h1 h2 => by rw [e1, hk q (Nat.lt_of_lt_of_le h1 hS.1) (fun z => h2 (hF q z))]; exact hS.2.1 q h1 h2, fun q hq => by
      rcases List.mem_append.mp hq with h | h
      · exact hS.2.2 q h
      · exact hF _ (hL q h)⟩, hA, hX⟩ T' rfl X'
  exact ⟨t2, st t2 a1, b1⟩
/-- the words of a call, by one list -/
abbrev gV (own : String) (index : Nat) (y : MethodName) (bytes : ByteArray) (maxL : Nat) (ret : Option FieldType) (n : Nat) : Prop := (Cond.methodLink own index y ∈ BG ∧ Cond.instanceMethod y ∈ BG ∧ Cond.selects y.cls y y ∈ BG ∧ Cond.initialized y.cls ∈ BG ∧ Cond.code y bytes maxL ret ∈ BG) ∧ y.cls ≠ "java/lang/invoke/MethodHandle" ∧ y.cls ≠ "java/lang/invoke/VarHandle" ∧ (parseMethodDescriptor y.desc).map (fun d => d.parameters.length) = some n
abbrev gS (own : String) (index : Nat) (y : MethodName) (bytes : ByteArray) (maxL : Nat) (ret : Option FieldType) (n : Nat) : Prop := (Cond.methodLink own index y ∈ BG ∧ Cond.static y ∈ BG ∧ Cond.initialized y.cls ∈ BG ∧ Cond.code y bytes maxL ret ∈ BG) ∧ y.cls ≠ "java/lang/invoke/MethodHandle" ∧ y.cls ≠ "java/lang/invoke/VarHandle" ∧ (parseMethodDescriptor y.desc).map (fun d => d.parameters.length) = some n
abbrev gI (own : String) (index : Nat) (y : MethodName) (bytes : ByteArray) (maxL : Nat) (n : Nat) : Prop := (Cond.methodLink own index y ∈ BG ∧ Cond.instanceMethod y ∈ BG ∧ Cond.initialized y.cls ∈ BG ∧ Cond.code y bytes maxL none ∈ BG) ∧ y.name = "<init>" ∧ y.cls ≠ "java/lang/invoke/MethodHandle" ∧ y.cls ≠ "java/lang/invoke/VarHandle" ∧ (parseMethodDescriptor y.desc).map (fun d => d.parameters.length) = some n
abbrev rmOk (R rm : Room) (maxL cells slots : Nat) : Prop := (rm.frames + 1 ≤ R.frames ∧ 8 + (maxL + 11) + rm.locals ≤ R.locals) ∧ cells + rm.cells ≤ R.cells ∧ slots + rm.slots ≤ R.slots
theorem r_callV {y : MethodName} {bytes : ByteArray} {maxL n index b : Nat} {ret : Option FieldType} {rm : Room} {As st0 : List Value} (hE : XS E) (S : CallFix p m c cc nL s args BG own) (X : Wd E Γ A s H locs w) (hC : Con E l y bytes maxL ret rm Γ w (.ref b :: As) Qp) (hG : gV own index y bytes maxL ret n)
    (hb : ∃ cell : Cell, H[b]? = some cell ∧ cell.vm.isStatics = false ∧ s.vm.findClass y.cls = some cell.cls) (hn : As.length = n) (hst : st0 = As.reverse ++ .ref b :: rest) (hsum : (rest.map fun v => v.category).sum ≤ 8) (hR : rmOk R rm maxL cells slots) (hsz : ls.size = nL) (hdg : decode cc pc = .ok (.invokevirtual index, 3))
    (kk : ∀ (v : Option Value) (w' : va_W) (H1 : Heap) (locs1 : List Loc), Qp v w' → Wd E Γ A s H1 locs1 w' → W p l e R s m args below meth c H1 locs1 (cells + rm.cells) (slots + rm.slots) Q (F0 m (pc + 3) ls (v.toList ++ rest))) : W p l e R s m args below meth c H locs cells slots Q (F0 m pc ls st0) := by
  obtain ⟨⟨g1, g2, g3, g4, g5⟩, g6⟩ := hG
  have hp := Wd.pre hE X (.ref b :: As)
  refine k_call (a := (Value.ref b :: As).toArray) X (va_runV (As := As) (rest := rest) S (hC H.size) (cwV (C := y.cls) n S.2.2.2.2 (fun x hx => ?_) rfl rfl rfl ⟨rfl, g6⟩ hR.1) ⟨hp.1, hb, hp.2⟩ rfl hn hsz hst (lv_room hsum) hdg hR.2) kk
  rcases List.mem_append.mp hx with h | h
  · simp only [List.mem_cons, List.not_mem_nil, or_false] at h
    rcases h with rfl | rfl | rfl | rfl
    · exact BG_gd g1
    · exact BG_gd g2
    · exact BG_gd g3
    · exact BG_gd g4
  · exact BG_call g5 x h
theorem r_callS {y : MethodName} {bytes : ByteArray} {maxL n index : Nat} {ret : Option FieldType} {rm : Room} {As st0 : List Value} (hE : XS E) (S : CallFix p m c cc nL s args BG own) (X : Wd E Γ A s H locs w) (hC : Con E l y bytes maxL ret rm Γ w As Qp) (hG : gS own index y bytes maxL ret n)
    (hn : As.length = n) (hst : st0 = As.reverse ++ rest) (hsum : (rest.map fun v => v.category).sum ≤ 8) (hR : rmOk R rm maxL cells slots) (hsz : ls.size = nL) (hdg : decode cc pc = .ok (.invokestatic index, 3))
    (kk : ∀ (v : Option Value) (w' : va_W) (H1 : Heap) (locs1 : List Loc), Qp v w' → Wd E Γ A s H1 locs1 w' → W p l e R s m args below meth c H1 locs1 (cells + rm.cells) (slots + rm.slots) Q (F0 m (pc + 3) ls (v.toList ++ rest))) : W p l e R s m args below meth c H locs cells slots Q (F0 m pc ls st0) := by
  obtain ⟨⟨g1, g2, g4, g5⟩, g6⟩ := hG
  have hp := Wd.pre hE X As
  exact k_call (a := As.toArray) X (va_runS (As := As) (rest := rest) S (hC H.size) ⟨callB_of n S.2.2.2.2 (BG_call g5) rfl rfl rfl (S.2.2.2.2 _ g4) (S.2.2.2.2 _ g1) g6 hR.1, S.2.2.2.2 _ g2⟩ hp rfl hn hsz hst (lv_room hsum) hdg hR.2) kk
theorem r_callI {y : MethodName} {bytes : ByteArray} {maxL n index b : Nat} {rm : Room} {As st0 : List Value} (hE : XS E) (S : CallFix p m c cc nL s args BG own) (X : Wd E Γ A s H locs w) (hC : Con E l y bytes maxL none rm Γ w (.ref b :: As) Qp) (hG : gI own index y bytes maxL n)
    (hn : As.length = n) (hst : st0 = As.reverse ++ .ref b :: rest) (hsum : (rest.map fun v => v.category).sum ≤ 8) (hR : rmOk R rm maxL cells slots) (hsz : ls.size = nL) (hdg : decode cc pc = .ok (.invokespecial index, 3))
    (kk : ∀ (v : Option Value) (w' : va_W) (H1 : Heap) (locs1 : List Loc), Qp v w' → Wd E Γ A s H1 locs1 w' → W p l e R s m args below meth c H1 locs1 (cells + rm.cells) (slots + rm.slots) Q (F0 m (pc + 3) ls (v.toList ++ rest))) : W p l e R s m args below meth c H locs cells slots Q (F0 m pc ls st0) := by
  obtain ⟨⟨g1, g2, g4, g5⟩, g6, g7⟩ := hG
  have hp := Wd.pre hE X (.ref b :: As)
  exact k_call (a := (Value.ref b :: As).toArray) X (va_runI (As := As) (rest := rest) S (hC H.size) ⟨callB_of n S.2.2.2.2 (BG_call g5) rfl rfl rfl (S.2.2.2.2 _ g4) (S.2.2.2.2 _ g1) g7 hR.1, g6, S.2.2.2.2 _ g2⟩ hp rfl hn hsz hst (lv_room hsum) hdg hR.2) kk
/-- a world whose list is the same -/
theorem Wd.to (X : Wd E Γ A s H locs w) (h : w = w') : Wd E Γ A s H locs w' := h ▸ X
/-! answers -/
theorem r_iret {rm : Room} {v : Int32} (S : CallFix p m c cc nL s args BG own) (hr : meth.sig.returnType = some .int) (hlk : meth.locks = false) (X : Wd E Γ A s H locs w') (hc : cells ≤ rm.cells ∧ slots ≤ rm.slots) (hdg : decode cc pc = .ok (.ireturn, 1)) (hq : Qp (some (.int v)) w') : W p l e R s m args below meth c H locs cells slots (RQ below args s Γ A Qp rm) (F0 m pc ls [.int v]) := by
  refine W.widen hc.1 hc.2 ?_
  exact W.iret S.1 S.2.1 hr (fun t ht hW => ⟨⟨_, w', rfl, hq, by rw [ht]; exact X.2.1, X.2.2.1⟩, X.2.2.2.1.F ht⟩) X.2.2.2.1.2.2 hdg hlk
theorem r_zret {rm : Room} {v : Int32} {ty : FieldType} (S : CallFix p m c cc nL s args BG own) (hr : meth.sig.returnType = some ty) (hlk : meth.locks = false) (X : Wd E Γ A s H locs w') (hc : cells ≤ rm.cells ∧ slots ≤ rm.slots) (hdg : decode cc pc = .ok (.ireturn, 1)) (hn : narrow ty (.int v) = .int v) (hq : Qp (some (.int v)) w') : W p l e R s m args below meth c H locs cells slots (RQ below args s Γ A Qp rm) (F0 m pc ls [.int v]) := by
  refine W.widen hc.1 hc.2 ?_
  exact W.zret S.1 S.2.1 hr hn (fun t ht hW => ⟨⟨_, w', rfl, hq, by rw [ht]; exact X.2.1, X.2.2.1⟩, X.2.2.2.1.F ht⟩) X.2.2.2.1.2.2 hdg hlk
theorem r_vret {rm : Room} (S : CallFix p m c cc nL s args BG own) (hr : meth.sig.returnType = none) (hlk : meth.locks = false) (X : Wd E Γ A s H locs w') (hc : cells ≤ rm.cells ∧ slots ≤ rm.slots) (hdg : decode cc pc = .ok (.return_, 1)) (hq : Qp none w') : W p l e R s m args below meth c H locs cells slots (RQ below args s Γ A Qp rm) (F0 m pc ls []) := by
  refine W.widen hc.1 hc.2 ?_
  exact W.vret S.1 S.2.1 hr (fun t ht hW => ⟨⟨_, w', rfl, hq, by rw [ht]; exact X.2.1, X.2.2.1⟩, X.2.2.2.1.F ht⟩) X.2.2.2.1.2.2 hdg hlk
theorem r_aret {rm : Room} {a : Nat} {rt : FieldType} (S : CallFix p m c cc nL s args BG own) (hr : meth.sig.returnType = some rt) (hrt : (∃ n, rt = .object n) ∨ ∃ t, rt = .array t) (hlk : meth.locks = false) (X : Wd E Γ A s H locs w') (hc : cells ≤ rm.cells ∧ slots ≤ rm.slots) (hdg : decode cc pc = .ok (.areturn, 1)) (hq : Qp (some (.ref a)) w') : W p l e R s m args below meth c H locs cells slots (RQ below args s Γ A Qp rm) (F0 m pc ls [.ref a]) := by
  refine W.widen hc.1 hc.2 ?_
  exact W.aret S.1 S.2.1 hr hrt (Or.inr ⟨a, rfl⟩) (fun t ht hW => ⟨⟨_, w', rfl, hq, by rw [ht]; exact X.2.1, X.2.2.1⟩, X.2.2.2.1.F ht⟩) X.2.2.2.1.2.2 hdg hlk
/-! instructions on whole numbers -/
theorem k_cg {x y : Int32} (h : x = y) (k : W p l e R s m args below meth c H locs cells slots Q (F0 m pc ls (.int y :: rest))) : W p l e R s m args below meth c H locs cells slots Q (F0 m pc ls (.int x :: rest)) := h ▸ k
theorem k_iconst {n : Int} (S : CallFix p m c cc nL s args BG own) (hdg : decode cc pc = .ok (.iconst n, 1)) (k : W p l e R s m args below meth c H locs cells slots Q (F0 m (pc + 1) ls (.int (iI n) :: rest))) : W p l e R s m args below meth c H locs cells slots Q (F0 m pc ls rest) := lv_iconst S.1 S.2.1 hdg rfl k
theorem k_bipush {n : Int} (S : CallFix p m c cc nL s args BG own) (hdg : decode cc pc = .ok (.bipush n, 2)) (hv : (Int8.ofInt n).toInt32 = iI n) (k : W p l e R s m args below meth c H locs cells slots Q (F0 m (pc + 2) ls (.int (iI n) :: rest))) : W p l e R s m args below meth c H locs cells slots Q (F0 m pc ls rest) := lv_bipush S.1 S.2.1 hdg hv k
theorem k_sipush {n : Int} (S : CallFix p m c cc nL s args BG own) (hdg : decode cc pc = .ok (.sipush n, 3)) (hv : (Int16.ofInt n).toInt32 = iI n) (k : W p l e R s m args below meth c H locs cells slots Q (F0 m (pc + 3) ls (.int (iI n) :: rest))) : W p l e R s m args below meth c H locs cells slots Q (F0 m pc ls rest) := lv_sipush S.1 S.2.1 hdg hv k
theorem k_iadd {a b : Int} (S : CallFix p m c cc nL s args BG own) (hdg : decode cc pc = .ok (.iadd, 1)) (k : W p l e R s m args below meth c H locs cells slots Q (F0 m (pc + 1) ls (.int (iI (a + b)) :: rest))) : W p l e R s m args below meth c H locs cells slots Q (F0 m pc ls (.int (iI b) :: .int (iI a) :: rest)) := lv_iadd S.1 S.2.1 hdg (k_cg (iI_add a b) k)
theorem k_isub {a b : Int} (S : CallFix p m c cc nL s args BG own) (hdg : decode cc pc = .ok (.isub, 1)) (k : W p l e R s m args below meth c H locs cells slots Q (F0 m (pc + 1) ls (.int (iI (a - b)) :: rest))) : W p l e R s m args below meth c H locs cells slots Q (F0 m pc ls (.int (iI b) :: .int (iI a) :: rest)) := lv_isub S.1 S.2.1 hdg (k_cg (iI_sub a b) k)
theorem k_imul {a b : Int} (S : CallFix p m c cc nL s args BG own) (hdg : decode cc pc = .ok (.imul, 1)) (k : W p l e R s m args below meth c H locs cells slots Q (F0 m (pc + 1) ls (.int (iI (a * b)) :: rest))) : W p l e R s m args below meth c H locs cells slots Q (F0 m pc ls (.int (iI b) :: .int (iI a) :: rest)) := lv_imul S.1 S.2.1 hdg (k_cg (iI_mul a b) k)
theorem k_ineg {a : Int} (S : CallFix p m c cc nL s args BG own) (hdg : decode cc pc = .ok (.ineg, 1)) (k : W p l e R s m args below meth c H locs cells slots Q (F0 m (pc + 1) ls (.int (iI (-a)) :: rest))) : W p l e R s m args below meth c H locs cells slots Q (F0 m pc ls (.int (iI a) :: rest)) := lv_ineg S.1 S.2.1 hdg (k_cg (iI_neg a) k)
theorem k_iinc {i k : Nat} {n a : Int} {lv lv' : List (Nat × Value)} (S : CallFix p m c cc nL s args BG own) (hdg : decode cc pc = .ok (.iinc i n, 3)) (h : lv_has ls nL lv) (hk : lv[k]? = some (i, .int (iI a))) (hn : i < nL) (hl : (i, Value.int (iI (a + n))) :: lv.filter (fun q => !(q.1 == i) && !(q.1 + 1 == i && q.2.category == 2)) = lv')
    (kk : ∀ ls' : Array Slot, lv_has ls' nL lv' → W p l e R s m args below meth c H locs cells slots Q (F0 m (pc + 3) ls' rest)) : W p l e R s m args below meth c H locs cells slots Q (F0 m pc ls rest) := lv_iinc S.1 S.2.1 hdg h hk (iI_add a n) hn hl kk
theorem k_icmp_eq {a b : Int} {off : Int} {tgt : Nat} (S : CallFix p m c cc nL s args BG own) (hdg : decode cc pc = .ok (.if_icmp .eq off, 3)) (ht : (pc : Int) + off = (tgt : Int)) (ha : -2147483648 ≤ a ∧ a < 2147483648) (hb : -2147483648 ≤ b ∧ b < 2147483648) (kt : a = b → W p l e R s m args below meth c H locs cells slots Q (F0 m tgt ls rest)) (kf : ¬ a = b → W p l e R s m args below meth c H locs cells slots Q (F0 m (pc + 3) ls rest)) : W p l e R s m args below meth c H locs cells slots Q (F0 m pc ls (.int (iI b) :: .int (iI a) :: rest)) := by
  exact lv_icmp_eq S.1 S.2.1 hdg ht (fun q => kt ((iI_eq ha hb).mp q)) (fun q => kf (fun z => q ((iI_eq ha hb).mpr z)))
theorem k_icmp_ne {a b : Int} {off : Int} {tgt : Nat} (S : CallFix p m c cc nL s args BG own) (hdg : decode cc pc = .ok (.if_icmp .ne off, 3)) (ht : (pc : Int) + off = (tgt : Int)) (ha : -2147483648 ≤ a ∧ a < 2147483648) (hb : -2147483648 ≤ b ∧ b < 2147483648) (kt : ¬ a = b → W p l e R s m args below meth c H locs cells slots Q (F0 m tgt ls rest)) (kf : a = b → W p l e R s m args below meth c H locs cells slots Q (F0 m (pc + 3) ls rest)) : W p l e R s m args below meth c H locs cells slots Q (F0 m pc ls (.int (iI b) :: .int (iI a) :: rest)) := by
  exact lv_icmp_ne S.1 S.2.1 hdg ht (fun q => kt (fun z => q ((iI_eq ha hb).mpr z))) (fun q => kf ((iI_eq ha hb).mp q))
theorem k_icmp_lt {a b : Int} {off : Int} {tgt : Nat} (S : CallFix p m c cc nL s args BG own) (hdg : decode cc pc = .ok (.if_icmp .lt off, 3)) (ht : (pc : Int) + off = (tgt : Int)) (ha : -2147483648 ≤ a ∧ a < 2147483648) (hb : -2147483648 ≤ b ∧ b < 2147483648) (kt : a < b → W p l e R s m args below meth c H locs cells slots Q (F0 m tgt ls rest)) (kf : b ≤ a → W p l e R s m args below meth c H locs cells slots Q (F0 m (pc + 3) ls rest)) : W p l e R s m args below meth c H locs cells slots Q (F0 m pc ls (.int (iI b) :: .int (iI a) :: rest)) := by
  exact lv_icmp_lt S.1 S.2.1 hdg ht (fun q => kt ((iI_lt ha hb).mp q)) (fun q => kf (Int.not_lt.mp (fun z => q ((iI_lt ha hb).mpr z))))
theorem k_icmp_ge {a b : Int} {off : Int} {tgt : Nat} (S : CallFix p m c cc nL s args BG own) (hdg : decode cc pc = .ok (.if_icmp .ge off, 3)) (ht : (pc : Int) + off = (tgt : Int)) (ha : -2147483648 ≤ a ∧ a < 2147483648) (hb : -2147483648 ≤ b ∧ b < 2147483648) (kt : b ≤ a → W p l e R s m args below meth c H locs cells slots Q (F0 m tgt ls rest)) (kf : a < b → W p l e R s m args below meth c H locs cells slots Q (F0 m (pc + 3) ls rest)) : W p l e R s m args below meth c H locs cells slots Q (F0 m pc ls (.int (iI b) :: .int (iI a) :: rest)) := by
  exact lv_icmp_ge S.1 S.2.1 hdg ht (fun q => kt ((iI_le hb ha).mp q)) (fun q => kf (Int.not_le.mp (fun z => q ((iI_le hb ha).mpr z))))
theorem k_icmp_gt {a b : Int} {off : Int} {tgt : Nat} (S : CallFix p m c cc nL s args BG own) (hdg : decode cc pc = .ok (.if_icmp .gt off, 3)) (ht : (pc : Int) + off = (tgt : Int)) (ha : -2147483648 ≤ a ∧ a < 2147483648) (hb : -2147483648 ≤ b ∧ b < 2147483648) (kt : b < a → W p l e R s m args below meth c H locs cells slots Q (F0 m tgt ls rest)) (kf : a ≤ b → W p l e R s m args below meth c H locs cells slots Q (F0 m (pc + 3) ls rest)) : W p l e R s m args below meth c H locs cells slots Q (F0 m pc ls (.int (iI b) :: .int (iI a) :: rest)) := by
  exact lv_icmp_gt S.1 S.2.1 hdg ht (fun q => kt ((iI_lt hb ha).mp q)) (fun q => kf (Int.not_lt.mp (fun z => q ((iI_lt hb ha).mpr z))))
theorem k_icmp_le {a b : Int} {off : Int} {tgt : Nat} (S : CallFix p m c cc nL s args BG own) (hdg : decode cc pc = .ok (.if_icmp .le off, 3)) (ht : (pc : Int) + off = (tgt : Int)) (ha : -2147483648 ≤ a ∧ a < 2147483648) (hb : -2147483648 ≤ b ∧ b < 2147483648) (kt : a ≤ b → W p l e R s m args below meth c H locs cells slots Q (F0 m tgt ls rest)) (kf : b < a → W p l e R s m args below meth c H locs cells slots Q (F0 m (pc + 3) ls rest)) : W p l e R s m args below meth c H locs cells slots Q (F0 m pc ls (.int (iI b) :: .int (iI a) :: rest)) := by
  exact lv_icmp_le S.1 S.2.1 hdg ht (fun q => kt ((iI_le ha hb).mp q)) (fun q => kf (Int.not_le.mp (fun z => q ((iI_le ha hb).mpr z))))
theorem k_if_eq {a : Int} {off : Int} {tgt : Nat} (S : CallFix p m c cc nL s args BG own) (hdg : decode cc pc = .ok (.ifCond .eq off, 3)) (ht : (pc : Int) + off = (tgt : Int)) (ha : -2147483648 ≤ a ∧ a < 2147483648) (kt : a = 0 → W p l e R s m args below meth c H locs cells slots Q (F0 m tgt ls rest)) (kf : ¬ a = 0 → W p l e R s m args below meth c H locs cells slots Q (F0 m (pc + 3) ls rest)) : W p l e R s m args below meth c H locs cells slots Q (F0 m pc ls (.int (iI a) :: rest)) := by
  have hb : -2147483648 ≤ (0 : Int) ∧ (0 : Int) < 2147483648 := by omega
  exact lv_if_eq S.1 S.2.1 hdg ht (fun q => kt ((iI_eq ha hb).mp q)) (fun q => kf (fun z => q ((iI_eq ha hb).mpr z)))
theorem k_if_ne {a : Int} {off : Int} {tgt : Nat} (S : CallFix p m c cc nL s args BG own) (hdg : decode cc pc = .ok (.ifCond .ne off, 3)) (ht : (pc : Int) + off = (tgt : Int)) (ha : -2147483648 ≤ a ∧ a < 2147483648) (kt : ¬ a = 0 → W p l e R s m args below meth c H locs cells slots Q (F0 m tgt ls rest)) (kf : a = 0 → W p l e R s m args below meth c H locs cells slots Q (F0 m (pc + 3) ls rest)) : W p l e R s m args below meth c H locs cells slots Q (F0 m pc ls (.int (iI a) :: rest)) := by
  have hb : -2147483648 ≤ (0 : Int) ∧ (0 : Int) < 2147483648 := by omega
  exact lv_if_ne S.1 S.2.1 hdg ht (fun q => kt (fun z => q ((iI_eq ha hb).mpr z))) (fun q => kf ((iI_eq ha hb).mp q))
theorem k_if_lt {a : Int} {off : Int} {tgt : Nat} (S : CallFix p m c cc nL s args BG own) (hdg : decode cc pc = .ok (.ifCond .lt off, 3)) (ht : (pc : Int) + off = (tgt : Int)) (ha : -2147483648 ≤ a ∧ a < 2147483648) (kt : a < 0 → W p l e R s m args below meth c H locs cells slots Q (F0 m tgt ls rest)) (kf : 0 ≤ a → W p l e R s m args below meth c H locs cells slots Q (F0 m (pc + 3) ls rest)) : W p l e R s m args below meth c H locs cells slots Q (F0 m pc ls (.int (iI a) :: rest)) := by
  have hb : -2147483648 ≤ (0 : Int) ∧ (0 : Int) < 2147483648 := by omega
  exact lv_if_lt S.1 S.2.1 hdg ht (fun q => kt ((iI_lt ha hb).mp q)) (fun q => kf (Int.not_lt.mp (fun z => q ((iI_lt ha hb).mpr z))))
theorem k_if_ge {a : Int} {off : Int} {tgt : Nat} (S : CallFix p m c cc nL s args BG own) (hdg : decode cc pc = .ok (.ifCond .ge off, 3)) (ht : (pc : Int) + off = (tgt : Int)) (ha : -2147483648 ≤ a ∧ a < 2147483648) (kt : 0 ≤ a → W p l e R s m args below meth c H locs cells slots Q (F0 m tgt ls rest)) (kf : a < 0 → W p l e R s m args below meth c H locs cells slots Q (F0 m (pc + 3) ls rest)) : W p l e R s m args below meth c H locs cells slots Q (F0 m pc ls (.int (iI a) :: rest)) := by
  have hb : -2147483648 ≤ (0 : Int) ∧ (0 : Int) < 2147483648 := by omega
  exact lv_if_ge S.1 S.2.1 hdg ht (fun q => kt ((iI_le hb ha).mp q)) (fun q => kf (Int.not_le.mp (fun z => q ((iI_le hb ha).mpr z))))
theorem k_if_gt {a : Int} {off : Int} {tgt : Nat} (S : CallFix p m c cc nL s args BG own) (hdg : decode cc pc = .ok (.ifCond .gt off, 3)) (ht : (pc : Int) + off = (tgt : Int)) (ha : -2147483648 ≤ a ∧ a < 2147483648) (kt : 0 < a → W p l e R s m args below meth c H locs cells slots Q (F0 m tgt ls rest)) (kf : a ≤ 0 → W p l e R s m args below meth c H locs cells slots Q (F0 m (pc + 3) ls rest)) : W p l e R s m args below meth c H locs cells slots Q (F0 m pc ls (.int (iI a) :: rest)) := by
  have hb : -2147483648 ≤ (0 : Int) ∧ (0 : Int) < 2147483648 := by omega
  exact lv_if_gt S.1 S.2.1 hdg ht (fun q => kt ((iI_lt hb ha).mp q)) (fun q => kf (Int.not_lt.mp (fun z => q ((iI_lt hb ha).mpr z))))
theorem k_if_le {a : Int} {off : Int} {tgt : Nat} (S : CallFix p m c cc nL s args BG own) (hdg : decode cc pc = .ok (.ifCond .le off, 3)) (ht : (pc : Int) + off = (tgt : Int)) (ha : -2147483648 ≤ a ∧ a < 2147483648) (kt : a ≤ 0 → W p l e R s m args below meth c H locs cells slots Q (F0 m tgt ls rest)) (kf : 0 < a → W p l e R s m args below meth c H locs cells slots Q (F0 m (pc + 3) ls rest)) : W p l e R s m args below meth c H locs cells slots Q (F0 m pc ls (.int (iI a) :: rest)) := by
  have hb : -2147483648 ≤ (0 : Int) ∧ (0 : Int) < 2147483648 := by omega
  exact lv_if_le S.1 S.2.1 hdg ht (fun q => kt ((iI_le ha hb).mp q)) (fun q => kf (Int.not_le.mp (fun z => q ((iI_le ha hb).mpr z))))
theorem k_bif_eq {P : Prop} {off : Int} {tgt : Nat} (S : CallFix p m c cc nL s args BG own) (hdg : decode cc pc = .ok (.ifCond .eq off, 3)) (ht : (pc : Int) + off = (tgt : Int)) (kt : ¬ P → W p l e R s m args below meth c H locs cells slots Q (F0 m tgt ls rest)) (kf : P → W p l e R s m args below meth c H locs cells slots Q (F0 m (pc + 3) ls rest)) : W p l e R s m args below meth c H locs cells slots Q (F0 m pc ls (.int (bI P) :: rest)) := by
  exact lv_if_eq S.1 S.2.1 hdg ht (fun q => kt (bI_z.mp q)) (fun q => kf (bI_nz.mp q))
theorem k_bif_ne {P : Prop} {off : Int} {tgt : Nat} (S : CallFix p m c cc nL s args BG own) (hdg : decode cc pc = .ok (.ifCond .ne off, 3)) (ht : (pc : Int) + off = (tgt : Int)) (kt : P → W p l e R s m args below meth c H locs cells slots Q (F0 m tgt ls rest)) (kf : ¬ P → W p l e R s m args below meth c H locs cells slots Q (F0 m (pc + 3) ls rest)) : W p l e R s m args below meth c H locs cells slots Q (F0 m pc ls (.int (bI P) :: rest)) := by
  exact lv_if_ne S.1 S.2.1 hdg ht (fun q => kt (bI_nz.mp q)) (fun q => kf (bI_z.mp q))
end BASE
/-- a loop: by a number that falls -/
theorem lp_wf {σ : Type} (Wp Inv : σ → Prop) (mu : σ → Nat) (h : ∀ a, Inv a → (∀ b, Inv b → mu b < mu a → Wp b) → Wp a) : ∀ a, Inv a → Wp a := by
  have key : ∀ n a, mu a < n → Inv a → Wp a := by
    intro n
    induction n with
    | zero => intro a ha; exact absurd ha (Nat.not_lt_zero _)
    | succ n ih => intro a ha hi; exact h a hi (fun b hb hlt => ih b (by omega) hb)
  exact fun a hi => key (mu a + 1) a (Nat.lt_succ_self _) hi
