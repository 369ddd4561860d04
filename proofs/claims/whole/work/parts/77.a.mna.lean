theorem va_AOA.use {ty : FieldType} {args : Array Value} {s : State} (h : va_AOA ty s) : (Cond.arrayOver (.array ty)).before args s = true := h
/-! new T[n][m] by the model's own recursion over the counts: rows of our own, over the short library alone -/
/-- the outer row, at h, when i of its rows are laid behind it -/
def mnO (c : ClassId) (N h i : Nat) : Cell := arrV c N (fun j => va_rf (if j < i then some (h + 1 + j) else none))
/-- a row of defaults -/
def mnI (c : ClassId) (K : Nat) (v : Value) : Cell := { cls := c, slots := Array.replicate K v, vm := .none }
/-- the machine when i rows are laid -/
def mnF (S : State) (cA cI : ClassId) (N K : Nat) (v : Value) : Nat → State
  | 0 => S.pushCell (mnO cA N S.heap.size 0)
  | i + 1 => ((mnF S cA cI N K v i).pushCell (mnI cI K v)).setCell S.heap.size (mnO cA N S.heap.size (i + 1))
theorem mnO_sz (c : ClassId) (N h i : Nat) : (mnO c N h i).slots.size = N := arrV_size _ _ _
theorem mnI_sz (c : ClassId) (K : Nat) (v : Value) : (mnI c K v).slots.size = K := Array.size_replicate
theorem mnO_0 (c : ClassId) (N h : Nat) : ({ cls := c, slots := Array.replicate N .null, vm := .none } : Cell) = mnO c N h 0 := by
  rw [arrV_new]
  refine congrArg (arrV c N) (funext fun j => ?_)
  rw [if_neg (Nat.not_lt_zero j)]
  rfl
theorem mnO_s (c : ClassId) (N h i : Nat) : (mnO c N h i).setSlot i (.ref (h + 1 + i)) = mnO c N h (i + 1) := by
  unfold mnO
  rw [arrV_store]
  refine congrArg (arrV c N) (funext fun j => ?_)
  unfold updV
  by_cases e : j = i
  · rw [if_pos e, if_pos (by omega), e]
    rfl
  · rw [if_neg e]
    show va_rf (if j < i then some (h + 1 + j) else none) = _
    by_cases h9 : j < i
    · rw [if_pos h9, if_pos (by omega)]
    · rw [if_neg h9, if_neg (by omega)]
section MNF
variable {S : State} {cA cI : ClassId} {N K : Nat} {v : Value}
theorem mnF_sz (i : Nat) : (mnF S cA cI N K v i).heap.size = S.heap.size + 1 + i := by
  induction i with
  | zero => exact State.heap_size_pushCell _ _
  | succ i ih =>
    show (State.setCell _ _ _).heap.size = _
    rw [size_setCell, State.heap_size_pushCell, ih]
    omega
theorem mnF_lt (i : Nat) {x : Nat} (hx : x < S.heap.size + 1 + i) : x < (mnF S cA cI N K v i).heap.size := by
  rw [mnF_sz]
  exact hx
theorem mnF_out (i : Nat) : (mnF S cA cI N K v i).heap[S.heap.size]? = some (mnO cA N S.heap.size i) := by
  cases i with
  | zero => exact State.heap_pushCell_size _ _
  | succ i => exact heapAt_setCell_self _ (by rw [State.heap_size_pushCell]; exact Nat.lt_succ_of_lt (mnF_lt i (by omega)))
theorem mnF_old (i : Nat) {x : Nat} (hx : x < S.heap.size) : (mnF S cA cI N K v i).heap[x]? = S.heap[x]? := by
  induction i with
  | zero => exact State.heap_pushCell_of_lt _ _ hx
  | succ i ih =>
    show (State.setCell _ _ _).heap[x]? = _
    rw [heapAt_setCell_ne _ (Nat.ne_of_gt hx), State.heap_pushCell_of_lt _ _ (mnF_lt i (by omega))]
    exact ih
theorem mnF_in (i : Nat) {j : Nat} (hj : j < i) : (mnF S cA cI N K v i).heap[S.heap.size + 1 + j]? = some (mnI cI K v) := by
  induction i with
  | zero => exact absurd hj (Nat.not_lt_zero j)
  | succ i ih =>
    show (State.setCell _ _ _).heap[_]? = _
    rw [heapAt_setCell_ne _ (Nat.ne_of_lt (by omega))]
    by_cases e : j = i
    · rw [e, ← mnF_sz (S := S) (cA := cA) (cI := cI) (N := N) (K := K) (v := v) i]
      exact State.heap_pushCell_size _ _
    · rw [State.heap_pushCell_of_lt _ _ (mnF_lt i (by omega))]
      exact ih (by omega)
theorem mnF_vm (i : Nat) : (mnF S cA cI N K v i).vm = S.vm := by
  induction i with
  | zero => rfl
  | succ i ih => exact ih
theorem mnF_us (i : Nat) : (mnF S cA cI N K v i).slotsUsed = S.slotsUsed + N + i * K := by
  induction i with
  | zero =>
    show S.slotsUsed + (mnO cA N S.heap.size 0).slots.size = _
    rw [mnO_sz]
    omega
  | succ i ih =>
    show (mnF S cA cI N K v i).slotsUsed + (mnI cI K v).slots.size = _
    rw [ih, mnI_sz, Nat.succ_mul]
    omega
theorem mnF_top (i : Nat) (h : S.topJava?.isSome) : (mnF S cA cI N K v i).topJava?.isSome := by
  induction i with
  | zero => exact h
  | succ i ih => exact ih
theorem mnF_st {p : Program} {l : Launch} {e : Env} {R : Room} {s : State} {m : MethodId} {args : Array Value} {below : List Frame} {meth : Method} {c : Code} {locs : List Loc} {cells slots : Nat} (X : Stand p l e R s m args below meth c S locs cells slots) (hsz : s.heap.size ≤ S.heap.size) (i : Nat) : Stand p l e R s m args below meth c (mnF S cA cI N K v i) locs (cells + 1 + i) (slots + N + i * K) := by
  induction i with
  | zero =>
    have h := X.pushed (mnO cA N S.heap.size 0)
    rw [mnO_sz] at h
    rw [Nat.zero_mul]
    exact h
  | succ i ih =>
    have h := ih.pushed (mnI cI K v)
    have hc : ((mnF S cA cI N K v i).pushCell (mnI cI K v)).heap[S.heap.size]? = some (mnO cA N S.heap.size i) := (State.heap_pushCell_of_lt _ _ (mnF_lt i (by omega))).trans (mnF_out i)
    have h2 := h.stored hc i (.ref (S.heap.size + 1 + i))
    rw [mnO_s, mnI_sz] at h2
    have h3 := Stand.forget h2 (fun y hy => by rw [List.mem_singleton.mp hy]; exact hsz)
    have e1 : slots + N + (i + 1) * K = slots + N + i * K + K := by rw [Nat.succ_mul]; omega
    rw [e1]
    exact h3
end MNF
section MNW
variable {E : CtlPost} {e : Env} {d : Bool} {acts : List Action} {s : State}
/-- a new array of defaults -/
theorem mn_arr {c comp : ClassId} {ty : FieldType} {k : Class} {N : Nat} {v : Value} {Q : Addr → Pre} (hk : s.vm.classes[c]? = some k) (hkind : k.kind = .array comp ty) (hlim : ¬ N > e.platform.arrayLengthLimit) (hheap : ¬ N * componentBytes ty > e.platform.maxHeapBytes) (hf : fits ty v = true) (hd : v.isDefault = true) (h1 : s.heap.size < e.platform.maxCells) (h2 : s.slotsUsed + N ≤ e.platform.maxSlots)
    (hq : Q s.heap.size d acts (s.pushCell { cls := c, slots := Array.replicate N v, vm := .none })) : wp (Jvm.newArray c N v) Q E e d acts s := by
  have hfit : ∀ i x, (Array.replicate N v)[i]? = some x → s.fitsSlot c .none i x = true := by
    intro i x hx
    simp only [Array.getElem?_replicate] at hx
    split at hx
    · cases hx
      simp [State.fitsSlot, State.slotType?, hk, hkind, hf]
    · cases hx
  have hdef : allocActs (Array.replicate N v) s.heap.size acts = acts := by
    have hall : ((Array.replicate N v).all (·.isDefault)) = true := by
      rw [Array.all_replicate]
      split <;> simp [hd]
    unfold allocActs
    rw [if_pos hall]
  simp only [Jvm.newArray, Jvm.arrayFits, wp_bind', Jvm.W.ask, hlim, Jvm.W.ite, if_false, wp_pure', Jvm.W.theClass, hk, Option.some.injEq, exists_eq_left', hkind, hheap, Jvm.W.alloc, Jvm.W.stop, Array.size_replicate, hdef]
  rw [if_neg (by omega)]
  exact ⟨h1, h2, hfit, hq⟩
/-- the inner array: one count left -/
theorem mn_one {c comp : ClassId} {ty : FieldType} {k : Class} {n : Int32} {Q : Addr → Pre} (hk : s.vm.classes[c]? = some k) (hkind : k.kind = .array comp ty) (hn : ¬ n < 0) (hlim : ¬ n.toNatClampNeg > e.platform.arrayLengthLimit) (hheap : ¬ n.toNatClampNeg * componentBytes ty > e.platform.maxHeapBytes) (hf : fits ty (defaultValue ty) = true) (hd : (defaultValue ty).isDefault = true) (h1 : s.heap.size < e.platform.maxCells) (h2 : s.slotsUsed + n.toNatClampNeg ≤ e.platform.maxSlots)
    (hq : Q s.heap.size d acts (s.pushCell (mnI c n.toNatClampNeg (defaultValue ty)))) : wp (multianewarray.make c [n]) Q E e d acts s := by
  rw [multianewarray.make]
  simp only [wp_bind', Jvm.W.ite, hn, if_false, wp_pure', Jvm.W.theClass, hk, Option.some.injEq, exists_eq_left', hkind]
  exact mn_arr hk hkind hlim hheap hf hd h1 h2 hq
/-- the outer array and its rows -/
theorem mn_two {S : State} {f : JFrame} {cA cI comp : ClassId} {tA ty : FieldType} {kA kI : Class} {n k : Int32} {Q : Addr → Pre} (hkA : S.vm.classes[cA]? = some kA) (hkindA : kA.kind = .array cI tA) (hrA : ∀ a : Addr, fits tA (.ref a) = true) (hnA : fits tA .null = true) (hkI : S.vm.classes[cI]? = some kI) (hkindI : kI.kind = .array comp ty) (hn : ¬ n < 0) (hk : ¬ k < 0)
    (hlA : ¬ n.toNatClampNeg > e.platform.arrayLengthLimit) (hhA : ¬ n.toNatClampNeg * componentBytes tA > e.platform.maxHeapBytes) (hlI : ¬ k.toNatClampNeg > e.platform.arrayLengthLimit) (hhI : ¬ k.toNatClampNeg * componentBytes ty > e.platform.maxHeapBytes) (hf : fits ty (defaultValue ty) = true) (hd : (defaultValue ty).isDefault = true)
    (h1 : S.heap.size + (1 + n.toNatClampNeg) ≤ e.platform.maxCells) (h2 : S.slotsUsed + (n.toNatClampNeg + n.toNatClampNeg * k.toNatClampNeg) ≤ e.platform.maxSlots)
    (hq : ∀ (d' : Bool) (acts' : List Action), Q S.heap.size d' acts' ((mnF S cA cI n.toNatClampNeg k.toNatClampNeg (defaultValue ty) n.toNatClampNeg).setTop f)) : wp (multianewarray.make cA [n, k]) Q E e d acts (S.setTop f) := by
  have hfind : List.find? (fun x : Int32 => decide (x < 0)) [k] = none := by simp [hk]
  rw [multianewarray.make]
  simp only [wp_bind', Jvm.W.ite, hn, if_false, wp_pure', Jvm.W.theClass, State.vm_setTop, hkA, Option.some.injEq, exists_eq_left', hkindA, hfind, ite_self]
  refine mn_arr (s := S.setTop f) hkA hkindA hlA hhA hnA rfl (by show S.heap.size < _; omega) (by show S.slotsUsed + _ ≤ _; omega) ?_
  rw [State.pushCell_setTop, mnO_0 cA n.toNatClampNeg S.heap.size]
  rw [Std.Legacy.Range.forIn_eq_forIn_range', wp_bind']
  refine wp_forIn_inv (fun rest s' => ∃ i, i ≤ n.toNatClampNeg ∧ rest = List.range' i (n.toNatClampNeg - i) ∧ s' = (mnF S cA cI n.toNatClampNeg k.toNatClampNeg (defaultValue ty) i).setTop f) _ _ ?_ ?_ ?_
  · exact ⟨0, Nat.zero_le _, by simp [Std.Legacy.Range.size], rfl⟩
  · intro x rest s' d' acts' Q' ⟨i, hi, hr, hs'⟩ hQ
    subst hs'
    obtain ⟨j, hj⟩ : ∃ j, n.toNatClampNeg - i = j + 1 := by
      cases hz : n.toNatClampNeg - i with
      | zero => rw [hz] at hr; cases hr
      | succ j => exact ⟨j, rfl⟩
    rw [hj, List.range'_succ] at hr
    injection hr with e1 e2
    subst e1
    have hm : (x + 1) * k.toNatClampNeg ≤ n.toNatClampNeg * k.toNatClampNeg := Nat.mul_le_mul_right _ (by omega)
    rw [Nat.succ_mul] at hm
    have hsz := mnF_sz (S := S) (cA := cA) (cI := cI) (N := n.toNatClampNeg) (K := k.toNatClampNeg) (v := defaultValue ty) x
    have hus := mnF_us (S := S) (cA := cA) (cI := cI) (N := n.toNatClampNeg) (K := k.toNatClampNeg) (v := defaultValue ty) x
    have hvm := mnF_vm (S := S) (cA := cA) (cI := cI) (N := n.toNatClampNeg) (K := k.toNatClampNeg) (v := defaultValue ty) x
    have hot := mnF_out (S := S) (cA := cA) (cI := cI) (N := n.toNatClampNeg) (K := k.toNatClampNeg) (v := defaultValue ty) x
    simp only [wp_bind']
    refine mn_one (s := (mnF S cA cI n.toNatClampNeg k.toNatClampNeg (defaultValue ty) x).setTop f) (by show (mnF _ _ _ _ _ _ x).vm.classes[cI]? = _; rw [hvm]; exact hkI) hkindI hk hlI hhI hf hd (by show (mnF _ _ _ _ _ _ x).heap.size < _; rw [hsz]; omega) (by show (mnF _ _ _ _ _ _ x).slotsUsed + _ ≤ _; rw [hus]; omega) ?_
    simp only [Jvm.W.writeLoc, wp_bind', wp_pure']
    refine ⟨mnO cA n.toNatClampNeg S.heap.size x, (State.heap_pushCell_of_lt _ _ (mnF_lt x (show S.heap.size < S.heap.size + 1 + x by omega))).trans hot, (by intro h; cases h), (by rw [mnO_sz]; omega), ?_, ?_⟩
    · show (mnF _ _ _ _ _ _ x).fitsSlot cA .none x _ = true
      simp [State.fitsSlot, State.slotType?, hvm, hkA, hkindA, hrA]
    · have hQ2 := hQ ((mnF S cA cI n.toNatClampNeg k.toNatClampNeg (defaultValue ty) (x + 1)).setTop f) true (writeActs ⟨S.heap.size, x⟩ .plain (.ref (S.heap.size + 1 + x)) acts') ⟨x + 1, by omega, by rw [e2, show n.toNatClampNeg - (x + 1) = j by omega], rfl⟩
      have e3 : ((mnF S cA cI n.toNatClampNeg k.toNatClampNeg (defaultValue ty) x).setTop f).heap.size = S.heap.size + 1 + x := hsz
      rw [e3, mnO_s]
      exact hQ2
  · intro s' d' acts' ⟨i, hi, hr, hs'⟩
    have e0 : i = n.toNatClampNeg := by
      cases hz : n.toNatClampNeg - i with
      | zero => omega
      | succ j => rw [hz, List.range'_succ] at hr; cases hr
    subst e0
    subst hs'
    exact hq d' acts'
/-- the instruction, its entry resolved -/
theorem mn_sem {S : State} {f : JFrame} {index : Nat} {cA cI comp : ClassId} {tA ty : FieldType} {kA kI : Class} {n k : Int32} {rest : List Value} {Q : Unit → Pre} (hs : S.topJava?.isSome) (hr : S.vm.classReady f.method.cls index cA) (hstack : f.stack = .int k :: .int n :: rest) (hkA : S.vm.classes[cA]? = some kA) (hkindA : kA.kind = .array cI tA) (hrA : ∀ a : Addr, fits tA (.ref a) = true) (hnA : fits tA .null = true) (hkI : S.vm.classes[cI]? = some kI) (hkindI : kI.kind = .array comp ty) (hn : ¬ n < 0) (hk : ¬ k < 0)
    (hlA : ¬ n.toNatClampNeg > e.platform.arrayLengthLimit) (hhA : ¬ n.toNatClampNeg * componentBytes tA > e.platform.maxHeapBytes) (hlI : ¬ k.toNatClampNeg > e.platform.arrayLengthLimit) (hhI : ¬ k.toNatClampNeg * componentBytes ty > e.platform.maxHeapBytes) (hf : fits ty (defaultValue ty) = true) (hd : (defaultValue ty).isDefault = true)
    (h1 : S.heap.size + (1 + n.toNatClampNeg) ≤ e.platform.maxCells) (h2 : S.slotsUsed + (n.toNatClampNeg + n.toNatClampNeg * k.toNatClampNeg) ≤ e.platform.maxSlots)
    (hq : ∀ acts' : List Action, Q () true acts' ((mnF S cA cI n.toNatClampNeg k.toNatClampNeg (defaultValue ty) n.toNatClampNeg).setTop { f with stack := .ref S.heap.size :: rest })) : wp (multianewarray.sem index 2) Q E e d acts (S.setTop f) := by
  simp only [multianewarray.sem, wp_bind', Jvm.W.resolveClassAt_ready (State.method?_setTop f hs) hr]
  refine (popN_top (args := [.int n, .int k]) hs hstack).mpr ?_
  simp only [List.mapM_cons, List.mapM_nil, wp_bind', wp_pure']
  refine mn_two hkA hkindA hrA hnA hkI hkindI hn hk hlA hhA hlI hhI hf hd h1 h2 (fun d' acts' => ?_)
  simp only [wp_bind', Jvm.W.mark, Jvm.W.pushRef, State.topJava?_setTop' _ (mnF_top _ hs), Option.some.injEq, exists_eq_left', State.setTop_setTop]
  exact hq acts'
/-- the entry's first resolution -/
theorem mn_cold {Q : Unit → Pre} {f : JFrame} {index dims c : Nat} {vm' : Vm} (hs : s.topJava?.isSome) (hg : (Jvm.resolveClass f.method.cls index).Gives e.toSetting s.vm (.ok c) vm') (hr : vm'.classReady f.method.cls index c) (hsz : vm'.classes.size ≤ s.vm.classes.size) : wp (multianewarray.sem index dims) Q E e d acts (s.setTop f) ↔ wp (multianewarray.sem index dims) Q E e d acts ((s.setVm vm').setTop f) := by
  simp only [multianewarray.sem, wp_bind']
  exact Jvm.W.resolveClassAt_transfer (s := s.setTop f) (State.method?_setTop f hs) hg hr hsz
end MNW
section MNX
variable {p : Program} {l : Launch} {e : Env} {R : Room} {s : State} {m : MethodId} {args : Array Value} {below : List Frame} {meth : Method} {c : Code} {H : Heap} {locs : List Loc} {cells slots : Nat} {Q : State → Prop}
/-- new T[n][m] over the machine -/
theorem mn_W {cc : ByteArray} (hexec : p.tables.exec = Jvm.exec) (hb : c.code = cc) {own : String} {index pc : Nat} {ty : FieldType} {ls : Array Slot} {rest : List Value} (hown : s.vm.findClass own = some m.cls) (hclink : (Cond.classLink own index ("[" ++ (FieldType.array ty).toString)).before args s = true) (hover : (Cond.arrayOver (.array ty)).before args s = true) (harr : (Cond.arrayClass ty).before args s = true) {n k : Int32} {N K : Nat} (hn : ¬ n < 0) (hk : ¬ k < 0) (hN : n.toNatClampNeg = N) (hK : k.toNatClampNeg = K)
    (hb1 : N * 4 ≤ 536870912) (hb2 : K * componentBytes ty ≤ 536870912) (hb3 : K ≤ 536870912) (hf : fits ty (defaultValue ty) = true) (hd : (defaultValue ty).isDefault = true) (hcells : cells + (1 + N) ≤ R.cells) (hslots : slots + (N + N * K) ≤ R.slots) (hH : s.heap.size ≤ H.size) (hdg : decode cc pc = .ok (.multianewarray index 2, 4))
    (kk : ∀ (cA cI : ClassId) (H1 : Heap), s.vm.findClass ("[" ++ (FieldType.array ty).toString) = some cA → s.vm.findClass (FieldType.array ty).toString = some cI → H1.size = H.size + 1 + N → (∀ x, x < H.size → H1[x]? = H[x]?) → H1[H.size]? = some (mnO cA N H.size N) → (∀ j, j < N → H1[H.size + 1 + j]? = some (mnI cI K (defaultValue ty))) →
      W p l e R s m args below meth c H1 locs (cells + 1 + N) (slots + N + N * K) Q (F0 m (pc + 4) ls (.ref H.size :: rest))) : W p l e R s m args below meth c H locs cells slots Q (F0 m pc ls (.int k :: .int n :: rest)) := by
  intro T hT X
  subst hT; subst hb; subst hN; subst hK
  have hpl : e.platform.magicAccessors = ({} : Platform).magicAccessors := by rw [X.admits.platform]
  obtain ⟨cI, cA, kA, hcI, -, hkA, hkindA, hnameA⟩ := arrayOverA_spec hover
  obtain ⟨cI', kI, comp, hcI', hkI, hkindI⟩ := Cond.arrayClass_spec harr
  have ecI : cI' = cI := Option.some.inj (Eq.trans (Eq.symm hcI') hcI)
  subst ecI
  obtain ⟨cA', hfcA, hcl⟩ := Cond.classLink_spec hown hclink e.platform hpl
  have ecA : cA' = cA := Option.some.inj (Eq.trans (Eq.symm hfcA) hnameA)
  subst ecA
  obtain ⟨hg₁, hwarm₁, hready₁⟩ := State.classEntry (e := e) X.warmed hcl
  have hsz₁ : (T.vm.noted m.cls index (.cls cA')).classes.size ≤ T.vm.classes.size := by no_record
  generalize T.vm.noted m.cls index (.cls cA') = vm₁ at hg₁ hwarm₁ hready₁ hsz₁
  have hal : s.vm.Alike vm₁ := hwarm₁.alike
  obtain ⟨kI₁, hkI₁, heI⟩ := hal.2.2 _ _ hkI
  obtain ⟨kA₁, hkA₁, heA⟩ := hal.2.2 _ _ hkA
  have hkindA₁ : kA₁.kind = .array cI' (.array ty) := by rw [heA]; exact hkindA
  have hkindI₁ : kI₁.kind = .array comp ty := by rw [heI]; exact hkindI
  have hlA : ¬ n.toNatClampNeg > e.platform.arrayLengthLimit := by rw [Launch.admits_arrayLengthLimit X.admits]; omega
  have hlI : ¬ k.toNatClampNeg > e.platform.arrayLengthLimit := by rw [Launch.admits_arrayLengthLimit X.admits]; omega
  have hhA : ¬ n.toNatClampNeg * componentBytes (.array ty) > e.platform.maxHeapBytes := by
    rw [Launch.admits_maxHeapBytes X.admits]; show ¬ n.toNatClampNeg * 4 > 536870912; omega
  have hhI : ¬ k.toNatClampNeg * componentBytes ty > e.platform.maxHeapBytes := by
    rw [Launch.admits_maxHeapBytes X.admits]; omega
  obtain ⟨hr1, hr2⟩ := X.roomAbove hcells hslots
  have X₂ := mnF_st (cA := cA') (cI := cI') (N := n.toNatClampNeg) (K := k.toNatClampNeg) (v := defaultValue ty) (X.noted hwarm₁) hH n.toNatClampNeg
  obtain ⟨t, a1, b1⟩ := kk cA' cI' (mnF (T.setVm vm₁) cA' cI' n.toNatClampNeg k.toNatClampNeg (defaultValue ty) n.toNatClampNeg).heap hnameA hcI (mnF_sz _) (fun x hx => mnF_old _ hx) (mnF_out _) (fun j hj => mnF_in _ hj) _ rfl X₂
  refine ⟨t, ?_, b1⟩
  refine Steps.instr (c := _) (by simpa using X.here) ?_
  rw [hdg]
  show wpRun (p.tables.exec (.multianewarray index 2)) _ _ e _
  rw [hexec]
  show wp (multianewarray.sem index 2) _ _ e false [] _
  rw [mn_cold X.here.top hg₁ hready₁ hsz₁]
  refine mn_sem (S := T.setVm vm₁) (f := F0 m pc ls (.int k :: .int n :: rest)) (rest := rest) X.here.top hready₁ rfl hkA₁ hkindA₁ (fun _ => rfl) rfl hkI₁ hkindI₁ hn hk hlA hhA hlI hhI hf hd hr1 hr2 (fun acts' acts'' => ?_)
  rw [afterInstr_ok]
  exact a1
end MNX

