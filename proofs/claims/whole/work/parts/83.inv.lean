/-! the law: what class and reference say together -/
def IV (κ : KK) (ed cap : Nat) (n : Nat) (S : Nat → Nat → Nat) (wt : Nat → Nat) (nw : Nat → Prop) (th ho be tn : Nat) (tb : Nat → Nat) (mn : Nat) (M : Nat → Nat → Nat) (pn : Nat) (P : Nat → Nat → Nat) (yc : Nat) (Y : Nat → Nat) (dr o : Prop) (q : Nat → Int) (fk fp : Int) (f g : Nat → Nat → Int32) (f9 : Nat → Int32) (g9 : Nat → Nat → Int32) : Prop := f 1 2 = iI (n : Nat) ∧ CapO cap n ∧ (cap = 0 → ed = κ.2.2.1) ∧ SayB n S ∧ LawC wt nw th ho be f g ∧ LawB wt th ho be ∧ TapC tn tb f g ∧ TapB tn tb ∧ f 3 0 = iI fk ∧ f 3 1 = iI fp ∧ MowC mn M f g ∧ MowB mn M ∧ ProC pn P f g ∧ ProB pn P ∧ YrC yc Y f g ∧ YrB yc Y ∧ YrT yc Y mn M ∧ yc ≤ mn ∧ DrC dr n S wt nw th be f g ∧ QuaC o q f ∧ (o → qOk q) ∧ SayM n S f9 g9 ∧ LawM wt nw th ho be f9 g9 ∧ TapM tn tb f9 g9 ∧ f9 24 = iI fk ∧ f9 26 = iI fp ∧ MowM mn M f9 g9 ∧ ProM pn P f9 g9 ∧ QuaM o q f9
def LWd (κ : KK) (Γ : GG) (A : Nat → Prop) (s : State) (xo mo : Nat) (H : Heap) (locs : List Loc) : Prop := ∃ (ad : Nat → Nat) (ed cap : Nat) (sa : Nat → Nat) (ad9 : Nat → Nat) (n : Nat) (S : Nat → Nat → Nat) (wt : Nat → Nat) (nw : Nat → Prop) (th ho be tn : Nat) (tb : Nat → Nat) (mn : Nat) (M : Nat → Nat → Nat) (pn : Nat) (P : Nat → Nat → Nat) (yc : Nat) (Y : Nat → Nat) (dr o : Prop) (q : Nat → Int) (fk fp : Int) (f g : Nat → Nat → Int32) (f9 : Nat → Int32) (g9 : Nat → Nat → Int32), (ad 0 = xo ∧ ad9 0 = mo) ∧ IV κ ed cap n S wt nw th ho be tn tb mn M pn P yc Y dr o q fk fp f g f9 g9 ∧ Wd (EF κ) Γ A s H locs (wC Γ ad ed f g (tS Γ ed cap sa S n) ++ wM Γ ad9 f9 g9)
section TR
variable {f f1 g g1 : Nat → Nat → Int32} {f9 f8 : Nat → Int32} {g9 g8 : Nat → Nat → Int32} {n : Nat} {S : Nat → Nat → Nat} {wt : Nat → Nat} {nw : Nat → Prop} {th ho be tn : Nat} {tb : Nat → Nat} {mn : Nat} {M : Nat → Nat → Nat} {pn : Nat} {P : Nat → Nat → Nat} {yc : Nat} {Y : Nat → Nat} {dr o : Prop} {q : Nat → Int}
theorem LawC_t (a0 : f1 9 2 = f 9 2) (a1 : f1 9 3 = f 9 3) (a2 : f1 9 4 = f 9 4) (b0 : g1 28 = g 28) (b1 : g1 29 = g 29) (h : LawC wt nw th ho be f g) : LawC wt nw th ho be f1 g1 := by
  unfold LawC at *
  rw [a0, a1, a2, b0, b1]
  exact h
theorem TapC_t (a0 : f1 2 1 = f 2 1) (b0 : g1 11 = g 11) (h : TapC tn tb f g) : TapC tn tb f1 g1 := by
  unfold TapC at *
  rw [a0, b0]
  exact h
theorem MowC_t (a0 : f1 5 0 = f 5 0) (b0 : g1 15 = g 15) (b1 : g1 16 = g 16) (b2 : g1 17 = g 17) (b3 : g1 18 = g 18) (b4 : g1 19 = g 19) (h : MowC mn M f g) : MowC mn M f1 g1 := by
  unfold MowC at *
  rw [a0, b0, b1, b2, b3, b4]
  exact h
theorem ProC_t (a0 : f1 6 2 = f 6 2) (b0 : g1 20 = g 20) (b1 : g1 21 = g 21) (h : ProC pn P f g) : ProC pn P f1 g1 := by
  unfold ProC at *
  rw [a0, b0, b1]
  exact h
theorem YrC_t (a0 : f1 5 2 = f 5 2) (b0 : g1 14 = g 14) (h : YrC yc Y f g) : YrC yc Y f1 g1 := by
  unfold YrC at *
  rw [a0, b0]
  exact h
theorem DrC_t (a0 : f1 0 10 = f 0 10) (a1 : f1 4 1 = f 4 1) (b0 : g1 12 = g 12) (h : DrC dr n S wt nw th be f g) : DrC dr n S wt nw th be f1 g1 := by
  unfold DrC at *
  rw [a0, a1, b0]
  exact h
theorem QuaC_t (a : ∀ j, f1 8 j = f 8 j) (h : QuaC o q f) : QuaC o q f1 := by
  unfold QuaC JdC at *
  rw [a, a, a, a, a]
  exact h
theorem SayM_t (a0 : f8 0 = f9 0) (b0 : g8 3 = g9 3) (b1 : g8 4 = g9 4) (b2 : g8 5 = g9 5) (b3 : g8 6 = g9 6) (b4 : g8 7 = g9 7) (b5 : g8 8 = g9 8) (b6 : g8 9 = g9 9) (h : SayM n S f9 g9) : SayM n S f8 g8 := by
  unfold SayM at *
  rw [a0, b0, b1, b2, b3, b4, b5, b6]
  exact h
theorem LawM_t (a0 : f8 10 = f9 10) (a1 : f8 11 = f9 11) (a2 : f8 12 = f9 12) (b0 : g8 13 = g9 13) (b1 : g8 14 = g9 14) (h : LawM wt nw th ho be f9 g9) : LawM wt nw th ho be f8 g8 := by
  unfold LawM at *
  rw [a0, a1, a2, b0, b1]
  exact h
theorem TapM_t (a0 : f8 17 = f9 17) (b0 : g8 15 = g9 15) (h : TapM tn tb f9 g9) : TapM tn tb f8 g8 := by
  unfold TapM at *
  rw [a0, b0]
  exact h
theorem MowM_t (a0 : f8 1 = f9 1) (b0 : g8 29 = g9 29) (b1 : g8 30 = g9 30) (b2 : g8 31 = g9 31) (b3 : g8 32 = g9 32) (b4 : g8 33 = g9 33) (h : MowM mn M f9 g9) : MowM mn M f8 g8 := by
  unfold MowM at *
  rw [a0, b0, b1, b2, b3, b4]
  exact h
theorem ProM_t (a0 : f8 2 = f9 2) (b0 : g8 34 = g9 34) (b1 : g8 35 = g9 35) (h : ProM pn P f9 g9) : ProM pn P f8 g8 := by
  unfold ProM at *
  rw [a0, b0, b1]
  exact h
theorem QuaM_t (a41 : f8 41 = f9 41) (a42 : f8 42 = f9 42) (a43 : f8 43 = f9 43) (a44 : f8 44 = f9 44) (a45 : f8 45 = f9 45) (a46 : f8 46 = f9 46) (a47 : f8 47 = f9 47) (a48 : f8 48 = f9 48) (a49 : f8 49 = f9 49) (h : QuaM o q f9) : QuaM o q f8 := by
  unfold QuaM at *
  rw [a41, a42, a43, a44, a45, a46, a47, a48, a49]
  exact h
end TR
theorem rmL {rm : Room} {maxL cells slots : Nat} (h1 : rm.frames + 1 ≤ 13) (h2 : 8 + (maxL + 11) + rm.locals ≤ 480) (h3 : cells + rm.cells ≤ 600000) (h4 : slots + rm.slots ≤ 7302250) : rmOk room_1 rm maxL cells slots := ⟨⟨h1, h2⟩, h3, h4⟩
section SLD
variable {p : Program} {l : Launch} {e : Env} {R : Room} {s : State} {m : MethodId} {args : Array Value} {below : List Frame} {meth : Method} {c : Code} {H : Heap} {locs : List Loc} {cells slots : Nat} {Q : State → Prop}
variable {cc : ByteArray} {nL pc : Nat} {own : String} {ls : Array Slot} {rest : List Value} {E : XX} {Γ : GG} {A : Nat → Prop} {w : va_W}
theorem r_sld {b L j : Nat} {xs : Nat → Int32} {z : Int} {x : Int32} (S : CallFix p m c cc nL s args BG own) (hX : va_X b L xs s s.heap) (hbl : b < s.heap.size) (hbA : ¬ A b) (X : Wd E Γ A s H locs w) (hz : z = (j : Int)) (hj : j < L) (hL : L ≤ 4608) (hv : xs j = x) (hdg : decode cc pc = .ok (.iaload, 1)) (kk : W p l e R s m args below meth c H locs cells slots Q (F0 m (pc + 1) ls (.int x :: rest))) : W p l e R s m args below meth c H locs cells slots Q (F0 m pc ls (.int (iI z) :: .ref b :: rest)) := by
  refine va_sld S.1 S.2.1 hX hbl hbA X.2.2.2.1 (iI_in (by omega) (by omega)) hdg ?_
  rw [iI_cl (by omega), hz, Int.toNat_natCast, hv]
  exact kk
end SLD
