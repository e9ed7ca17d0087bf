/-! THE JUDGEMENT: G .. pc vs st hp n: method y, at pc, with these locals, this stack and this abstract heap of n cells, comes to its end, and its answer and heap satisfy Q -/
def isNest (w : Cond) : Bool := match w with
  | .fieldLinkNest .. => true
  | .methodLinkNest .. => true
  | _ => false
def gt : List Cond := lw_tbl.filter goodWord
def nwl : List Cond := lw_tbl.filter isNest
def NW (s : State) : Prop := (∀ w ∈ nwl, va_Nw w s) ∧ va_AO "FiveDice$Row" s ∧ va_AOA .long s
theorem va_AOA.moved {ty : FieldType} {u U : State} (hvm : u.vm.Alike U.vm) (h : va_AOA ty u) : va_AOA ty U := by
  have h1 : (Cond.arrayOver (.array ty)).before #[] (u.setVm U.vm) = true := by
    rw [Cond.arrayOver_setVmC hvm]
    exact h
  exact h1
theorem nw_warm {w : Cond} (hn : isNest w = true) {s U : State} (hW : s.WarmedH U.vm) (h : va_Nw w s) : va_Nw w U := by
  cases w <;> first | (exact va_Nw.warmF hW h) | (exact va_Nw.warmM hW h) | (simp [isNest] at hn)
theorem NW.warm {s U : State} (hW : s.WarmedH U.vm) (h : NW s) : NW U := ⟨fun w hw => nw_warm (List.mem_filter.mp hw).2 hW (h.1 w hw), h.2.1.moved hW.alike, h.2.2.moved hW.alike⟩
theorem NW.same {s U : State} (hv : s.vm = U.vm) (h : NW s) : NW U := ⟨fun w hw => va_Nw.same (by
    have hn := (List.mem_filter.mp hw).2
    cases w <;> first | rfl | (simp [isNest] at hn)) hv (h.1 w hw), h.2.1.moved (by rw [hv]; exact Vm.Alike.refl _), h.2.2.moved (by rw [hv]; exact Vm.Alike.refl _)⟩
abbrev xF : Nat := 1000000
abbrev xS : Nat := 1000001
def facV (j : Nat) : Value := .int ([1, 1, 2, 6, 24, 120].getD j 0)
def tyL (dA : Nat → ClassId) : List (ClassId × FieldType) := [(dA 0, .int), (dA 1, .long), (dA 2, .boolean), (dA 3, .object "FiveDice$Row"), (dA 4, .array .long)]
def SF (tF : Nat) (A : Nat → Prop) (U : State) (H : Heap) : Prop := va_Z "FiveDice$Tally" "FACTORIAL" "[I" (.ref tF) A U H ∧ va_T .int tF 6 facV A U H
abbrev SC : Type := Option (Nat × (Nat → Int32))
def Cx (y : MethodName) (cc : ByteArray) (nL : Nat) (ret : Option FieldType) (sc : SC) (p : Program) (s : State) (m : MethodId) (args : Array Value) (meth : Method) (c : Code) (D : va_G) (dA : Nat → ClassId) (A : Nat → Prop) (tF b : Nat) : Prop :=
  p.tables.exec = Jvm.exec ∧ c.code = cc ∧ meth.sig.returnType = ret ∧ c.maxLocals = nL ∧ s.vm.findClass y.cls = some m.cls ∧ (∀ w ∈ gt, w.before args s = true) ∧ meth.locks = false ∧ meth.name = y.name ∧ va_K D vwCl (tyL dA) s ∧ NW s ∧ SF tF A s s.heap ∧ (∀ q, s.heap.size ≤ q → A q) ∧ ∀ L xs, sc = some (L, xs) → va_T .int b L (fun j => .int (xs j)) A s s.heap
def Dy (D : va_G) (dA : Nat → ClassId) (A : Nat → Prop) (tF b : Nat) (s : State) (ad : Nat → Nat) (H : Heap) (locs : List Loc) (hp : AH) (n : Nat) : Prop :=
  va_P D vwCl (wl dA ad hp n) H ∧ va_D A (wl dA ad hp n) ∧ va_S A s.heap H locs ∧ ad xF = tF ∧ ad xS = b ∧ n ≤ 1000000
def RetOK (cc : ByteArray) (pc : Nat) (ret : Option FieldType) (v : Option Value) : Prop := match ret, v with
  | none, none => decode cc pc = .ok (.return_, 1)
  | some .int, some (.int _) => decode cc pc = .ok (.ireturn, 1)
  | some .boolean, some (.int x) => decode cc pc = .ok (.ireturn, 1) ∧ narrow .boolean (.int x) = .int x
  | some .long, some (.long _) => decode cc pc = .ok (.lreturn, 1)
  | some (.object _), some (.ref _) => decode cc pc = .ok (.areturn, 1)
  | some (.array _), some (.ref _) => decode cc pc = .ok (.areturn, 1)
  | _, _ => False
def G (y : MethodName) (cc : ByteArray) (nL : Nat) (ret : Option FieldType) (R : Room) (sc : SC) (Q : Option Value → AH → Nat → Prop) (cu su pc : Nat) (vs st : List Value) (hp : AH) (n : Nat) : Prop :=
  ∀ (p : Program) (l : Launch) (e : Env) (s : State) (m : MethodId) (args : Array Value) (below : List Frame) (meth : Method) (c : Code) (D : va_G) (dA : Nat → ClassId) (A : Nat → Prop) (tF b : Nat) (Z : State → Prop) (ad : Nat → Nat) (H : Heap) (locs : List Loc) (ls : Array Slot),
    Cx y cc nL ret sc p s m args meth c D dA A tF b → Dy D dA A tF b s ad H locs hp n → LV ad ls nL vs →
    (∀ (v : Option Value) (hp' : AH) (n' : Nat) (ad' : Nat → Nat) (H' : Heap) (locs' : List Loc) (ls' : Array Slot) (pc' : Nat), Q v hp' n' → RetOK cc pc' ret v → n ≤ n' → agr n n' ad ad' → Dy D dA A tF b s ad' H' locs' hp' n' →
      W p l e R s m args below meth c H' locs' R.cells R.slots Z (F0 m pc' ls' (v.toList.map (trV ad')))) →
    W p l e R s m args below meth c H locs cu su Z (F0 m pc ls (st.map (trV ad)))
/-- the classes of the worlds, by their numbers -/
def CLS (ci : Nat) (q : vw_C) : Prop := vwCl[ci]? = some q ∧ (∀ w ∈ u_ws q.1 q.2.1 q.2.2, w ∈ gt) ∧ (∃ ty0 : Nat → FieldType, ∀ k, k < q.2.2 → parseFieldDescriptor (q.2.1 k).2.2.1 = some (ty0 k)) ∧ (∀ a, a < q.2.2 → ∀ b, b < q.2.2 → a ≠ b → (q.2.1 a).2.1 ≠ (q.2.1 b).2.1)
theorem cls0 : CLS 0 (RX0, TX0, 8) := ⟨rfl, by decide +kernel, ⟨tyX0, tyX0_ok⟩, nmX0⟩
theorem cls1 : CLS 1 (RX1, TX1, 6) := ⟨rfl, by decide +kernel, ⟨tyX1, tyX1_ok⟩, nmX1⟩
theorem cls2 : CLS 2 (RX2, TX2, 8) := ⟨rfl, by decide +kernel, ⟨tyX2, tyX2_ok⟩, nmX2⟩
theorem cls3 : CLS 3 (RX3, TX3, 4) := ⟨rfl, by decide +kernel, ⟨tyX3, tyX3_ok⟩, nmX3⟩
theorem cls4 : CLS 4 (RX4, TX4, 1) := ⟨rfl, by decide +kernel, ⟨tyX4, tyX4_ok⟩, nmX4⟩
theorem cls5 : CLS 5 (RX5, TX5, 3) := ⟨rfl, by decide +kernel, ⟨tyX5, tyX5_ok⟩, nmX5⟩
theorem cls6 : CLS 6 (RX6, TX6, 3) := ⟨rfl, by decide +kernel, ⟨tyX6, tyX6_ok⟩, nmX6⟩
theorem cls7 : CLS 7 (RX7, TX7, 18) := ⟨rfl, by decide +kernel, ⟨tyX7, tyX7_ok⟩, nmX7⟩
theorem cls8 : CLS 8 (RX8, TX8, 32) := ⟨rfl, by decide +kernel, ⟨tyX8, tyX8_ok⟩, nmX8⟩
