/-! calls of methods that make no cell: the contract's end is the caller's way on -/
section GX
variable {y : MethodName} {cc : ByteArray} {nL : Nat} {ret : Option FieldType} {R : Room} {sc : SC} {Q : Option Value → AH → Nat → Prop} {cu su pc : Nat} {vs st : List Value} {hp : AH} {n : Nat}
abbrev rmD (d : Nat) : Room := { frames := d, cells := 0, slots := 0, locals := 60 * d }
theorem CR0 {R : Room} {d nL' cu su : Nat} (h1 : d + 1 ≤ R.frames) (h2 : 19 + nL' + 60 * d ≤ R.locals) (h3 : cu ≤ R.cells) (h4 : su ≤ R.slots) : CR R (rmD d) nL' cu su := ⟨⟨h1, by show 8 + (nL' + 11) + 60 * d ≤ R.locals; omega⟩, h3, h4⟩
theorem gc_V {y' : MethodName} {cc' : ByteArray} {nL' idx na ci d : Nat} {ret' : Option FieldType} {fs : List Value} {qc : vw_C} (pc' a : Nat) (As st : List Value) (hcw : CW y.cls idx y' cc' nL' ret' na) (hin : Cond.instanceMethod y' ∈ gt) (hsel : Cond.selects y'.cls y' y' ∈ gt) (hd : decode cc pc = .ok (.invokevirtual idx, 3)) (h1 : d + 1 ≤ R.frames) (h2 : 19 + nL' + 60 * d ≤ R.locals) (h3 : cu ≤ R.cells) (h4 : su ≤ R.slots) (hcat : (st.map fun v => v.category).sum ≤ 8) (hna : As.length = na) (hen : (enA (.ref a :: As)).length ≤ nL') (ha : a < n) (he : hp a = ob ci fs) (hq : vwCl[ci]? = some qc) (hqc : qc.1 = y'.cls)
    (hct : CT y' cc' nL' ret' (rmD d) (.ref a :: As) hp n (fun v hp' n' => n' = n ∧ G y cc nL ret R sc Q cu su pc' vs (v.toList ++ st) hp' n')) (e : pc + 3 = pc' := by rfl) : G y cc nL ret R sc Q cu su pc vs (As.reverse ++ .ref a :: st) hp n :=
  ga_V hcw hin hsel hct (CR0 h1 h2 h3 h4) hcat hna hen hd ha he hq hqc (fun _ _ _ q => Or.inl q.1) (fun _ _ _ q _ => q.2) e
theorem gc_S {y' : MethodName} {cc' : ByteArray} {nL' idx na d : Nat} {ret' : Option FieldType} (pc' : Nat) (As st : List Value) (hcw : CW y.cls idx y' cc' nL' ret' na) (hst : Cond.static y' ∈ gt) (hd : decode cc pc = .ok (.invokestatic idx, 3)) (h1 : d + 1 ≤ R.frames) (h2 : 19 + nL' + 60 * d ≤ R.locals) (h3 : cu ≤ R.cells) (h4 : su ≤ R.slots) (hcat : (st.map fun v => v.category).sum ≤ 8) (hna : As.length = na) (hen : (enA As).length ≤ nL')
    (hct : CT y' cc' nL' ret' (rmD d) As hp n (fun v hp' n' => n' = n ∧ G y cc nL ret R sc Q cu su pc' vs (v.toList ++ st) hp' n')) (e : pc + 3 = pc' := by rfl) : G y cc nL ret R sc Q cu su pc vs (As.reverse ++ st) hp n :=
  ga_S hcw hst hct (CR0 h1 h2 h3 h4) hcat hna hen hd (fun _ _ _ q => Or.inl q.1) (fun _ _ _ q _ => q.2) e
theorem g_mmax {pc' idx : Nat} {x z : Int32} (hw : Cond.methodLink y.cls idx Lib.Math.max.name ∈ gt) (hd : decode cc pc = .ok (.invokestatic idx, 3)) (hf : 1 ≤ R.frames) (hl : (st.map fun v => v.category).sum + 13 ≤ R.locals) (hc : cu ≤ R.cells) (hs : su ≤ R.slots) (k : G y cc nL ret R sc Q cu su pc' vs (.int (if x < z then z else x) :: st) hp n) (e : pc + 3 = pc' := by rfl) : G y cc nL ret R sc Q cu su pc vs (.int z :: .int x :: st) hp n := by
  subst e
  intro p l e s m args below meth c D dA A tF b Z ad H locs ls C X L ex
  have ht := C.2.2.2.2.2.1
  exact va_mmax C.1 C.2.1 (C.2.2.2.1.trans L.1.symm) C.2.2.2.2.1 (ht _ hw) (ht _ w_mx1) (ht _ w_mth) (ht _ w_mx2) hf (by rw [sum_cat]; exact hl) hc hs hd (k p l e s m args below meth c D dA A tF b Z ad H locs ls C X L ex)

theorem g_mmin {pc' idx : Nat} {x z : Int32} (hw : Cond.methodLink y.cls idx Lib.Math.min.name ∈ gt) (hd : decode cc pc = .ok (.invokestatic idx, 3)) (hf : 1 ≤ R.frames) (hl : (st.map fun v => v.category).sum + 13 ≤ R.locals) (hc : cu ≤ R.cells) (hs : su ≤ R.slots) (k : G y cc nL ret R sc Q cu su pc' vs (.int (if z < x then z else x) :: st) hp n) (e : pc + 3 = pc' := by rfl) : G y cc nL ret R sc Q cu su pc vs (.int z :: .int x :: st) hp n := by
  subst e
  intro p l e s m args below meth c D dA A tF b Z ad H locs ls C X L ex
  have ht := C.2.2.2.2.2.1
  exact va_mmin C.1 C.2.1 (C.2.2.2.1.trans L.1.symm) C.2.2.2.2.1 (ht _ hw) (ht _ w_mi1) (ht _ w_mth) (ht _ w_mi2) hf (by rw [sum_cat]; exact hl) hc hs hd (k p l e s m args below meth c D dA A tF b Z ad H locs ls C X L ex)

theorem g_lmax {pc' idx : Nat} {x z : Int64} (hw : Cond.methodLink y.cls idx Lib.MathLoose.max_long.x ∈ gt) (hd : decode cc pc = .ok (.invokestatic idx, 3)) (hf : 1 ≤ R.frames) (hl : (st.map fun v => v.category).sum + 15 ≤ R.locals) (hc : cu ≤ R.cells) (hs : su ≤ R.slots) (k : G y cc nL ret R sc Q cu su pc' vs (.long (if z < x then x else z) :: st) hp n) (e : pc + 3 = pc' := by rfl) : G y cc nL ret R sc Q cu su pc vs (.long z :: .long x :: st) hp n := by
  subst e
  intro p l e s m args below meth c D dA A tF b Z ad H locs ls C X L ex
  have ht := C.2.2.2.2.2.1
  intro T hT XT
  obtain ⟨vm', X', stp⟩ := va_max_longV XT C.1 C.2.2.2.2.1 (ht _ hw) (ht _ w_ml1) (ht _ w_mth) (ht _ w_ml2) (g := F0 m pc ls ((.long z :: .long x :: st).map (trV ad))) rfl (L.1.trans C.2.2.2.1.symm) (a := x) (b := z) (rest := st.map (trV ad)) rfl (by rw [C.2.1]; exact hd) hf (by show 2 * 0 + _ + 15 ≤ _; rw [sum_cat]; omega) hc hs
  obtain ⟨t, a1, b1⟩ := k p l e s m args below meth c D dA A tF b Z ad H locs ls C X L ex (T.setVm vm') hT X'
  exact ⟨t, stp t a1, b1⟩
theorem g_mmaxN {pc' idx a b : Nat} (hw : Cond.methodLink y.cls idx Lib.Math.max.name ∈ gt) (hd : decode cc pc = .ok (.invokestatic idx, 3)) (hf : 1 ≤ R.frames) (hl : (st.map fun v => v.category).sum + 13 ≤ R.locals) (hc : cu ≤ R.cells) (hs : su ≤ R.slots) (ha : a < 2 ^ 31) (hb : b < 2 ^ 31) (k : G y cc nL ret R sc Q cu su pc' vs (.int (nI (max a b)) :: st) hp n) (e : pc + 3 = pc' := by rfl) : G y cc nL ret R sc Q cu su pc vs (.int (nI b) :: .int (nI a) :: st) hp n := by
  refine g_mmax hw hd hf hl hc hs ?_ e
  have h : (if nI a < nI b then nI b else nI a) = nI (max a b) := by
    by_cases q : a < b
    · rw [if_pos ((nI_ltI ha hb).mpr q)]; congr 1; omega
    · rw [if_neg (fun z => q ((nI_ltI ha hb).mp z))]; congr 1; omega
  rw [h]; exact k
theorem g_mminN {pc' idx a b : Nat} (hw : Cond.methodLink y.cls idx Lib.Math.min.name ∈ gt) (hd : decode cc pc = .ok (.invokestatic idx, 3)) (hf : 1 ≤ R.frames) (hl : (st.map fun v => v.category).sum + 13 ≤ R.locals) (hc : cu ≤ R.cells) (hs : su ≤ R.slots) (ha : a < 2 ^ 31) (hb : b < 2 ^ 31) (k : G y cc nL ret R sc Q cu su pc' vs (.int (nI (min a b)) :: st) hp n) (e : pc + 3 = pc' := by rfl) : G y cc nL ret R sc Q cu su pc vs (.int (nI b) :: .int (nI a) :: st) hp n := by
  refine g_mmin hw hd hf hl hc hs ?_ e
  have h : (if nI b < nI a then nI b else nI a) = nI (min a b) := by
    by_cases q : b < a
    · rw [if_pos ((nI_ltI hb ha).mpr q)]; congr 1; omega
    · rw [if_neg (fun z => q ((nI_ltI hb ha).mp z))]; congr 1; omega
  rw [h]; exact k
theorem g_lmaxN {pc' idx a b : Nat} (hw : Cond.methodLink y.cls idx Lib.MathLoose.max_long.x ∈ gt) (hd : decode cc pc = .ok (.invokestatic idx, 3)) (hf : 1 ≤ R.frames) (hl : (st.map fun v => v.category).sum + 15 ≤ R.locals) (hc : cu ≤ R.cells) (hs : su ≤ R.slots) (ha : a < 2 ^ 63) (hb : b < 2 ^ 63) (k : G y cc nL ret R sc Q cu su pc' vs (.long (lN (max a b)) :: st) hp n) (e : pc + 3 = pc' := by rfl) : G y cc nL ret R sc Q cu su pc vs (.long (lN b) :: .long (lN a) :: st) hp n := by
  refine g_lmax hw hd hf hl hc hs ?_ e
  have h : (if lN b < lN a then lN a else lN b) = lN (max a b) := by
    by_cases q : b < a
    · rw [if_pos ((pk_lLT hb ha).mpr q)]; congr 1; omega
    · rw [if_neg (fun z => q ((pk_lLT hb ha).mp z))]; congr 1; omega
  rw [h]; exact k
theorem g_ialdV {pc' : Nat} {a N j : Nat} {f : Nat → Int32} {i : Int32} {x : Int32} (hd : decode cc pc = .ok (.iaload, 1)) (ha : a < n) (he : hp a = aI N f) (hi : IX i j N) (hx : f j = x) (k : G y cc nL ret R sc Q cu su pc' vs (.int x :: st) hp n) (e : pc + 1 = pc' := by rfl) : G y cc nL ret R sc Q cu su pc vs (.int i :: .ref a :: st) hp n := g_iald hd ha he hi (hx ▸ k) e
theorem g_laldV {pc' : Nat} {a N j : Nat} {f : Nat → Int64} {i : Int32} {x : Int64} (hd : decode cc pc = .ok (.laload, 1)) (ha : a < n) (he : hp a = aJ N f) (hi : IX i j N) (hx : f j = x) (k : G y cc nL ret R sc Q cu su pc' vs (.long x :: st) hp n) (e : pc + 1 = pc' := by rfl) : G y cc nL ret R sc Q cu su pc vs (.int i :: .ref a :: st) hp n := g_lald hd ha he hi (hx ▸ k) e
theorem g_zaldV {pc' : Nat} {a N j : Nat} {f : Nat → Int32} {i : Int32} {x : Int32} (hd : decode cc pc = .ok (.baload, 1)) (ha : a < n) (he : hp a = aZ N f) (hi : IX i j N) (hx : f j = x) (k : G y cc nL ret R sc Q cu su pc' vs (.int x :: st) hp n) (e : pc + 1 = pc' := by rfl) : G y cc nL ret R sc Q cu su pc vs (.int i :: .ref a :: st) hp n := g_zald hd ha he hi (hx ▸ k) e
/-- what is known of the locals may be forgotten -/
def FG : List Value → List Value → Prop
  | [], [] => True
  | a :: vs, b :: vs' => (b = uu ∨ a = b) ∧ FG vs vs'
  | _, _ => False
theorem FG_get : ∀ {vs vs' : List Value}, FG vs vs' → ∀ {i : Nat} {v : Value}, vs'[i]? = some v → v ≠ uu → vs[i]? = some v
  | [], [], _, i, v, h, _ => by simp at h
  | a :: vs, b :: vs', hf, 0, v, h, hu => by
    have e : b = v := by simpa using h
    subst e
    rcases hf.1 with q | q
    · exact absurd q hu
    · simp [q]
  | a :: vs, b :: vs', hf, i + 1, v, h, hu => by
    have h1 : vs'[i]? = some v := by simpa using h
    have := FG_get hf.2 h1 hu
    simpa using this
  | [], b :: vs', hf, _, _, _, _ => hf.elim
  | a :: vs, [], hf, _, _, _, _ => hf.elim
theorem g_fg {vs' : List Value} (h : FG vs vs') (k : G y cc nL ret R sc Q cu su pc vs' st hp n) : G y cc nL ret R sc Q cu su pc vs st hp n := by
  intro p l e s m args below meth c D dA A tF b Z ad H locs ls C X L ex
  refine k p l e s m args below meth c D dA A tF b Z ad H locs ls C X ⟨L.1, L.2.1, fun q hq => ?_⟩ ex
  obtain ⟨i, w⟩ := q
  obtain ⟨v, h1, h2, rfl⟩ := lvl_mem.mp hq
  exact LV_at L (FG_get h h1 h2) h2
/-- one more place under va_up -/
theorem up_up (f : AH) (k : Nat) (v w : AE) : va_up (va_up f k v) k w = va_up f k w := bx_uu f k v w
theorem up_id {f : AH} {k : Nat} {v : AE} (h : f k = v) : va_up f k v = f := by
  funext j
  unfold va_up
  by_cases e : j = k
  · subst e; simp [h]
  · simp [e]
theorem up_comm (f : AH) {k j : Nat} (h : k ≠ j) (v w : AE) : va_up (va_up f k v) j w = va_up (va_up f j w) k v := by
  funext i
  unfold va_up
  by_cases e : i = j
  · subst e; simp [Ne.symm h]
  · simp [e]
end GX
/-! numbers -/
theorem sm32 : ∀ r, r < 32 → ((nI r &&& 31).toBitVec.smod 32).toNat = r := by decide +kernel
theorem sh_r {s r : Nat} (hs : s < 2 ^ 31) (hr : r < 32) : nI s >>> (nI r &&& 31) = nI (s / 2 ^ r) := pk_shrN hs _ r (sm32 r hr)
theorem sh_l {s r : Nat} (hr : r < 32) (h : s * 2 ^ r < 2 ^ 32) : nI s <<< (nI r &&& 31) = nI (s * 2 ^ r) := pk_shlN _ r (sm32 r hr) h
theorem an_1 (s : Nat) (h : s < 2 ^ 32) : nI s &&& nI 1 = nI (s % 2) := pk_andN h 1 (by decide)
theorem or_n (a b : Nat) : nI a ||| nI b = nI (a ||| b) := by
  apply Int32.toBitVec_inj.mp
  simp [nI]
/-- the bit r of s -/
def bt0 (s r : Nat) : Bool := s / 2 ^ r % 2 == 0
theorem sh_b {s r : Nat} (hs : s < 2 ^ 31) (hr : r < 32) : nI s >>> (nI r &&& 31) &&& nI 1 = nI (s / 2 ^ r % 2) := by
  rw [sh_r hs hr, an_1 _ (Nat.lt_of_le_of_lt (Nat.div_le_self _ _) (Nat.lt_trans hs (by decide)))]
