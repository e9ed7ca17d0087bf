/-! calls: a contract CT is the judgement at a method's entry; it gives the kit's Met, and a call row of G -/
def enA : List Value → List Value
  | [] => []
  | v :: vs => if v.category = 2 then v :: uu :: enA vs else v :: enA vs
def enL (nL : Nat) (args : List Value) : List Value := enA args ++ List.replicate (nL - (enA args).length) uu
def CT (y : MethodName) (cc : ByteArray) (nL : Nat) (ret : Option FieldType) (rm : Room) (args : List Value) (hp : AH) (n : Nat) (Q : Option Value → AH → Nat → Prop) : Prop := G y cc nL ret rm none Q 0 0 0 (enL nL args) [] hp n
theorem en_mem {ad : Nat → Nat} : ∀ (args : List Value) (k i : Nat) (v : Value), (enA args)[i]? = some v → v ≠ uu → (k + i, trV ad v) ∈ lv_args k (args.map (trV ad))
  | [], k, i, v, h, _ => by simp [enA] at h
  | a :: as, k, i, v, h, hu => by
    unfold enA at h
    show (k + i, trV ad v) ∈ (k, trV ad a) :: lv_args (if (trV ad a).category = 2 then k + 2 else k + 1) (as.map (trV ad))
    rw [trV_cat]
    by_cases c : a.category = 2
    · rw [if_pos c] at h ⊢
      match i, h with
      | 0, h => simp at h; subst h; exact List.mem_cons_self
      | 1, h => simp at h; exact absurd h.symm hu
      | j + 2, h =>
        have h2 : (enA as)[j]? = some v := by simpa using h
        have := en_mem (ad := ad) as (k + 2) j v h2 hu
        rw [show k + (j + 2) = k + 2 + j by omega]
        exact List.mem_cons_of_mem _ this
    · rw [if_neg c] at h ⊢
      match i, h with
      | 0, h => simp at h; subst h; exact List.mem_cons_self
      | j + 1, h =>
        have h2 : (enA as)[j]? = some v := by simpa using h
        have := en_mem (ad := ad) as (k + 1) j v h2 hu
        rw [show k + (j + 1) = k + 1 + j by omega]
        exact List.mem_cons_of_mem _ this
theorem en_len {ad : Nat → Nat} : ∀ (args : List Value), (lg_sl (args.map (trV ad))).length = (enA args).length
  | [] => rfl
  | a :: as => by
    have ih := en_len (ad := ad) as
    have e : lg_sl ((a :: as).map (trV ad)) = (if (trV ad a).category = 2 then [.val (trV ad a), .second] else [.val (trV ad a)]) ++ lg_sl (as.map (trV ad)) := rfl
    have e2 : enA (a :: as) = if a.category = 2 then a :: uu :: enA as else a :: enA as := rfl
    rw [e, trV_cat, List.length_append, ih, e2]
    by_cases c : a.category = 2
    · simp [c]; omega
    · simp [c]; omega
theorem en_LV {ad : Nat → Nat} {args : List Value} {nL : Nat} {ls : Array Slot} (h : lv_has ls nL (lv_args 0 (args.map (trV ad)))) : LV ad ls nL (enL nL args) := ⟨h.1, h.2.1, fun q hq => by
  obtain ⟨i, w⟩ := q
  obtain ⟨v, h1, h2, rfl⟩ := lvl_mem.mp hq
  refine h.2.2 _ ?_
  unfold enL at h1
  by_cases l : i < (enA args).length
  · rw [List.getElem?_append_left l] at h1
    have := en_mem (ad := ad) args 0 i v h1 h2
    rwa [Nat.zero_add] at this
  · rw [List.getElem?_append_right (Nat.le_of_not_lt l)] at h1
    have := (List.mem_replicate.mp (List.mem_of_getElem? h1)).2
    exact absurd this h2⟩
def PW (D : va_G) (dA : Nat → ClassId) (ad : Nat → Nat) (hp : AH) (n sz : Nat) (U : State) : Prop := U.heap.size = sz ∧ va_P D vwCl (wl dA ad hp n) U.heap ∧ va_D (fun _ => True) (wl dA ad hp n) ∧ va_K D vwCl (tyL dA) U ∧ NW U ∧ SF (ad xF) (va_A (wl dA ad hp n) sz) U U.heap
def QW (D : va_G) (dA : Nat → ClassId) (ad : Nat → Nat) (hp : AH) (n sz : Nat) (Q : Option Value → AH → Nat → Prop) : Array Value → State → Outcome → State → Prop := fun _ st oc t =>
  (∃ (v : Option Value) (hp' : AH) (n' : Nat) (ad' : Nat → Nat), oc = .returned (v.map (trV ad')) ∧ Q v hp' n' ∧ n ≤ n' ∧ n' ≤ 1000000 ∧ agr n n' ad ad' ∧ va_P D vwCl (wl dA ad' hp' n') t.heap ∧ va_D (va_A (wl dA ad hp n) sz) (wl dA ad' hp' n')) ∧ va_F (va_A (wl dA ad hp n) sz) st t
set_option maxHeartbeats 1000000 in
theorem ct_met {y : MethodName} {cc : ByteArray} {nL : Nat} {ret : Option FieldType} {rm : Room} {args : List Value} {hp : AH} {n : Nat} {Q : Option Value → AH → Nat → Prop} (hy : plainName y.cls = true) (hlen : (enA args).length ≤ nL) (h : CT y cc nL ret rm args hp n Q) (l : Launch) (D : va_G) (dA : Nat → ClassId) (ad : Nat → Nat) (sz : Nat) (hn : n ≤ 1000000) :
    Met l y (.code y cc nL ret :: gt) rm (va_Pc (args.map (trV ad)) (PW D dA ad hp n sz)) (QW D dA ad hp n sz Q) rm.cells rm.slots (va_A (wl dA ad hp n) sz) := by
  refine Met.ofW (cc := cc) (maxL := nL) (ret := ret) hy rfl ?_
  intro p e s m args' below meth c s₁ B hml hv
  obtain ⟨rfl, hsz, hP, hD0, hK, hN, hSF⟩ := hv
  subst hsz
  have hD := hD0.self (sz := s.heap.size)
  have hl := lv_entry (args.map (trV ad)) (n := nL) (by rw [en_len]; exact hlen)
  rw [lg_entry_eq]
  generalize (lg_sl (args.map (trV ad)) ++ List.replicate (nL - (lg_sl (args.map (trV ad))).length) Slot.unset).toArray = ls at hl ⊢
  have hts := atoms_spec (ws := Cond.code y cc nL ret :: gt) B.pre
  have hnm : meth.name = y.name := (name_of_methodNamed B.named B.method).1
  refine h p l e s m _ below meth c D dA (va_A (wl dA ad hp n) s.heap.size) (ad xF) (ad xS) _ ad s.heap [] ls ⟨B.exec, B.bytes, B.returns, hml, findClass_of_methodNamed B.named, fun w hw => hts w (List.mem_cons_of_mem _ hw), B.notSynchronized, hnm, hK, hN, hSF, fun q hq => Or.inr hq, fun L xs q => by cases q⟩ ⟨hP, hD, va_S.rf, rfl, rfl, hn⟩ (en_LV hl) ?_
  intro v hp' n' ad' H' locs' ls' pc' hQ hR hn' hag X
  have hq : ∀ t : State, t.heap = H' → QW D dA ad hp n s.heap.size Q (args.map (trV ad)).toArray s (.returned (v.map (trV ad'))) t := fun t ht => ⟨⟨v, hp', n', ad', rfl, hQ, hn', X.2.2.2.2.2, hag, by rw [ht]; exact X.1, X.2.1⟩, X.2.2.1.F ht⟩
  have hf : ∀ q ∈ locs', va_A (wl dA ad hp n) s.heap.size q.base := X.2.2.1.2.2
  have hlocks := B.notSynchronized
  cases ret with
  | none =>
    cases v with
    | none => exact W.vret B.exec B.bytes B.returns (fun t ht _ => hq t ht) hf hR
    | some v => exact hR.elim
  | some ty =>
    cases v with
    | none => cases ty <;> exact hR.elim
    | some v =>
      cases ty <;> cases v <;> first
        | exact hR.elim
        | exact W.iret B.exec B.bytes B.returns (fun t ht _ => hq t ht) hf hR
        | exact W.zret B.exec B.bytes B.returns hR.2 (fun t ht _ => hq t ht) hf hR.1
        | exact W.lret B.exec B.bytes B.returns (fun t ht _ => hq t ht) hf hR
        | exact W.aret B.exec B.bytes B.returns (Or.inl ⟨_, rfl⟩) (Or.inr ⟨_, rfl⟩) (fun t ht _ => hq t ht) hf hR
        | exact W.aret B.exec B.bytes B.returns (Or.inr ⟨_, rfl⟩) (Or.inr ⟨_, rfl⟩) (fun t ht _ => hq t ht) hf hR
theorem PW_blind {D : va_G} {dA : Nat → ClassId} {ad : Nat → Nat} {hp : AH} {n sz : Nat} {av : List Value} : FrameBlind (va_Pc av (PW D dA ad hp n sz)) := fun a U g mk q => by
  obtain ⟨q0, q1, qP, qD, qK, qN, qS⟩ := q
  exact ⟨q0, q1, qP, qD, va_K.moved (u := U) (U := U.calling g mk a) (Vm.Alike.refl U.vm) qK, NW.same (s := U) (U := U.calling g mk a) rfl qN, va_Z.moved (u := U) (U := U.calling g mk a) (Vm.Alike.refl U.vm) qS.1, va_T.moved (u := U) (U := U.calling g mk a) (Vm.Alike.refl U.vm) qS.2⟩
/-- the callee's start out of the caller's stand -/
theorem PW_of {y : MethodName} {cc : ByteArray} {nL : Nat} {ret : Option FieldType} {sc : SC} {p : Program} {s : State} {m : MethodId} {args : Array Value} {meth : Method} {c : Code} {D : va_G} {dA : Nat → ClassId} {A : Nat → Prop} {tF b : Nat} {ad : Nat → Nat} {H : Heap} {locs : List Loc} {hp : AH} {n : Nat}
    (C : Cx y cc nL ret sc p s m args meth c D dA A tF b) (X : Dy D dA A tF b s ad H locs hp n) {U : State} (hU : U.heap = H) (hW : s.WarmedH U.vm) : PW D dA ad hp n H.size U := by
  have hA1 : ∀ q, va_A (wl dA ad hp n) H.size q → A q := fun q h => by
    rcases h with ⟨k, e, h⟩ | h
    · exact X.2.1.2 k (q, e) h
    · exact C.2.2.2.2.2.2.2.2.2.2.2.1 q (Nat.le_trans X.2.2.1.1 h)
  have hSF := C.2.2.2.2.2.2.2.2.2.2.1
  have hk := X.2.2.1.2.1
  refine ⟨by rw [hU], by rw [hU]; exact X.1, X.2.1.weaken (fun _ _ _ _ => trivial), va_K.moved hW.alike C.2.2.2.2.2.2.2.2.1, NW.warm hW C.2.2.2.2.2.2.2.2.2.1, ?_, ?_⟩
  · rw [X.2.2.2.1, hU]
    exact ((hSF.1.kept hk).narrow hA1).moved hW.alike
  · rw [X.2.2.2.1, hU]
    exact ((hSF.2.kept hk).narrow hA1).moved hW.alike
/-- behind a call -/
theorem ga_back {y : MethodName} {cc : ByteArray} {nL : Nat} {ret : Option FieldType} {R : Room} {sc : SC} {Q : Option Value → AH → Nat → Prop} {cu su pc : Nat} {vs st st0 : List Value} {hp : AH} {n : Nat} {p : Program} {l : Launch} {e : Env} {s : State} {m : MethodId} {args : Array Value} {below : List Frame} {meth : Method} {c : Code} {D : va_G} {dA : Nat → ClassId} {A : Nat → Prop} {tF b : Nat} {Z : State → Prop} {ad : Nat → Nat} {H : Heap} {locs : List Loc} {ls : Array Slot} {mc ms : Nat} {Qc : Option Value → AH → Nat → Prop} {av : Array Value}
    (C : Cx y cc nL ret sc p s m args meth c D dA A tF b) (X : Dy D dA A tF b s ad H locs hp n) (L : LV ad ls nL vs)
    (ex : ∀ (v : Option Value) (hp' : AH) (n' : Nat) (ad' : Nat → Nat) (H' : Heap) (locs' : List Loc) (ls' : Array Slot) (pc' : Nat), Q v hp' n' → RetOK cc pc' ret v → n ≤ n' → agr n n' ad ad' → Dy D dA A tF b s ad' H' locs' hp' n' → W p l e R s m args below meth c H' locs' R.cells R.slots Z (F0 m pc' ls' (v.toList.map (trV ad'))))
    (hr : va_Run p l e R s m args below meth c H locs cu su mc ms (F0 m pc ls st0) (st.map (trV ad)) (QW D dA ad hp n H.size Qc av) (va_A (wl dA ad hp n) H.size))
    (hw : ∀ v hp' n', Qc v hp' n' → n' = n ∨ ((∀ v ∈ vs, wfv n v) ∧ ∀ v ∈ st, wfv n v))
    (k : ∀ v hp' n', Qc v hp' n' → n ≤ n' → G y cc nL ret R sc Q (cu + mc) (su + ms) (pc + 3) vs (v.toList ++ st) hp' n') : W p l e R s m args below meth c H locs cu su Z (F0 m pc ls st0) := by
  have hA1 : ∀ q, va_A (wl dA ad hp n) H.size q → A q := fun q h => by
    rcases h with ⟨k, e, h⟩ | h
    · exact X.2.1.2 k (q, e) h
    · exact C.2.2.2.2.2.2.2.2.2.2.2.1 q (Nat.le_trans X.2.2.1.1 h)
  have hS := X.2.2.1
  intro T hT XT
  obtain ⟨v9, st₀, t, T', L9, h0, X', hL, e1, e2, ⟨⟨v, hp', n', ad', hv, hp, hn, hn6, hag, hP1, hD1⟩, hz, hk⟩, stp⟩ := hr T hT XT
  rw [h0] at hz hk
  have hv' : v9 = v.map (trV ad') := by cases hv; rfl
  subst hv'
  have hS' : va_S A s.heap T'.heap (locs ++ L9) := ⟨Nat.le_trans hS.1 (by rw [e1]; exact hz), fun q h1 h2 => by rw [e1, hk q (Nat.lt_of_lt_of_le h1 hS.1) (fun z => h2 (hA1 q z))]; exact hS.2.1 q h1 h2, fun q hq => by
      rcases List.mem_append.mp hq with h | h
      · exact hS.2.2 q h
      · exact hA1 _ (hL q h)⟩
  have hstv : LV ad' ls nL vs ∧ st.map (trV ad') = st.map (trV ad) := by
    rcases hw v hp' n' hp with h | ⟨h1, h2⟩
    · subst h
      have e9 := hag.eq
      subst e9
      exact ⟨L, rfl⟩
    · exact ⟨LV_agr L hag hn6 h1, List.map_congr_left fun v hv => trV_agr hag hn6 (h2 v hv)⟩
  have hx : n ≤ 1000000 := X.2.2.2.2.2
  have hDy : Dy D dA A tF b s ad' T'.heap (locs ++ L9) hp' n' := ⟨by rw [e1]; exact hP1, hD1.weaken (fun k q _ h => hA1 q.1 h), hS', by rw [hag xF (Or.inr (by show n' ≤ 1000000; omega))]; exact X.2.2.2.1, by rw [hag xS (Or.inr (by show n' ≤ 1000001; omega))]; exact X.2.2.2.2.1, hn6⟩
  have K := k v hp' n' hp hn p l e s m args below meth c D dA A tF b Z ad' T'.heap (locs ++ L9) ls C hDy hstv.1 (fun v2 hp2 n2 ad2 H2 locs2 ls2 pc2 q1 q2 q3 q4 q5 => ex v2 hp2 n2 ad2 H2 locs2 ls2 pc2 q1 q2 (Nat.le_trans hn q3) (hag.tr q4 hn q3) q5) T' rfl X'
  obtain ⟨t2, a1, b1⟩ := K
  refine ⟨t2, stp t2 ?_, b1⟩
  have e5 : (v.toList ++ st).map (trV ad') = (v.map (trV ad')).toList ++ st.map (trV ad) := by
    rw [List.map_append, hstv.2]
    cases v <;> rfl
  rw [e5] at a1
  exact a1

section GC
variable {y : MethodName} {cc : ByteArray} {nL : Nat} {ret : Option FieldType} {R : Room} {sc : SC} {Q : Option Value → AH → Nat → Prop} {cu su pc : Nat} {vs st : List Value} {hp : AH} {n : Nat}
/-- what the tables say of a callee -/
def CW (own : String) (idx : Nat) (y' : MethodName) (cc' : ByteArray) (nL' : Nat) (ret' : Option FieldType) (na : Nat) : Prop := Cond.methodLink own idx y' ∈ gt ∧ Cond.initialized y'.cls ∈ gt ∧ Cond.code y' cc' nL' ret' ∈ gt ∧ plainName y'.cls = true ∧ y'.cls ≠ "java/lang/invoke/MethodHandle" ∧ y'.cls ≠ "java/lang/invoke/VarHandle" ∧ (parseMethodDescriptor y'.desc).map (fun d => d.parameters.length) = some na
def CWN (own : String) (idx : Nat) (y' : MethodName) (cc' : ByteArray) (nL' : Nat) (ret' : Option FieldType) (na : Nat) : Prop := (∃ host, Cond.methodLinkNest own idx y' host ∈ nwl) ∧ Cond.initialized y'.cls ∈ gt ∧ Cond.code y' cc' nL' ret' ∈ gt ∧ plainName y'.cls = true ∧ y'.cls ≠ "java/lang/invoke/MethodHandle" ∧ y'.cls ≠ "java/lang/invoke/VarHandle" ∧ (parseMethodDescriptor y'.desc).map (fun d => d.parameters.length) = some na
def CR (R rm : Room) (nL' cu su : Nat) : Prop := (rm.frames + 1 ≤ R.frames ∧ 8 + (nL' + 11) + rm.locals ≤ R.locals) ∧ cu + rm.cells ≤ R.cells ∧ su + rm.slots ≤ R.slots
theorem gt_good {y' : MethodName} {cc' : ByteArray} {nL' : Nat} {ret' : Option FieldType} (h : Cond.code y' cc' nL' ret' ∈ gt) : GoodIn gt (Cond.code y' cc' nL' ret' :: gt) := fun w hw => by
  have hw' : w ∈ gt := by
    rcases List.mem_cons.mp hw with h1 | h1
    · rw [h1]; exact h
    · exact h1
  exact ⟨hw', good_of_word (List.mem_filter.mp hw').2⟩
theorem sum_cat (ad : Nat → Nat) (st : List Value) : ((st.map (trV ad)).map fun v => v.category).sum = (st.map fun v => v.category).sum := by
  rw [List.map_map]
  congr 1
  apply List.map_congr_left
  intro v _
  exact trV_cat ad v
theorem ga_V {pc' : Nat} {y' : MethodName} {cc' : ByteArray} {nL' idx a ci na : Nat} {ret' : Option FieldType} {rm : Room} {As fs : List Value} {qc : vw_C} {Qc : Option Value → AH → Nat → Prop} (hcw : CW y.cls idx y' cc' nL' ret' na) (hin : Cond.instanceMethod y' ∈ gt) (hsel : Cond.selects y'.cls y' y' ∈ gt) (hct : CT y' cc' nL' ret' rm (.ref a :: As) hp n Qc) (hR : CR R rm nL' cu su) (hcat : (st.map fun v => v.category).sum ≤ 8) (hna : As.length = na) (hen : (enA (.ref a :: As)).length ≤ nL')
    (hd : decode cc pc = .ok (.invokevirtual idx, 3)) (ha : a < n) (he : hp a = ob ci fs) (hq : vwCl[ci]? = some qc) (hqc : qc.1 = y'.cls)
    (hw : ∀ v hp' n', Qc v hp' n' → n' = n ∨ ((∀ v ∈ vs, wfv n v) ∧ ∀ v ∈ st, wfv n v))
    (k : ∀ v hp' n', Qc v hp' n' → n ≤ n' → G y cc nL ret R sc Q (cu + rm.cells) (su + rm.slots) pc' vs (v.toList ++ st) hp' n') (e : pc + 3 = pc' := by rfl) : G y cc nL ret R sc Q cu su pc vs (As.reverse ++ .ref a :: st) hp n := by
  subst e
  intro p l e s m args below meth c D dA A tF b Z ad H locs ls C X L ex
  have hM := ct_met hcw.2.2.2.1 hen hct l D dA ad H.size X.2.2.2.2.2
  have hc := wl_get (dA := dA) (ad := ad) (hp := hp) ha
  rw [he] at hc
  have hrecv := va_recv C.2.2.2.2.2.2.2.2.1 X.1 hq hc
  rw [hqc] at hrecv
  have ht := C.2.2.2.2.2.1
  have cw : CallW R s args y.cls y'.cls idx y' cc' nL' ret' (Cond.code y' cc' nL' ret' :: gt) rm rm.cells rm.slots na := ⟨callB_of na ht (gt_good hcw.2.2.1) rfl rfl rfl (ht _ hcw.2.1) (ht _ hcw.1) hcw.2.2.2.2 hR.1, ht _ hin, ht _ hsel⟩
  have hrun := va_runV (e := e) (below := below) (meth := meth) (locs := locs) (cells := cu) (slots := su) (g := F0 m pc ls ((As.reverse ++ .ref a :: st).map (trV ad))) (As := As.map (trV ad)) (b := ad a) (rest := st.map (trV ad)) ⟨C.1, C.2.1, C.2.2.2.1, C.2.2.2.2.1, ht⟩ hM cw ⟨PW_blind, hrecv, fun U hU hW => ⟨rfl, PW_of C X hU hW⟩⟩ rfl (by rw [List.length_map]; exact hna) L.1 (by show (As.reverse ++ .ref a :: st).map (trV ad) = _; rw [List.map_append, List.map_reverse]; rfl) (lv_room (by rw [sum_cat]; exact hcat)) hd hR.2
  exact ga_back C X L ex hrun hw k
theorem ga_S {pc' : Nat} {y' : MethodName} {cc' : ByteArray} {nL' idx na : Nat} {ret' : Option FieldType} {rm : Room} {As : List Value} {Qc : Option Value → AH → Nat → Prop} (hcw : CW y.cls idx y' cc' nL' ret' na) (hst : Cond.static y' ∈ gt) (hct : CT y' cc' nL' ret' rm As hp n Qc) (hR : CR R rm nL' cu su) (hcat : (st.map fun v => v.category).sum ≤ 8) (hna : As.length = na) (hen : (enA As).length ≤ nL')
    (hd : decode cc pc = .ok (.invokestatic idx, 3))
    (hw : ∀ v hp' n', Qc v hp' n' → n' = n ∨ ((∀ v ∈ vs, wfv n v) ∧ ∀ v ∈ st, wfv n v))
    (k : ∀ v hp' n', Qc v hp' n' → n ≤ n' → G y cc nL ret R sc Q (cu + rm.cells) (su + rm.slots) pc' vs (v.toList ++ st) hp' n') (e : pc + 3 = pc' := by rfl) : G y cc nL ret R sc Q cu su pc vs (As.reverse ++ st) hp n := by
  subst e
  intro p l e s m args below meth c D dA A tF b Z ad H locs ls C X L ex
  have hM := ct_met hcw.2.2.2.1 hen hct l D dA ad H.size X.2.2.2.2.2
  have ht := C.2.2.2.2.2.1
  have hrun := va_runS (e := e) (below := below) (meth := meth) (locs := locs) (cells := cu) (slots := su) (g := F0 m pc ls ((As.reverse ++ st).map (trV ad))) (As := As.map (trV ad)) (rest := st.map (trV ad)) ⟨C.1, C.2.1, C.2.2.2.1, C.2.2.2.2.1, ht⟩ hM ⟨callB_of na ht (gt_good hcw.2.2.1) rfl rfl rfl (ht _ hcw.2.1) (ht _ hcw.1) hcw.2.2.2.2 hR.1, ht _ hst⟩ ⟨PW_blind, fun U hU hW => ⟨rfl, PW_of C X hU hW⟩⟩ rfl (by rw [List.length_map]; exact hna) L.1 (by show (As.reverse ++ st).map (trV ad) = _; rw [List.map_append, List.map_reverse]) (lv_room (by rw [sum_cat]; exact hcat)) hd hR.2
  exact ga_back C X L ex hrun hw k
theorem ga_I {pc' : Nat} {y' : MethodName} {cc' : ByteArray} {nL' idx a na : Nat} {rm : Room} {As : List Value} {Qc : Option Value → AH → Nat → Prop} (hcw : CW y.cls idx y' cc' nL' none na) (hin : Cond.instanceMethod y' ∈ gt) (hnm : y'.name = "<init>") (hct : CT y' cc' nL' none rm (.ref a :: As) hp n Qc) (hR : CR R rm nL' cu su) (hcat : (st.map fun v => v.category).sum ≤ 8) (hna : As.length = na) (hen : (enA (.ref a :: As)).length ≤ nL')
    (hd : decode cc pc = .ok (.invokespecial idx, 3))
    (hw : ∀ v hp' n', Qc v hp' n' → n' = n ∨ ((∀ v ∈ vs, wfv n v) ∧ ∀ v ∈ st, wfv n v))
    (k : ∀ v hp' n', Qc v hp' n' → n ≤ n' → G y cc nL ret R sc Q (cu + rm.cells) (su + rm.slots) pc' vs (v.toList ++ st) hp' n') (e : pc + 3 = pc' := by rfl) : G y cc nL ret R sc Q cu su pc vs (As.reverse ++ .ref a :: st) hp n := by
  subst e
  intro p l e s m args below meth c D dA A tF b Z ad H locs ls C X L ex
  have hM := ct_met hcw.2.2.2.1 hen hct l D dA ad H.size X.2.2.2.2.2
  have ht := C.2.2.2.2.2.1
  have hrun := va_runI (e := e) (below := below) (meth := meth) (locs := locs) (cells := cu) (slots := su) (g := F0 m pc ls ((As.reverse ++ .ref a :: st).map (trV ad))) (As := As.map (trV ad)) (b := ad a) (rest := st.map (trV ad)) ⟨C.1, C.2.1, C.2.2.2.1, C.2.2.2.2.1, ht⟩ hM ⟨callB_of na ht (gt_good hcw.2.2.1) rfl rfl rfl (ht _ hcw.2.1) (ht _ hcw.1) hcw.2.2.2.2 hR.1, hnm, ht _ hin⟩ ⟨PW_blind, fun U hU hW => ⟨rfl, PW_of C X hU hW⟩⟩ rfl (by rw [List.length_map]; exact hna) L.1 (by show (As.reverse ++ .ref a :: st).map (trV ad) = _; rw [List.map_append, List.map_reverse]; rfl) (lv_room (by rw [sum_cat]; exact hcat)) hd hR.2
  exact ga_back C X L ex hrun hw k
theorem ga_IN {pc' : Nat} {y' : MethodName} {cc' : ByteArray} {nL' idx a na : Nat} {rm : Room} {As : List Value} {Qc : Option Value → AH → Nat → Prop} (hcw : CWN y.cls idx y' cc' nL' none na) (hin : Cond.instanceMethod y' ∈ gt) (hnm : y'.name = "<init>") (hct : CT y' cc' nL' none rm (.ref a :: As) hp n Qc) (hR : CR R rm nL' cu su) (hcat : (st.map fun v => v.category).sum ≤ 8) (hna : As.length = na) (hen : (enA (.ref a :: As)).length ≤ nL')
    (hd : decode cc pc = .ok (.invokespecial idx, 3))
    (hw : ∀ v hp' n', Qc v hp' n' → n' = n ∨ ((∀ v ∈ vs, wfv n v) ∧ ∀ v ∈ st, wfv n v))
    (k : ∀ v hp' n', Qc v hp' n' → n ≤ n' → G y cc nL ret R sc Q (cu + rm.cells) (su + rm.slots) pc' vs (v.toList ++ st) hp' n') (e : pc + 3 = pc' := by rfl) : G y cc nL ret R sc Q cu su pc vs (As.reverse ++ .ref a :: st) hp n := by
  subst e
  intro p l e s m args below meth c D dA A tF b Z ad H locs ls C X L ex
  have hM := ct_met hcw.2.2.2.1 hen hct l D dA ad H.size X.2.2.2.2.2
  have ht := C.2.2.2.2.2.1
  obtain ⟨⟨host, hl⟩, hc2⟩ := hcw
  have cb := va_cnB (R := R) (args := args) (rm := rm) na ht (gt_good hc2.2.1) rfl rfl rfl (C.2.2.2.2.2.2.2.2.2.1.1 _ hl) (ht _ hc2.1) hc2.2.2.2 hR.1
  have hrun := va_runIN (e := e) (below := below) (meth := meth) (locs := locs) (cells := cu) (slots := su) (g := F0 m pc ls ((As.reverse ++ .ref a :: st).map (trV ad))) (As := As.map (trV ad)) (b := ad a) (rest := st.map (trV ad)) ⟨C.1, C.2.1, C.2.2.2.1, C.2.2.2.2.1, ht⟩ hM ⟨cb, hnm, ht _ hin⟩ ⟨PW_blind, fun U hU hW => ⟨rfl, PW_of C X hU hW⟩⟩ rfl (by rw [List.length_map]; exact hna) L.1 (by show (As.reverse ++ .ref a :: st).map (trV ad) = _; rw [List.map_append, List.map_reverse]; rfl) (lv_room (by rw [sum_cat]; exact hcat)) hd hR.2
  exact ga_back C X L ex hrun hw k
theorem g_objInit {pc' : Nat} {idx a : Nat} (h1 : Cond.methodLink y.cls idx objectInit ∈ gt) (h2 : Cond.instanceMethod objectInit ∈ gt) (h3 : Cond.code objectInit ⟨#[0xb1]⟩ 1 none ∈ gt) (hd : decode cc pc = .ok (.invokespecial idx, 3)) (hf : 1 ≤ R.frames) (hl : (st.map fun v => v.category).sum + 12 ≤ R.locals) (k : G y cc nL ret R sc Q cu su pc' vs st hp n) (e : pc + 3 = pc' := by rfl) : G y cc nL ret R sc Q cu su pc vs (.ref a :: st) hp n := by
  subst e
  intro p l e s m args below meth c D dA A tF b Z ad H locs ls C X L ex
  have ht := C.2.2.2.2.2.1
  exact W.objInit C.1 C.2.1 C.2.2.2.2.1 (ht _ h1) (ht _ h2) (ht _ h3) rfl (L.1.trans C.2.2.2.1.symm) rfl hd hf (by show 2 * 0 + _ + 12 ≤ _; rw [sum_cat]; omega) (k p l e s m args below meth c D dA A tF b Z ad H locs ls C X L ex)
end GC
