section GA
variable {y : MethodName} {cc : ByteArray} {nL : Nat} {ret : Option FieldType} {R : Room} {sc : SC} {Q : Option Value → AH → Nat → Prop} {cu su pc : Nat} {vs st : List Value} {hp : AH} {n : Nat}
theorem Dy_ext {D : va_G} {dA : Nat → ClassId} {A : Nat → Prop} {tF b : Nat} {s : State} {ad ad' : Nat → Nat} {H H1 : Heap} {locs : List Loc} {hp hp' : AH} {n n' : Nat} (X : Dy D dA A tF b s ad H locs hp n) (hag : agr n n' ad ad') (hn : n' ≤ 1000000) (hP : va_P D vwCl (wl dA ad' hp' n') H1) (hD : va_D A (wl dA ad' hp' n')) (hS : va_S A s.heap H1 locs) : Dy D dA A tF b s ad' H1 locs hp' n' :=
  ⟨hP, hD, hS, by rw [hag xF (Or.inr hn)]; exact X.2.2.2.1, by rw [hag xS (Or.inr (by show n' ≤ 1000001; omega))]; exact X.2.2.2.2.1, hn⟩
theorem g_new {pc' : Nat} {idx ci : Nat} {q : vw_C} {fs : List Value} (hq : CLS ci q) (h1 : Cond.classLink y.cls idx q.1 ∈ gt) (h2 : Cond.instantiable q.1 q.2.2 ∈ gt) (h3 : Cond.initialized q.1 ∈ gt) (hfs : ∀ j, j < q.2.2 → ∀ ty, parseFieldDescriptor (q.2.1 j).2.2.1 = some ty → defaultValue ty = vp_V fs j) (hnr : ∀ ad, fs.map (trV ad) = fs) (hc : cu + 1 ≤ R.cells) (hs : su + q.2.2 ≤ R.slots) (hwf : wfH n hp) (hvs : ∀ v ∈ vs, wfv n v) (hst : ∀ v ∈ st, wfv n v) (hn : n < 1000000) (hd : decode cc pc = .ok (.new idx, 3))
    (k : G y cc nL ret R sc Q (cu + 1) (su + q.2.2) pc' vs (.ref n :: st) (va_up hp n (ob ci fs)) (n + 1)) (e : pc + 3 = pc' := by rfl) : G y cc nL ret R sc Q cu su pc vs st hp n := by
  subst e
  intro p l e s m args below meth c D dA A tF b Z ad H locs ls C X L ex
  obtain ⟨ty0, hty0⟩ := hq.2.2.1
  have ht := C.2.2.2.2.2.1
  refine va_new C.1 C.2.1 ht hq.2.1 ty0 hty0 C.2.2.2.2.1 (ht _ h1) (ht _ h2) (ht _ h3) C.2.2.2.2.2.2.2.2.1 X.1 X.2.1 X.2.2.1 C.2.2.2.2.2.2.2.2.2.2.2.1 hq.1 (fun j hj => hfs j hj _ (hty0 j hj)) hc hs hd (fun q9 H1 hP hD hS => ?_)
  have hpu := wl_push (q := q9) (dA := dA) (ad := ad) (e := ob ci fs) hn hwf
  have he : trE dA (va_up ad n q9) (ob ci fs) = .inr (ci, fs) := by
    show Sum.inr (ci, fs.map (trV (va_up ad n q9))) = _
    rw [hnr]
  rw [he] at hpu
  rw [hpu] at hP hD
  have hag : agr n (n + 1) ad (va_up ad n q9) := agr.up
  have K := k p l e s m args below meth c D dA A tF b Z (va_up ad n q9) H1 locs ls C (Dy_ext X hag hn hP hD hS) (LV_agr L hag hn hvs) (fun v2 hp2 n2 ad2 H2 locs2 ls2 pc2 q1 q2 q3 q4 q5 => ex v2 hp2 n2 ad2 H2 locs2 ls2 pc2 q1 q2 (by omega) (hag.tr q4 (by omega) q3) q5)
  have e5 : (Value.ref n :: st).map (trV (va_up ad n q9)) = .ref q9 :: st.map (trV ad) := by
    show Value.ref (va_up ad n q9 n) :: st.map (trV (va_up ad n q9)) = _
    rw [va_up_self, List.map_congr_left (fun v hv => trV_agr hag hn (hst v hv))]
  rw [e5] at K
  exact K
theorem dA_of {D : va_G} {cl : List vw_C} {tys : List (ClassId × FieldType)} {s : State} {c1 c2 : ClassId} {ty : FieldType} {t : Nat} (hK : va_K D cl tys s) (h1 : tys[t]? = some (c1, ty)) (hK2 : va_K D cl (tys ++ [(c2, ty)]) s) (hty : va_RA s c1 ty → s.vm.findClass ("[" ++ ty.toString) = some c1) (hty2 : va_RA s c2 ty → s.vm.findClass ("[" ++ ty.toString) = some c2) : c2 = c1 := by
  have a1 := hty (hK.2 t _ h1).2
  have a2 := hty2 (hK2.2 tys.length (c2, ty) (by simp)).2
  exact Option.some.inj (a2.symm.trans a1)
theorem g_newa {pc' : Nat} {atype : ArrayType} {ty : FieldType} {t N : Nat} {z : Int32} {a0 : vp_A} (hw : Cond.arrayClass (newarray.typeOf atype) ∈ gt) (hty : newarray.typeOf atype = ty) (ht : ∀ dA : Nat → ClassId, (tyL dA)[t]? = some (dA t, ty)) (hra : ∀ (s : State) (c : ClassId), va_RA s c ty → s.vm.findClass ("[" ++ ty.toString) = some c) (ha0 : ∀ cA : ClassId, vp_cell cA a0 = arrV cA N (fun _ => defaultValue ty)) (hnr : ∀ ad, trA ad a0 = a0) (hz : ¬ z < 0) (hN : z.toNatClampNeg = N) (hby : N * componentBytes ty ≤ 536870912) (hc : cu + 1 ≤ R.cells) (hs : su + N ≤ R.slots) (hwf : wfH n hp) (hvs : ∀ v ∈ vs, wfv n v) (hst : ∀ v ∈ st, wfv n v) (hn : n < 1000000) (hd : decode cc pc = .ok (.newarray atype, 2))
    (k : G y cc nL ret R sc Q (cu + 1) (su + N) pc' vs (.ref n :: st) (va_up hp n (.inl (t, a0))) (n + 1)) (e : pc + 2 = pc' := by rfl) : G y cc nL ret R sc Q cu su pc vs (.int z :: st) hp n := by
  subst e
  intro p l e s m args below meth c D dA A tF b Z ad H locs ls C X L ex
  have htt := C.2.2.2.2.2.1
  have hK := C.2.2.2.2.2.2.2.2.1
  refine va_newa C.1 C.2.1 (htt _ hw) hty hK X.1 X.2.1 X.2.2.1 C.2.2.2.2.2.2.2.2.2.2.2.1 ha0 hz hN hby hc hs hd (fun q9 cA H1 hK2 hP hD hS => ?_)
  have ecA : cA = dA t := dA_of hK (ht dA) hK2 (hra s _) (hra s _)
  subst ecA
  have hpu := wl_push (q := q9) (dA := dA) (ad := ad) (e := .inl (t, a0)) hn hwf
  have he : trE dA (va_up ad n q9) (.inl (t, a0)) = .inl (dA t, a0) := by
    show Sum.inl (dA t, trA (va_up ad n q9) a0) = _
    rw [hnr]
  rw [he] at hpu
  rw [hpu] at hP hD
  have hag : agr n (n + 1) ad (va_up ad n q9) := agr.up
  have K := k p l e s m args below meth c D dA A tF b Z (va_up ad n q9) H1 locs ls C (Dy_ext X hag hn hP hD hS) (LV_agr L hag hn hvs) (fun v2 hp2 n2 ad2 H2 locs2 ls2 pc2 q1 q2 q3 q4 q5 => ex v2 hp2 n2 ad2 H2 locs2 ls2 pc2 q1 q2 (by omega) (hag.tr q4 (by omega) q3) q5)
  have e5 : (Value.ref n :: st).map (trV (va_up ad n q9)) = .ref q9 :: st.map (trV ad) := by
    show Value.ref (va_up ad n q9 n) :: st.map (trV (va_up ad n q9)) = _
    rw [va_up_self, List.map_congr_left (fun v hv => trV_agr hag hn (hst v hv))]
  rw [e5] at K
  exact K
theorem g_newI {pc' : Nat} {N : Nat} {z : Int32} (hw : Cond.arrayClass .int ∈ gt) (hz : ¬ z < 0) (hN : z.toNatClampNeg = N) (hby : N * componentBytes .int ≤ 536870912) (hc : cu + 1 ≤ R.cells) (hs : su + N ≤ R.slots) (hwf : wfH n hp) (hvs : ∀ v ∈ vs, wfv n v) (hst : ∀ v ∈ st, wfv n v) (hn : n < 1000000) (hd : decode cc pc = .ok (.newarray .int, 2))
    (k : G y cc nL ret R sc Q (cu + 1) (su + N) pc' vs (.ref n :: st) (va_up hp n (aI N (fun _ => 0))) (n + 1)) (e : pc + 2 = pc' := by rfl) : G y cc nL ret R sc Q cu su pc vs (.int z :: st) hp n :=
  g_newa (atype := .int) (t := 0) (a0 := (N, .inl (fun _ => 0))) hw rfl (fun _ => rfl) (fun _ _ h => h) (fun _ => rfl) (fun _ => rfl) hz hN hby hc hs hwf hvs hst hn hd k e
theorem g_newJ {pc' : Nat} {N : Nat} {z : Int32} (hw : Cond.arrayClass .long ∈ gt) (hz : ¬ z < 0) (hN : z.toNatClampNeg = N) (hby : N * componentBytes .long ≤ 536870912) (hc : cu + 1 ≤ R.cells) (hs : su + N ≤ R.slots) (hwf : wfH n hp) (hvs : ∀ v ∈ vs, wfv n v) (hst : ∀ v ∈ st, wfv n v) (hn : n < 1000000) (hd : decode cc pc = .ok (.newarray .long, 2))
    (k : G y cc nL ret R sc Q (cu + 1) (su + N) pc' vs (.ref n :: st) (va_up hp n (aJ N (fun _ => 0))) (n + 1)) (e : pc + 2 = pc' := by rfl) : G y cc nL ret R sc Q cu su pc vs (.int z :: st) hp n :=
  g_newa (atype := .long) (t := 1) (a0 := (N, .inr (.inl (fun _ => 0)))) hw rfl (fun _ => rfl) (fun _ _ h => h) (fun _ => rfl) (fun _ => rfl) hz hN hby hc hs hwf hvs hst hn hd k e
theorem g_newZ {pc' : Nat} {N : Nat} {z : Int32} (hw : Cond.arrayClass .boolean ∈ gt) (hz : ¬ z < 0) (hN : z.toNatClampNeg = N) (hby : N * componentBytes .boolean ≤ 536870912) (hc : cu + 1 ≤ R.cells) (hs : su + N ≤ R.slots) (hwf : wfH n hp) (hvs : ∀ v ∈ vs, wfv n v) (hst : ∀ v ∈ st, wfv n v) (hn : n < 1000000) (hd : decode cc pc = .ok (.newarray .boolean, 2))
    (k : G y cc nL ret R sc Q (cu + 1) (su + N) pc' vs (.ref n :: st) (va_up hp n (aZ N (fun _ => 0))) (n + 1)) (e : pc + 2 = pc' := by rfl) : G y cc nL ret R sc Q cu su pc vs (.int z :: st) hp n :=
  g_newa (atype := .boolean) (t := 2) (a0 := (N, .inl (fun _ => 0))) hw rfl (fun _ => rfl) (fun _ _ h => h) (fun _ => rfl) (fun _ => rfl) hz hN hby hc hs hwf hvs hst hn hd k e
theorem g_newR {pc' : Nat} {idx N : Nat} {z : Int32} (hw : Cond.classLink y.cls idx "FiveDice$Row" ∈ gt) (hz : ¬ z < 0) (hN : z.toNatClampNeg = N) (hby : N * 4 ≤ 536870912) (hc : cu + 1 ≤ R.cells) (hs : su + N ≤ R.slots) (hwf : wfH n hp) (hvs : ∀ v ∈ vs, wfv n v) (hst : ∀ v ∈ st, wfv n v) (hn : n < 1000000) (hd : decode cc pc = .ok (.anewarray idx, 3))
    (k : G y cc nL ret R sc Q (cu + 1) (su + N) pc' vs (.ref n :: st) (va_up hp n (aR N (fun _ => none))) (n + 1)) (e : pc + 3 = pc' := by rfl) : G y cc nL ret R sc Q cu su pc vs (.int z :: st) hp n := by
  subst e
  intro p l e s m args below meth c D dA A tF b Z ad H locs ls C X L ex
  have htt := C.2.2.2.2.2.1
  have hK := C.2.2.2.2.2.2.2.2.1
  refine va_newq C.1 C.2.1 C.2.2.2.2.1 (htt _ hw) C.2.2.2.2.2.2.2.2.2.1.2.1 hK X.1 X.2.1 X.2.2.1 C.2.2.2.2.2.2.2.2.2.2.2.1 hz hN hby hc hs hd (fun q9 cA H1 hK2 hP hD hS => ?_)
  have hra : ∀ (c : ClassId), va_RA s c (.object "FiveDice$Row") → s.vm.findClass ("[" ++ (FieldType.object "FiveDice$Row").toString) = some c := fun c h => by
    obtain ⟨_, _, _, _, _, h4⟩ := h
    exact h4
  have ecA : cA = dA 3 := dA_of (t := 3) hK rfl hK2 (hra _) (hra _)
  subst ecA
  have hpu := wl_push (q := q9) (dA := dA) (ad := ad) (e := aR N (fun _ => none)) hn hwf
  have he : trE dA (va_up ad n q9) (aR N (fun _ => none)) = .inl (dA 3, N, .inr (.inr (.inr (.inr (fun _ => none))))) := rfl
  rw [he] at hpu
  rw [hpu] at hP hD
  have hag : agr n (n + 1) ad (va_up ad n q9) := agr.up
  have K := k p l e s m args below meth c D dA A tF b Z (va_up ad n q9) H1 locs ls C (Dy_ext X hag hn hP hD hS) (LV_agr L hag hn hvs) (fun v2 hp2 n2 ad2 H2 locs2 ls2 pc2 q1 q2 q3 q4 q5 => ex v2 hp2 n2 ad2 H2 locs2 ls2 pc2 q1 q2 (by omega) (hag.tr q4 (by omega) q3) q5)
  have e5 : (Value.ref n :: st).map (trV (va_up ad n q9)) = .ref q9 :: st.map (trV ad) := by
    show Value.ref (va_up ad n q9 n) :: st.map (trV (va_up ad n q9)) = _
    rw [va_up_self, List.map_congr_left (fun v hv => trV_agr hag hn (hst v hv))]
  rw [e5] at K
  exact K
theorem va_up_map (ad : Nat → Nat) (f : Nat → Option Nat) (j v : Nat) : va_up (fun i => (f i).map ad) j (some (ad v)) = fun i => (va_up f j (some v) i).map ad := by
  funext i
  unfold va_up
  by_cases h : i = j
  · simp [h]
  · simp [h]
theorem g_aastR {pc' : Nat} {a N j v : Nat} {fs : List Value} {f : Nat → Option Nat} {i : Int32} (hd : decode cc pc = .ok (.aastore, 1)) (ha : a < n) (he : hp a = aR N f) (hv : v < n) (hev : hp v = ob 3 fs) (hi : IX i j N) (k : G y cc nL ret R sc Q cu su pc' vs st (va_up hp a (aR N (va_up f j (some v)))) n) (e : pc + 1 = pc' := by rfl) : G y cc nL ret R sc Q cu su pc vs (.ref v :: .int i :: .ref a :: st) hp n := by
  subst e
  intro p l e s m args below meth c D dA A tF b Z ad H locs ls C X L ex
  obtain ⟨h1, h2⟩ := hi
  subst h2
  have hc := wl_get (dA := dA) (ad := ad) (hp := hp) ha
  rw [he] at hc
  have hcv := wl_get (dA := dA) (ad := ad) (hp := hp) hv
  rw [hev] at hcv
  refine va_astq (r := (RX3, TX3, 4)) C.1 C.2.1 C.2.2.2.2.2.2.2.2.1 X.1 X.2.1 X.2.2.1 a 3 v 3 hc rfl hcv rfl h1 hd (fun H1 locs1 hP hD hS => ?_)
  rw [va_up_map] at hP hD
  have hs := wl_set (dA := dA) (ad := ad) (hp := hp) ha (aR N (va_up f i.toNatClampNeg (some v)))
  have hP2 : va_P D vwCl (wl dA ad (va_up hp a (aR N (va_up f i.toNatClampNeg (some v)))) n) H1 := hs ▸ hP
  have hD2 : va_D A (wl dA ad (va_up hp a (aR N (va_up f i.toNatClampNeg (some v)))) n) := hs ▸ hD
  exact k p l e s m args below meth c D dA A tF b Z ad H1 locs1 ls C ⟨hP2, hD2, hS, X.2.2.2⟩ L ex
theorem g_copyl {pc' : Nat} {idx a0 a1 n0 n1 sj dj nj : Nat} {f g : Nat → Int64} {sp dp nn : Int32} (h1 : Cond.methodLink y.cls idx arraycopyName ∈ gt) (h2 : Cond.native arraycopyName ∈ gt) (h3 : Cond.static arraycopyName ∈ gt) (h4 : Cond.initialized "java/lang/System" ∈ gt) (ha0 : a0 < n) (he0 : hp a0 = aJ n0 f) (ha1 : a1 < n) (he1 : hp a1 = aJ n1 g) (hs : ¬ sp < 0 ∧ sp.toNatClampNeg = sj) (hdp : ¬ dp < 0 ∧ dp.toNatClampNeg = dj) (hnn : ¬ nn < 0 ∧ nn.toNatClampNeg = nj) (hb0 : sj + nj ≤ n0) (hb1 : dj + nj ≤ n1) (hf : 1 ≤ R.frames) (hl : (st.map fun v => v.category).sum + (nativeFrameWords "java/lang/System" "arraycopy" 5 + 11) ≤ R.locals) (hd : decode cc pc = .ok (.invokestatic idx, 3))
    (k : G y cc nL ret R sc Q cu su pc' vs st (va_up hp a1 (aJ n1 (va_cpy f g sj dj nj))) n) (e : pc + 3 = pc' := by rfl) : G y cc nL ret R sc Q cu su pc vs (.int nn :: .int dp :: .ref a1 :: .int sp :: .ref a0 :: st) hp n := by
  subst e
  intro p l e s m args below meth c D dA A tF b Z ad H locs ls C X L ex
  obtain ⟨hs1, rfl⟩ := hs
  obtain ⟨hd1, rfl⟩ := hdp
  obtain ⟨hn1, rfl⟩ := hnn
  have ht := C.2.2.2.2.2.1
  have hc0 := wl_get (dA := dA) (ad := ad) (hp := hp) ha0
  rw [he0] at hc0
  have hc1 := wl_get (dA := dA) (ad := ad) (hp := hp) ha1
  rw [he1] at hc1
  refine va_copyl C.1 C.2.1 (C.2.2.2.1.trans L.1.symm) C.2.2.2.2.1 (ht _ h1) (ht _ h2) (ht _ h3) (ht _ h4) C.2.2.2.2.2.2.2.2.1 X.1 X.2.1 X.2.2.1 a0 a1 1 1 (ty := .long) hc0 hc1 rfl rfl rfl hs1 hd1 hn1 hb0 hb1 (fun _ _ => rfl) hf (by rw [sum_cat]; exact hl) hd (fun H1 locs1 hP hD hS => ?_)
  have hs := wl_set (dA := dA) (ad := ad) (hp := hp) ha1 (aJ n1 (va_cpy f g sp.toNatClampNeg dp.toNatClampNeg nn.toNatClampNeg))
  have hP2 : va_P D vwCl (wl dA ad (va_up hp a1 (aJ n1 (va_cpy f g sp.toNatClampNeg dp.toNatClampNeg nn.toNatClampNeg))) n) H1 := hs ▸ hP
  have hD2 : va_D A (wl dA ad (va_up hp a1 (aJ n1 (va_cpy f g sp.toNatClampNeg dp.toNatClampNeg nn.toNatClampNeg))) n) := hs ▸ hD
  exact k p l e s m args below meth c D dA A tF b Z ad H1 locs1 ls C ⟨hP2, hD2, hS, X.2.2.2⟩ L ex
/-- new long[3][462] -/
theorem g_mna {pc' : Nat} {idx : Nat} (hw : Cond.classLink y.cls idx "[[J" ∈ gt) (hw2 : Cond.arrayClass .long ∈ gt) (hc : cu + 4 ≤ R.cells) (hs : su + 1389 ≤ R.slots) (hwf : wfH n hp) (hvs : ∀ v ∈ vs, wfv n v) (hst : ∀ v ∈ st, wfv n v) (hn : n + 4 ≤ 1000000) (hd : decode cc pc = .ok (.multianewarray idx 2, 4))
    (k : G y cc nL ret R sc Q (cu + 4) (su + 1389) pc' vs (.ref n :: st) (va_up (va_up (va_up (va_up hp n (aG 3 (fun i => if i < 3 then some (n + 1 + i) else none))) (n + 1) (aJ 462 (fun _ => 0))) (n + 2) (aJ 462 (fun _ => 0))) (n + 3) (aJ 462 (fun _ => 0))) (n + 4)) (e : pc + 4 = pc' := by rfl) : G y cc nL ret R sc Q cu su pc vs (.int 462 :: .int 3 :: st) hp n := by
  subst e
  intro p l e s m args below meth c D dA A tF b Z ad H locs ls C X L ex
  have htt := C.2.2.2.2.2.1
  have hK := C.2.2.2.2.2.2.2.2.1
  have hcy : s.vm.findClass (FieldType.array .long).toString = some (dA 1) := (hK.2 1 _ rfl).2
  have hP0 : va_P D vwCl (wl dA ad hp n ++ va_pl [] (fun _ => .inr (0, []))) H := by
    rw [show va_pl [] (fun _ => (.inr (0, []) : va_E)) = [] from rfl, List.append_nil]
    exact X.1
  have hD0 : va_D A (wl dA ad hp n ++ va_pl [] (fun _ => .inr (0, []))) := by
    rw [show va_pl [] (fun _ => (.inr (0, []) : va_E)) = [] from rfl, List.append_nil]
    exact X.2.1
  refine va_mna (ty := .long) (cy := dA 1) (z := (462, .inr (.inl (fun _ => 0)))) (N' := 3) (K' := 462) C.1 C.2.1 C.2.2.2.2.1 (htt _ hw) C.2.2.2.2.2.2.2.2.2.1.2.2 (htt _ hw2) hcy hK hP0 hD0 X.2.2.1 C.2.2.2.2.2.2.2.2.2.2.2.1 (by decide) (by decide) rfl rfl (by decide) (by decide) (by decide) rfl rfl hc hs (fun c9 => ?_) hd (fun q9 r cA H1 hinj hnl hK2 hP hD hS => ?_)
  · show _ = arrV c9 462 (fun _ => Value.long 0)
    rw [← arrV_new]
    rfl
  have ecA : cA = dA 4 := dA_of (t := 4) hK rfl hK2 (fun h => h) (fun h => h)
  subst ecA
  generalize hadd : va_up (va_up (va_up (va_up ad n q9) (n + 1) (r 0)) (n + 2) (r 1)) (n + 3) (r 2) = ad'
  generalize hhp : va_up (va_up (va_up (va_up hp n (aG 3 (fun i => if i < 3 then some (n + 1 + i) else none))) (n + 1) (aJ 462 (fun _ => 0))) (n + 2) (aJ 462 (fun _ => 0))) (n + 3) (aJ 462 (fun _ => 0)) = hp' at k
  have hag : agr n (n + 4) ad ad' := fun i hi => by
    rw [← hadd]
    unfold va_up
    rw [if_neg (by omega), if_neg (by omega), if_neg (by omega), if_neg (by omega)]
  have a0 : ad' n = q9 := by rw [← hadd]; simp [va_up]
  have a1 : ad' (n + 1) = r 0 := by rw [← hadd]; simp [va_up]
  have a2 : ad' (n + 2) = r 1 := by rw [← hadd]; simp [va_up]
  have a3 : ad' (n + 3) = r 2 := by rw [← hadd]; simp [va_up]
  have b0 : hp' n = aG 3 (fun i => if i < 3 then some (n + 1 + i) else none) := by rw [← hhp]; simp [va_up]
  have b1 : hp' (n + 1) = aJ 462 (fun _ => 0) := by rw [← hhp]; simp [va_up]
  have b2 : hp' (n + 2) = aJ 462 (fun _ => 0) := by rw [← hhp]; simp [va_up]
  have b3 : hp' (n + 3) = aJ 462 (fun _ => 0) := by rw [← hhp]; simp [va_up]
  have hlo : ∀ i, i < n → hp' i = hp i := fun i hi => by
    rw [← hhp]
    unfold va_up
    rw [if_neg (by omega), if_neg (by omega), if_neg (by omega), if_neg (by omega)]
  have hwl : wl dA ad' hp' (n + 4) = wl dA ad hp n ++ [(q9, trE dA ad' (hp' n)), (r 0, trE dA ad' (hp' (n + 1))), (r 1, trE dA ad' (hp' (n + 2))), (r 2, trE dA ad' (hp' (n + 3)))] := by
    have h0 : wl dA ad' hp' n = wl dA ad hp n := wl_agr hag hn hwf hlo
    rw [← h0]
    unfold wl
    rw [show n + 4 = n + 1 + 1 + 1 + 1 from rfl, List.range_succ, List.range_succ, List.range_succ, List.range_succ]
    simp [a0, a1, a2, a3]
  have e0 : trE dA ad' (hp' n) = .inl (dA 4, 3, .inr (.inr (.inr (.inr (fun i => if i < 3 then some (r i) else none))))) := by
    rw [b0]
    show Sum.inl (dA 4, (3, Sum.inr (Sum.inr (Sum.inr (Sum.inr (fun j => (if j < 3 then some (n + 1 + j) else none).map ad')))))) = _
    have hf : (fun j => (if j < 3 then some (n + 1 + j) else none).map ad') = (fun i => if i < 3 then some (r i) else none) := funext fun j => by
      match j with
      | 0 => simp [a1]
      | 1 => simp [a2]
      | 2 => simp [a3]
      | j + 3 =>
        have h9 : ¬ j + 3 < 3 := by omega
        simp [h9]
    rw [hf]
  have hls : wl dA ad' hp' (n + 4) = (wl dA ad hp n ++ [(q9, .inl (dA 4, 3, .inr (.inr (.inr (.inr (fun i => if i < 3 then some (r i) else none))))))]) ++ va_pl ([] ++ (List.range 3).map r) (vr_up (fun _ => .inr (0, [])) ((List.range 3).map r) (.inl (dA 1, 462, .inr (.inl (fun _ => 0))))) := by
    rw [hwl, e0, b1, b2, b3]
    have hr3 : (List.range 3).map r = [r 0, r 1, r 2] := rfl
    rw [hr3, List.nil_append]
    unfold va_pl
    simp [vr_up, trE, trA]
  rw [← hls] at hP hD
  have K := k p l e s m args below meth c D dA A tF b Z ad' H1 locs ls C (Dy_ext X hag hn hP hD hS) (LV_agr L hag hn hvs) (fun v2 hp2 n2 ad2 H2 locs2 ls2 pc2 q1 q2 q3 q4 q5 => ex v2 hp2 n2 ad2 H2 locs2 ls2 pc2 q1 q2 (by omega) (hag.tr q4 (by omega) q3) q5)
  have e5 : (Value.ref n :: st).map (trV ad') = .ref q9 :: st.map (trV ad) := by
    show Value.ref (ad' n) :: st.map (trV ad') = _
    rw [a0, List.map_congr_left (fun v hv => trV_agr hag hn (hst v hv))]
  rw [e5] at K
  exact K
end GA
