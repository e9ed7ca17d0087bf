/-! THE CLASS: the reads that look at their index -/
section GSN
variable {y : MethodName} {cc : ByteArray} {nL : Nat} {ret : Option FieldType} {R : Room} {sc : SC} {Q : Option Value → AH → Nat → Prop} {cu su pc : Nat} {vs st : List Value} {hp : AH} {n : Nat}
theorem ga_SN {pc' : Nat} {y' : MethodName} {cc' : ByteArray} {nL' idx na : Nat} {ret' : Option FieldType} {rm : Room} {As : List Value} {Qc : Option Value → AH → Nat → Prop} (hcw : CWN y.cls idx y' cc' nL' ret' na) (hst : Cond.static y' ∈ gt) (hct : CT y' cc' nL' ret' rm As hp n Qc) (hR : CR R rm nL' cu su) (hcat : (st.map fun v => v.category).sum ≤ 8) (hna : As.length = na) (hen : (enA As).length ≤ nL')
    (hd : decode cc pc = .ok (.invokestatic idx, 3))
    (hw : ∀ v hp' n', Qc v hp' n' → n' = n ∨ ((∀ v ∈ vs, wfv n v) ∧ ∀ v ∈ st, wfv n v))
    (k : ∀ v hp' n', Qc v hp' n' → n ≤ n' → G y cc nL ret R sc Q (cu + rm.cells) (su + rm.slots) pc' vs (v.toList ++ st) hp' n') (e : pc + 3 = pc' := by rfl) : G y cc nL ret R sc Q cu su pc vs (As.reverse ++ st) hp n := by
  subst e
  intro p l e s m args below meth c D dA A tF b Z ad H locs ls C X L ex
  have hM := ct_met hcw.2.2.2.1 hen hct l D dA ad H.size X.2.2.2.2.2
  have ht := C.2.2.2.2.2.1
  obtain ⟨⟨host, hl⟩, hc2⟩ := hcw
  have cb := va_cnB (R := R) (args := args) (rm := rm) na ht (gt_good hc2.2.1) rfl rfl rfl (C.2.2.2.2.2.2.2.2.2.1.1 _ hl) (ht _ hc2.1) hc2.2.2.2 hR.1
  have hrun := va_runSN (e := e) (below := below) (meth := meth) (locs := locs) (cells := cu) (slots := su) (g := F0 m pc ls ((As.reverse ++ st).map (trV ad))) (As := As.map (trV ad)) (rest := st.map (trV ad)) ⟨C.1, C.2.1, C.2.2.2.1, C.2.2.2.2.1, ht⟩ hM ⟨cb, ht _ hst, trivial⟩ ⟨PW_blind, fun U hU hW => ⟨rfl, PW_of C X hU hW⟩⟩ rfl (by rw [List.length_map]; exact hna) L.1 (by show (As.reverse ++ st).map (trV ad) = _; rw [List.map_append, List.map_reverse]) (lv_room (by rw [sum_cat]; exact hcat)) hd hR.2
  exact ga_back C X L ex hrun hw k
theorem gc_SN {y' : MethodName} {cc' : ByteArray} {nL' idx na d : Nat} {ret' : Option FieldType} (pc' : Nat) (As st : List Value) (hcw : CWN y.cls idx y' cc' nL' ret' na) (hst : Cond.static y' ∈ gt) (hd : decode cc pc = .ok (.invokestatic idx, 3)) (h1 : d + 1 ≤ R.frames) (h2 : 19 + nL' + 60 * d ≤ R.locals) (h3 : cu ≤ R.cells) (h4 : su ≤ R.slots) (hcat : (st.map fun v => v.category).sum ≤ 8) (hna : As.length = na) (hen : (enA As).length ≤ nL')
    (hct : CT y' cc' nL' ret' (rmD d) As hp n (fun v hp' n' => n' = n ∧ G y cc nL ret R sc Q cu su pc' vs (v.toList ++ st) hp' n')) (e : pc + 3 = pc' := by rfl) : G y cc nL ret R sc Q cu su pc vs (As.reverse ++ st) hp n :=
  ga_SN hcw hst hct (CR0 h1 h2 h3 h4) hcat hna hen hd (fun _ _ _ q => Or.inl q.1) (fun _ _ _ q _ => q.2) e
theorem g_flen {pc' : Nat} (hd : decode cc pc = .ok (.arraylength, 1)) (k : G y cc nL ret R sc Q cu su pc' vs (.int (nI 6) :: st) hp n) (e : pc + 1 = pc' := by rfl) : G y cc nL ret R sc Q cu su pc vs (.ref xF :: st) hp n := by
  subst e
  intro p l e s m args below meth c D dA A tF b Z ad H locs ls C X L ex
  have hT := C.2.2.2.2.2.2.2.2.2.2.1.2
  rw [← X.2.2.2.1] at hT
  exact va_tlen C.1 C.2.1 hT X.2.2.1 rfl hd (k p l e s m args below meth c D dA A tF b Z ad H locs ls C X L ex)
theorem g_alenJ {pc' a N : Nat} {f : Nat → Int64} (hd : decode cc pc = .ok (.arraylength, 1)) (ha : a < n) (he : hp a = aJ N f) (k : G y cc nL ret R sc Q cu su pc' vs (.int (nI N) :: st) hp n) (e : pc + 1 = pc' := by rfl) : G y cc nL ret R sc Q cu su pc vs (.ref a :: st) hp n := g_alen hd ha he (by decide) k e
end GSN
theorem IX_of {i : Int32} {j N : Nat} (h : IX i j N) : j < N ∧ j < 2 ^ 31 ∧ i = nI j := by
  obtain ⟨h1, h2⟩ := h
  obtain ⟨v, hv, e⟩ := nI_of (x := i) (fun q => h1 (Or.inl q))
  have h3 : i.toNatClampNeg < N := Nat.not_le.mp fun q => h1 (Or.inr q)
  rw [h2] at h3
  have h4 : v = j := by rw [← h2, e, nI_clamp hv]
  rw [h4] at hv e
  exact ⟨h3, hv, e⟩
theorem c_at {hp : AH} {n a N j : Nat} {f : Nat → Int32} {i x : Int32} {Q : Option Value → AH → Nat → Prop} (ha : a < n) (he : hp a = aI N f) (hN : N < 2 ^ 31) (hi : IX i j N) (hx : f j = x) (hq : Q (some (.int x)) hp n) : CT yX7_at cX7_at 2 (some .int) (rmD 0) [.ref a, .int i] hp n Q := by
  obtain ⟨h1, h2, rfl⟩ := IX_of hi
  show G yX7_at cX7_at 2 (some .int) (rmD 0) none Q 0 0 0 [.ref a, .int (nI j)] [] hp n
  refine g_iload_n (pc' := 1) dX7_at_0 rfl rfl ?_
  refine g_if_ltN (tgt := 16) (pc' := 4) dX7_at_1 (by decide) (by first | omega | decide) (fun z1 => ?_) (fun z1 => ?_)
  · exact z1.elim
  · refine g_iload_n (pc' := 5) dX7_at_4 rfl rfl ?_
    refine g_aload_n (pc' := 6) dX7_at_5 rfl rfl ?_
    refine g_alen (pc' := 7) dX7_at_6 (by omega) (by first | assumption | exact va_up_self _ _ _ | exact (va_up_ne _ _ (by first | decide | omega)).trans (by assumption) | exact (va_up_ne _ _ (by first | decide | omega)).trans (va_up_self _ _ _) | exact (va_up_ne _ _ (by first | decide | omega)).trans ((va_up_ne _ _ (by first | decide | omega)).trans (by assumption)) | exact (va_up_ne _ _ (by first | decide | omega)).trans ((va_up_ne _ _ (by first | decide | omega)).trans (va_up_self _ _ _)) | exact (va_up_ne _ _ (by first | decide | omega)).trans ((va_up_ne _ _ (by first | decide | omega)).trans ((va_up_ne _ _ (by first | decide | omega)).trans (by assumption))) | exact (va_up_ne _ _ (by first | decide | omega)).trans ((va_up_ne _ _ (by first | decide | omega)).trans ((va_up_ne _ _ (by first | decide | omega)).trans ((va_up_ne _ _ (by first | decide | omega)).trans (by assumption)))) | exact rfl) (by decide) ?_
    show G yX7_at cX7_at 2 (some .int) (rmD 0) none Q 0 0 7 [.ref a, .int (nI j)] [.int (nI N), .int (nI j)] hp n
    refine g_icmp_geN (tgt := 16) (pc' := 10) dX7_at_7 (by decide) (by first | omega | decide) (by first | omega | decide) (fun z2 => ?_) (fun z2 => ?_)
    · exact absurd z2 (Nat.not_le.mpr h1)
    · refine g_aload_n (pc' := 11) dX7_at_10 rfl rfl ?_
      refine g_iload_n (pc' := 12) dX7_at_11 rfl rfl ?_
      refine g_ialdV (pc' := 13) dX7_at_12 (by omega) (by first | assumption | exact va_up_self _ _ _ | exact (va_up_ne _ _ (by first | decide | omega)).trans (by assumption) | exact (va_up_ne _ _ (by first | decide | omega)).trans (va_up_self _ _ _) | exact (va_up_ne _ _ (by first | decide | omega)).trans ((va_up_ne _ _ (by first | decide | omega)).trans (by assumption)) | exact (va_up_ne _ _ (by first | decide | omega)).trans ((va_up_ne _ _ (by first | decide | omega)).trans (va_up_self _ _ _)) | exact (va_up_ne _ _ (by first | decide | omega)).trans ((va_up_ne _ _ (by first | decide | omega)).trans ((va_up_ne _ _ (by first | decide | omega)).trans (by assumption))) | exact (va_up_ne _ _ (by first | decide | omega)).trans ((va_up_ne _ _ (by first | decide | omega)).trans ((va_up_ne _ _ (by first | decide | omega)).trans ((va_up_ne _ _ (by first | decide | omega)).trans (by assumption)))) | exact rfl) (hi) (hx) ?_
      refine g_goto (tgt := 17) dX7_at_13 (by decide) ?_
      exact g_iret dX7_at_17 rfl (Nat.le_refl _) (Nat.le_refl _) hq
theorem c_atL {hp : AH} {n a N j : Nat} {f : Nat → Int64} {i : Int32} {x : Int64} {Q : Option Value → AH → Nat → Prop} (ha : a < n) (he : hp a = aJ N f) (hN : N < 2 ^ 31) (hi : IX i j N) (hx : f j = x) (hq : Q (some (.long x)) hp n) : CT yX7_at_ cX7_at_ 2 (some .long) (rmD 0) [.ref a, .int i] hp n Q := by
  obtain ⟨h1, h2, rfl⟩ := IX_of hi
  show G yX7_at_ cX7_at_ 2 (some .long) (rmD 0) none Q 0 0 0 [.ref a, .int (nI j)] [] hp n
  refine g_iload_n (pc' := 1) dX7_at__0 rfl rfl ?_
  refine g_if_ltN (tgt := 16) (pc' := 4) dX7_at__1 (by decide) (by first | omega | decide) (fun z1 => ?_) (fun z1 => ?_)
  · exact z1.elim
  · refine g_iload_n (pc' := 5) dX7_at__4 rfl rfl ?_
    refine g_aload_n (pc' := 6) dX7_at__5 rfl rfl ?_
    refine g_alen (pc' := 7) dX7_at__6 (by omega) (by first | assumption | exact va_up_self _ _ _ | exact (va_up_ne _ _ (by first | decide | omega)).trans (by assumption) | exact (va_up_ne _ _ (by first | decide | omega)).trans (va_up_self _ _ _) | exact (va_up_ne _ _ (by first | decide | omega)).trans ((va_up_ne _ _ (by first | decide | omega)).trans (by assumption)) | exact (va_up_ne _ _ (by first | decide | omega)).trans ((va_up_ne _ _ (by first | decide | omega)).trans (va_up_self _ _ _)) | exact (va_up_ne _ _ (by first | decide | omega)).trans ((va_up_ne _ _ (by first | decide | omega)).trans ((va_up_ne _ _ (by first | decide | omega)).trans (by assumption))) | exact (va_up_ne _ _ (by first | decide | omega)).trans ((va_up_ne _ _ (by first | decide | omega)).trans ((va_up_ne _ _ (by first | decide | omega)).trans ((va_up_ne _ _ (by first | decide | omega)).trans (by assumption)))) | exact rfl) (by decide) ?_
    show G yX7_at_ cX7_at_ 2 (some .long) (rmD 0) none Q 0 0 7 [.ref a, .int (nI j)] [.int (nI N), .int (nI j)] hp n
    refine g_icmp_geN (tgt := 16) (pc' := 10) dX7_at__7 (by decide) (by first | omega | decide) (by first | omega | decide) (fun z2 => ?_) (fun z2 => ?_)
    · exact absurd z2 (Nat.not_le.mpr h1)
    · refine g_aload_n (pc' := 11) dX7_at__10 rfl rfl ?_
      refine g_iload_n (pc' := 12) dX7_at__11 rfl rfl ?_
      refine g_laldV (pc' := 13) dX7_at__12 (by omega) (by first | assumption | exact va_up_self _ _ _ | exact (va_up_ne _ _ (by first | decide | omega)).trans (by assumption) | exact (va_up_ne _ _ (by first | decide | omega)).trans (va_up_self _ _ _) | exact (va_up_ne _ _ (by first | decide | omega)).trans ((va_up_ne _ _ (by first | decide | omega)).trans (by assumption)) | exact (va_up_ne _ _ (by first | decide | omega)).trans ((va_up_ne _ _ (by first | decide | omega)).trans (va_up_self _ _ _)) | exact (va_up_ne _ _ (by first | decide | omega)).trans ((va_up_ne _ _ (by first | decide | omega)).trans ((va_up_ne _ _ (by first | decide | omega)).trans (by assumption))) | exact (va_up_ne _ _ (by first | decide | omega)).trans ((va_up_ne _ _ (by first | decide | omega)).trans ((va_up_ne _ _ (by first | decide | omega)).trans ((va_up_ne _ _ (by first | decide | omega)).trans (by assumption)))) | exact rfl) (hi) (hx) ?_
      refine g_goto (tgt := 17) dX7_at__13 (by decide) ?_
      exact g_lret dX7_at__17 rfl (Nat.le_refl _) (Nat.le_refl _) hq
theorem c_atF {hp : AH} {n j : Nat} {i x : Int32} {Q : Option Value → AH → Nat → Prop} (hi : IX i j 6) (hx : facV j = .int x) (hq : Q (some (.int x)) hp n) : CT yX7_at cX7_at 2 (some .int) (rmD 0) [.ref xF, .int i] hp n Q := by
  obtain ⟨h1, h2, rfl⟩ := IX_of hi
  show G yX7_at cX7_at 2 (some .int) (rmD 0) none Q 0 0 0 [.ref xF, .int (nI j)] [] hp n
  refine g_iload_n (pc' := 1) dX7_at_0 rfl rfl ?_
  refine g_if_ltN (tgt := 16) (pc' := 4) dX7_at_1 (by decide) (by first | omega | decide) (fun z1 => ?_) (fun z1 => ?_)
  · exact z1.elim
  · refine g_iload_n (pc' := 5) dX7_at_4 rfl rfl ?_
    refine g_aload_n (pc' := 6) dX7_at_5 rfl rfl ?_
    refine g_flen (pc' := 7) dX7_at_6 ?_
    refine g_icmp_geN (tgt := 16) (pc' := 10) dX7_at_7 (by decide) (by first | omega | decide) (by first | omega | decide) (fun z2 => ?_) (fun z2 => ?_)
    · omega
    · refine g_aload_n (pc' := 11) dX7_at_10 rfl rfl ?_
      refine g_iload_n (pc' := 12) dX7_at_11 rfl rfl ?_
      refine g_fac (pc' := 13) dX7_at_12 hi hx ?_
      refine g_goto (tgt := 17) dX7_at_13 (by decide) ?_
      exact g_iret dX7_at_17 rfl (Nat.le_refl _) (Nat.le_refl _) hq
section GAT
variable {y : MethodName} {cc : ByteArray} {nL : Nat} {ret : Option FieldType} {R : Room} {sc : SC} {Q : Option Value → AH → Nat → Prop} {cu su pc : Nat} {vs st : List Value} {hp : AH} {n : Nat} {pc' idx a N j : Nat} {i : Int32}
theorem g_atI {f : Nat → Int32} {x : Int32} (hcw : CW y.cls idx yX7_at cX7_at 2 (some .int) 2) (hd : decode cc pc = .ok (.invokestatic idx, 3)) (h1 : 1 ≤ R.frames) (h2 : 21 ≤ R.locals) (h3 : cu ≤ R.cells) (h4 : su ≤ R.slots) (hcat : (st.map fun v => v.category).sum ≤ 8) (ha : a < n) (he : hp a = aI N f) (hN : N < 2 ^ 31) (hi : IX i j N) (hx : f j = x) (k : G y cc nL ret R sc Q cu su pc' vs (.int x :: st) hp n) (e : pc + 3 = pc' := by rfl) : G y cc nL ret R sc Q cu su pc vs (.int i :: .ref a :: st) hp n :=
  gc_S pc' [.ref a, .int i] st hcw sm_X7_at hd h1 h2 h3 h4 hcat rfl (Nat.le_of_ble_eq_true rfl) (c_at ha he hN hi hx ⟨rfl, k⟩) e
theorem g_atIN {f : Nat → Int32} {x : Int32} (hcw : CWN y.cls idx yX7_at cX7_at 2 (some .int) 2) (hd : decode cc pc = .ok (.invokestatic idx, 3)) (h1 : 1 ≤ R.frames) (h2 : 21 ≤ R.locals) (h3 : cu ≤ R.cells) (h4 : su ≤ R.slots) (hcat : (st.map fun v => v.category).sum ≤ 8) (ha : a < n) (he : hp a = aI N f) (hN : N < 2 ^ 31) (hi : IX i j N) (hx : f j = x) (k : G y cc nL ret R sc Q cu su pc' vs (.int x :: st) hp n) (e : pc + 3 = pc' := by rfl) : G y cc nL ret R sc Q cu su pc vs (.int i :: .ref a :: st) hp n :=
  gc_SN pc' [.ref a, .int i] st hcw sm_X7_at hd h1 h2 h3 h4 hcat rfl (Nat.le_of_ble_eq_true rfl) (c_at ha he hN hi hx ⟨rfl, k⟩) e
theorem g_atJ {f : Nat → Int64} {x : Int64} (hcw : CW y.cls idx yX7_at_ cX7_at_ 2 (some .long) 2) (hd : decode cc pc = .ok (.invokestatic idx, 3)) (h1 : 1 ≤ R.frames) (h2 : 21 ≤ R.locals) (h3 : cu ≤ R.cells) (h4 : su ≤ R.slots) (hcat : (st.map fun v => v.category).sum ≤ 8) (ha : a < n) (he : hp a = aJ N f) (hN : N < 2 ^ 31) (hi : IX i j N) (hx : f j = x) (k : G y cc nL ret R sc Q cu su pc' vs (.long x :: st) hp n) (e : pc + 3 = pc' := by rfl) : G y cc nL ret R sc Q cu su pc vs (.int i :: .ref a :: st) hp n :=
  gc_S pc' [.ref a, .int i] st hcw sm_X7_at_ hd h1 h2 h3 h4 hcat rfl (Nat.le_of_ble_eq_true rfl) (c_atL ha he hN hi hx ⟨rfl, k⟩) e
theorem g_atJN {f : Nat → Int64} {x : Int64} (hcw : CWN y.cls idx yX7_at_ cX7_at_ 2 (some .long) 2) (hd : decode cc pc = .ok (.invokestatic idx, 3)) (h1 : 1 ≤ R.frames) (h2 : 21 ≤ R.locals) (h3 : cu ≤ R.cells) (h4 : su ≤ R.slots) (hcat : (st.map fun v => v.category).sum ≤ 8) (ha : a < n) (he : hp a = aJ N f) (hN : N < 2 ^ 31) (hi : IX i j N) (hx : f j = x) (k : G y cc nL ret R sc Q cu su pc' vs (.long x :: st) hp n) (e : pc + 3 = pc' := by rfl) : G y cc nL ret R sc Q cu su pc vs (.int i :: .ref a :: st) hp n :=
  gc_SN pc' [.ref a, .int i] st hcw sm_X7_at_ hd h1 h2 h3 h4 hcat rfl (Nat.le_of_ble_eq_true rfl) (c_atL ha he hN hi hx ⟨rfl, k⟩) e
theorem g_atFN {x : Int32} (hcw : CWN y.cls idx yX7_at cX7_at 2 (some .int) 2) (hd : decode cc pc = .ok (.invokestatic idx, 3)) (h1 : 1 ≤ R.frames) (h2 : 21 ≤ R.locals) (h3 : cu ≤ R.cells) (h4 : su ≤ R.slots) (hcat : (st.map fun v => v.category).sum ≤ 8) (hi : IX i j 6) (hx : facV j = .int x) (k : G y cc nL ret R sc Q cu su pc' vs (.int x :: st) hp n) (e : pc + 3 = pc' := by rfl) : G y cc nL ret R sc Q cu su pc vs (.int i :: .ref xF :: st) hp n :=
  gc_SN pc' [.ref xF, .int i] st hcw sm_X7_at hd h1 h2 h3 h4 hcat rfl (Nat.le_of_ble_eq_true rfl) (c_atF hi hx ⟨rfl, k⟩) e
end GAT
