def bI (b : Bool) : Nat := if b then 1 else 0
theorem bI_le (b : Bool) : bI b ≤ 1 := by cases b <;> decide
theorem cf_le (k : Nat) : ∀ f v, cf k f v ≤ f
  | 0, _ => Nat.le_refl 0
  | f + 1, v => by
    unfold cf
    have := cf_le k f (v / 10)
    split
    · omega
    · split <;> omega
theorem fg_le : ∀ f v, fg f v ≤ f
  | 0, _ => Nat.le_refl 0
  | f + 1, v => by
    unfold fg
    have := fg_le f (v / 10)
    split <;> omega
theorem sh_le (S h s : Nat) : sh S h s ≤ 5 := cf_le _ _ _
theorem sz_le (S h : Nat) : sz S h ≤ 5 := fg_le _ _
theorem al_false {p : Nat → Bool} {i : Nat} (h : al p i = false) : ∀ k, al p (i + k) = false
  | 0 => h
  | k + 1 => by
    show (p (i + k) && al p (i + k)) = false
    rw [al_false h k, Bool.and_false]
/-- the reference's own cell: what never changes in a game, and where its rows lie -/
def MF (fs : List Value) (D S T R : Nat) : Prop := fs.length = 32 ∧ fs[0]? = some (.int (nI D)) ∧ fs[1]? = some (.int (nI S)) ∧ fs[2]? = some (.int (nI T)) ∧ fs[3]? = some (.int (nI R)) ∧ fs[4]? = some (.ref 48) ∧ fs[5]? = some (.ref 49) ∧ fs[6]? = some (.ref 50) ∧ fs[9]? = some (.ref 51) ∧ fs[10]? = some (.ref 52) ∧ fs[11]? = some (.ref 53) ∧ fs[12]? = some (.ref 54) ∧ fs[13]? = some (.ref 55) ∧ fs[16]? = some (.ref 56) ∧ fs[24]? = some (.ref 57) ∧ fs[25]? = some (.ref 58) ∧ fs[26]? = some (.ref 59) ∧ fs[27]? = some (.ref 60) ∧ fs[28]? = some (.ref 61) ∧ fs[29]? = some (.ref 62) ∧ fs[30]? = some (.ref 63)
theorem c_in {hp : AH} {n : Nat} {v a b : Int32} {Q : Option Value → AH → Nat → Prop} (hq : Q (some (.int (nI (bI (decide (a ≤ v) && decide (v ≤ b)))))) hp n) : CT yX8_in cX8_in 3 (some .boolean) (rmD 0) [.int v, .int a, .int b] hp n Q := by
  show G yX8_in cX8_in 3 (some .boolean) (rmD 0) none Q 0 0 0 [.int v, .int a, .int b] [] hp n
  refine g_iload_n (pc' := 1) dX8_in_0 rfl rfl ?_
  refine g_iload_n (pc' := 2) dX8_in_1 rfl rfl ?_
  refine g_icmp_lt (tgt := 14) (pc' := 5) dX8_in_2 (by decide) (fun h1 => ?_) (fun h1 => ?_)
  · refine g_iconst (pc' := 15) (v := nI 0) dX8_in_14 (by decide) ?_
    have e : (decide (a ≤ v) && decide (v ≤ b)) = false := by
      rw [decide_eq_false (by intro h; exact absurd h1 (by rw [Int32.not_lt]; exact h)), Bool.false_and]
    rw [e] at hq
    exact g_zret dX8_in_15 rfl (by decide) (Nat.le_refl _) (Nat.le_refl _) hq
  · have h1' : a ≤ v := Int32.not_lt.mp h1
    refine g_iload_n (pc' := 6) dX8_in_5 rfl rfl ?_
    refine g_iload_n (pc' := 7) dX8_in_6 rfl rfl ?_
    refine g_icmp_gt (tgt := 14) (pc' := 10) dX8_in_7 (by decide) (fun h2 => ?_) (fun h2 => ?_)
    · refine g_iconst (pc' := 15) (v := nI 0) dX8_in_14 (by decide) ?_
      have e : (decide (a ≤ v) && decide (v ≤ b)) = false := by
        rw [decide_eq_false (p := v ≤ b) (by intro h; exact absurd h2 (by rw [Int32.not_lt]; exact h)), Bool.and_false]
      rw [e] at hq
      exact g_zret dX8_in_15 rfl (by decide) (Nat.le_refl _) (Nat.le_refl _) hq
    · have h2' : v ≤ b := Int32.not_lt.mp h2
      refine g_iconst (pc' := 11) (v := nI 1) dX8_in_10 (by decide) ?_
      refine g_goto (tgt := 15) dX8_in_11 (by decide) ?_
      rw [decide_eq_true h1', decide_eq_true h2'] at hq
      exact g_zret dX8_in_15 rfl (by decide) (Nat.le_refl _) (Nat.le_refl _) hq
theorem nar_b (b : Bool) : narrow .boolean (.int (nI (bI b))) = .int (nI (bI b)) := by cases b <;> decide
theorem c_isPart {hp : AH} {n D S T R g h : Nat} {fs : List Value} {fsh : Nat → Int32} {Q : Option Value → AH → Nat → Prop} (hn : 64 ≤ n) (c47 : hp 47 = ob 8 fs) (F : MF fs D S T R) (c51 : hp 51 = aI 2772 fsh) (hg : g < 462) (hh : h < 462) (hsg : ∀ k, k < 6 → fsh (6 * g + k) = nI (sh S g k)) (hsh : ∀ k, k < 6 → fsh (6 * h + k) = nI (sh S h k)) (hq : Q (some (.int (nI (bI (ptb S g h))))) hp n) : CT yX8_isPart cX8_isPart 5 (some .boolean) (rmD 0) [.ref 47, .int (nI g), .int (nI h)] hp n Q := by
  obtain ⟨f99, f0, f1, f2, f3, f4, f5, f6, f9, f10, f11, f12, f13, f16, f24, f25, f26, f27, f28, f29, f30⟩ := F
  show G yX8_isPart cX8_isPart 5 (some .boolean) (rmD 0) none Q 0 0 0 [.ref 47, .int (nI g), .int (nI h), uu, uu] [] hp n
  refine g_iconst (pc' := 1) (v := nI 1) dX8_isPart_0 (by decide) ?_
  refine g_istore_n (pc' := 2) dX8_isPart_1 rfl (by decide) ?_
  refine g_iconst (pc' := 3) (v := nI 0) dX8_isPart_2 (by decide) ?_
  refine g_istore (pc' := 5) dX8_isPart_3 (by decide) ?_
  have loop : ∀ k i, i + k = 6 → G yX8_isPart cX8_isPart 5 (some .boolean) (rmD 0) none Q 0 0 5 [.ref 47, .int (nI g), .int (nI h), .int (nI (bI (al (fun k => decide (sh S g k ≤ sh S h k)) i))), .int (nI i)] [] hp n := by
    intro k
    induction k with
    | zero =>
      intro i hi
      have hi' : i = 6 := by omega
      subst hi'
      refine g_iload (pc' := 7) dX8_isPart_5 rfl ?_
      refine g_bipush (pc' := 9) (v := nI 6) dX8_isPart_7 (by decide) ?_
      refine g_icmp_geN (tgt := 55) (pc' := 12) dX8_isPart_9 (by decide) (by first | omega | decide) (by first | omega | decide) (fun hb => ?_) (fun hb => ?_)
      · refine g_iload_n (pc' := 56) dX8_isPart_55 rfl rfl ?_
        exact g_zret dX8_isPart_56 rfl (nar_b _) (Nat.le_refl _) (Nat.le_refl _) hq
      · omega
    | succ k ih =>
      intro i hi
      refine g_iload (pc' := 7) dX8_isPart_5 rfl ?_
      refine g_bipush (pc' := 9) (v := nI 6) dX8_isPart_7 (by decide) ?_
      refine g_icmp_geN (tgt := 55) (pc' := 12) dX8_isPart_9 (by decide) (by first | omega | decide) (by first | omega | decide) (fun hb => ?_) (fun hb => ?_)
      · omega
      · have hbl := bI_le (al (fun k => decide (sh S g k ≤ sh S h k)) i)
        refine g_iload_n (pc' := 13) dX8_isPart_12 rfl rfl ?_
        refine g_if_eqN (tgt := 55) (pc' := 16) dX8_isPart_13 (by decide) (by first | omega | decide) (fun hc => ?_) (fun hc => ?_)
        · refine g_iload_n (pc' := 56) dX8_isPart_55 rfl rfl ?_
          have e0 : al (fun k => decide (sh S g k ≤ sh S h k)) i = false := by
            cases hx : al (fun k => decide (sh S g k ≤ sh S h k)) i with
            | false => rfl
            | true => rw [hx] at hc; exact absurd hc (by decide)
          have e1 : ptb S g h = false := by
            have := al_false e0 (k + 1)
            rw [hi] at this
            exact this
          rw [e0]
          rw [e1] at hq
          exact g_zret dX8_isPart_56 rfl (nar_b _) (Nat.le_refl _) (Nat.le_refl _) hq
        · have e0 : al (fun k => decide (sh S g k ≤ sh S h k)) i = true := by
            cases hx : al (fun k => decide (sh S g k ≤ sh S h k)) i with
            | true => rfl
            | false => rw [hx] at hc; exact absurd rfl hc
          have s1 := sh_le S g i
          have s2 := sh_le S h i
          refine g_aload_n (pc' := 17) dX8_isPart_16 rfl rfl ?_
          refine g_get (pc' := 20) fl_X8_29 dX8_isPart_17 (by omega) (by first | assumption | exact va_up_self _ _ _ | exact (va_up_ne _ _ (by decide)).trans (by assumption) | exact (va_up_ne _ _ (by decide)).trans (va_up_self _ _ _) | exact (va_up_ne _ _ (by decide)).trans ((va_up_ne _ _ (by decide)).trans (by assumption)) | exact (va_up_ne _ _ (by decide)).trans ((va_up_ne _ _ (by decide)).trans (va_up_self _ _ _)) | exact (va_up_ne _ _ (by decide)).trans ((va_up_ne _ _ (by decide)).trans ((va_up_ne _ _ (by decide)).trans (by assumption))) | exact (va_up_ne _ _ (by decide)).trans ((va_up_ne _ _ (by decide)).trans ((va_up_ne _ _ (by decide)).trans ((va_up_ne _ _ (by decide)).trans (by assumption)))) | exact rfl) (by first | assumption | rfl | exact (List.getElem?_set_ne (by decide)).trans (by assumption) | exact List.getElem?_set_self (by omega)) ?_
          refine g_bipush (pc' := 22) (v := nI 6) dX8_isPart_20 (by decide) ?_
          refine g_iload_n (pc' := 23) dX8_isPart_22 rfl rfl ?_
          first | refine g_imulN (pc' := 24) dX8_isPart_23 ?_ | refine g_imul (pc' := 24) dX8_isPart_23 ?_
          refine g_iload (pc' := 26) dX8_isPart_24 rfl ?_
          first | refine g_iaddN (pc' := 27) dX8_isPart_26 ?_ | refine g_iadd (pc' := 27) dX8_isPart_26 ?_
          refine g_ialdV (pc' := 28) dX8_isPart_27 (by omega) (by first | assumption | exact va_up_self _ _ _ | exact (va_up_ne _ _ (by decide)).trans (by assumption) | exact (va_up_ne _ _ (by decide)).trans (va_up_self _ _ _) | exact (va_up_ne _ _ (by decide)).trans ((va_up_ne _ _ (by decide)).trans (by assumption)) | exact (va_up_ne _ _ (by decide)).trans ((va_up_ne _ _ (by decide)).trans (va_up_self _ _ _)) | exact (va_up_ne _ _ (by decide)).trans ((va_up_ne _ _ (by decide)).trans ((va_up_ne _ _ (by decide)).trans (by assumption))) | exact (va_up_ne _ _ (by decide)).trans ((va_up_ne _ _ (by decide)).trans ((va_up_ne _ _ (by decide)).trans ((va_up_ne _ _ (by decide)).trans (by assumption)))) | exact rfl) ((IX_nI (by omega) (by omega))) (hsg _ (by omega)) ?_
          refine g_aload_n (pc' := 29) dX8_isPart_28 rfl rfl ?_
          refine g_get (pc' := 32) fl_X8_29 dX8_isPart_29 (by omega) (by first | assumption | exact va_up_self _ _ _ | exact (va_up_ne _ _ (by decide)).trans (by assumption) | exact (va_up_ne _ _ (by decide)).trans (va_up_self _ _ _) | exact (va_up_ne _ _ (by decide)).trans ((va_up_ne _ _ (by decide)).trans (by assumption)) | exact (va_up_ne _ _ (by decide)).trans ((va_up_ne _ _ (by decide)).trans (va_up_self _ _ _)) | exact (va_up_ne _ _ (by decide)).trans ((va_up_ne _ _ (by decide)).trans ((va_up_ne _ _ (by decide)).trans (by assumption))) | exact (va_up_ne _ _ (by decide)).trans ((va_up_ne _ _ (by decide)).trans ((va_up_ne _ _ (by decide)).trans ((va_up_ne _ _ (by decide)).trans (by assumption)))) | exact rfl) (by first | assumption | rfl | exact (List.getElem?_set_ne (by decide)).trans (by assumption) | exact List.getElem?_set_self (by omega)) ?_
          refine g_bipush (pc' := 34) (v := nI 6) dX8_isPart_32 (by decide) ?_
          refine g_iload_n (pc' := 35) dX8_isPart_34 rfl rfl ?_
          first | refine g_imulN (pc' := 36) dX8_isPart_35 ?_ | refine g_imul (pc' := 36) dX8_isPart_35 ?_
          refine g_iload (pc' := 38) dX8_isPart_36 rfl ?_
          first | refine g_iaddN (pc' := 39) dX8_isPart_38 ?_ | refine g_iadd (pc' := 39) dX8_isPart_38 ?_
          refine g_ialdV (pc' := 40) dX8_isPart_39 (by omega) (by first | assumption | exact va_up_self _ _ _ | exact (va_up_ne _ _ (by decide)).trans (by assumption) | exact (va_up_ne _ _ (by decide)).trans (va_up_self _ _ _) | exact (va_up_ne _ _ (by decide)).trans ((va_up_ne _ _ (by decide)).trans (by assumption)) | exact (va_up_ne _ _ (by decide)).trans ((va_up_ne _ _ (by decide)).trans (va_up_self _ _ _)) | exact (va_up_ne _ _ (by decide)).trans ((va_up_ne _ _ (by decide)).trans ((va_up_ne _ _ (by decide)).trans (by assumption))) | exact (va_up_ne _ _ (by decide)).trans ((va_up_ne _ _ (by decide)).trans ((va_up_ne _ _ (by decide)).trans ((va_up_ne _ _ (by decide)).trans (by assumption)))) | exact rfl) ((IX_nI (by omega) (by omega))) (hsh _ (by omega)) ?_
          refine g_icmp_gtN (tgt := 47) (pc' := 43) dX8_isPart_40 (by decide) (by first | omega | decide) (by first | omega | decide) (fun hd => ?_) (fun hd => ?_)
          · refine g_iconst (pc' := 48) (v := nI 0) dX8_isPart_47 (by decide) ?_
            refine g_istore_n (pc' := 49) dX8_isPart_48 rfl (by decide) ?_
            first | refine g_iincN (z := 1) (pc' := 52) dX8_isPart_49 rfl rfl (by decide) ?_ | refine g_iinc (pc' := 52) dX8_isPart_49 rfl rfl (by decide) ?_
            refine g_goto (tgt := 5) dX8_isPart_52 (by decide) ?_
            have e2 : al (fun k => decide (sh S g k ≤ sh S h k)) (i + 1) = false := by
              show (decide (sh S g i ≤ sh S h i) && _) = false
              rw [decide_eq_false (by omega), Bool.false_and]
            have := ih (i + 1) (by omega)
            rw [e2] at this
            exact this
          · refine g_iconst (pc' := 44) (v := nI 1) dX8_isPart_43 (by decide) ?_
            refine g_goto (tgt := 48) dX8_isPart_44 (by decide) ?_
            refine g_istore_n (pc' := 49) dX8_isPart_48 rfl (by decide) ?_
            first | refine g_iincN (z := 1) (pc' := 52) dX8_isPart_49 rfl rfl (by decide) ?_ | refine g_iinc (pc' := 52) dX8_isPart_49 rfl rfl (by decide) ?_
            refine g_goto (tgt := 5) dX8_isPart_52 (by decide) ?_
            have e2 : al (fun k => decide (sh S g k ≤ sh S h k)) (i + 1) = true := by
              show (decide (sh S g i ≤ sh S h i) && _) = true
              rw [decide_eq_true hd, e0]
              rfl
            have := ih (i + 1) (by omega)
            rw [e2] at this
            exact this
  exact loop 6 0 (by omega)
theorem c_unitOf {hp : AH} {n D S T R k b : Nat} {fs : List Value} {Q : Option Value → AH → Nat → Prop} (hn : 64 ≤ n) (c47 : hp 47 = ob 8 fs) (F : MF fs D S T R) (hT : T ≤ 3) (hk : k ≤ 8) (f23 : fs[23]? = some (.long (lN b))) (hq : Q (some (.long (lN (b ^ (T * k))))) hp n) : CT yX8_unitOf cX8_unitOf 2 (some .long) (rmD 1) [.ref 47, .int (nI k)] hp n Q := by
  obtain ⟨f99, f0, f1, f2, f3, f4, f5, f6, f9, f10, f11, f12, f13, f16, f24, f25, f26, f27, f28, f29, f30⟩ := F
  show G yX8_unitOf cX8_unitOf 2 (some .long) (rmD 1) none Q 0 0 0 [.ref 47, .int (nI k)] [] hp n
  have hTk : T * k < 2 ^ 31 := Nat.lt_of_le_of_lt (Nat.mul_le_mul hT hk) (by decide)
  refine g_aload_n (pc' := 1) dX8_unitOf_0 rfl rfl ?_
  refine g_aload_n (pc' := 2) dX8_unitOf_1 rfl rfl ?_
  refine g_get (pc' := 5) fl_X8_89 dX8_unitOf_2 (by omega) (by first | assumption | exact va_up_self _ _ _ | exact (va_up_ne _ _ (by decide)).trans (by assumption) | exact (va_up_ne _ _ (by decide)).trans (va_up_self _ _ _) | exact (va_up_ne _ _ (by decide)).trans ((va_up_ne _ _ (by decide)).trans (by assumption)) | exact (va_up_ne _ _ (by decide)).trans ((va_up_ne _ _ (by decide)).trans (va_up_self _ _ _)) | exact (va_up_ne _ _ (by decide)).trans ((va_up_ne _ _ (by decide)).trans ((va_up_ne _ _ (by decide)).trans (by assumption))) | exact (va_up_ne _ _ (by decide)).trans ((va_up_ne _ _ (by decide)).trans ((va_up_ne _ _ (by decide)).trans ((va_up_ne _ _ (by decide)).trans (by assumption)))) | exact rfl) (by first | assumption | rfl | exact (List.getElem?_set_ne (by decide)).trans (by assumption) | exact List.getElem?_set_self (by omega)) ?_
  refine g_aload_n (pc' := 6) dX8_unitOf_5 rfl rfl ?_
  refine g_get (pc' := 9) fl_X8_16 dX8_unitOf_6 (by omega) (by first | assumption | exact va_up_self _ _ _ | exact (va_up_ne _ _ (by decide)).trans (by assumption) | exact (va_up_ne _ _ (by decide)).trans (va_up_self _ _ _) | exact (va_up_ne _ _ (by decide)).trans ((va_up_ne _ _ (by decide)).trans (by assumption)) | exact (va_up_ne _ _ (by decide)).trans ((va_up_ne _ _ (by decide)).trans (va_up_self _ _ _)) | exact (va_up_ne _ _ (by decide)).trans ((va_up_ne _ _ (by decide)).trans ((va_up_ne _ _ (by decide)).trans (by assumption))) | exact (va_up_ne _ _ (by decide)).trans ((va_up_ne _ _ (by decide)).trans ((va_up_ne _ _ (by decide)).trans ((va_up_ne _ _ (by decide)).trans (by assumption)))) | exact rfl) (by first | assumption | rfl | exact (List.getElem?_set_ne (by decide)).trans (by assumption) | exact List.getElem?_set_self (by omega)) ?_
  refine g_iload_n (pc' := 10) dX8_unitOf_9 rfl rfl ?_
  first | refine g_imulN (pc' := 11) dX8_unitOf_10 ?_ | refine g_imul (pc' := 11) dX8_unitOf_10 ?_
  refine gc_V 14 47 [.long (lN b), .int (nI (T * k))] [] cw_X8_93 im_X8_power se_X8_power dX8_unitOf_11 (by decide) (by decide) (Nat.le_refl _) (Nat.le_refl _) (Nat.le_of_ble_eq_true rfl) rfl (Nat.le_of_ble_eq_true rfl) (by omega) (by first | assumption | exact va_up_self _ _ _ | exact (va_up_ne _ _ (by decide)).trans (by assumption) | exact (va_up_ne _ _ (by decide)).trans (va_up_self _ _ _) | exact (va_up_ne _ _ (by decide)).trans ((va_up_ne _ _ (by decide)).trans (by assumption)) | exact (va_up_ne _ _ (by decide)).trans ((va_up_ne _ _ (by decide)).trans (va_up_self _ _ _)) | exact (va_up_ne _ _ (by decide)).trans ((va_up_ne _ _ (by decide)).trans ((va_up_ne _ _ (by decide)).trans (by assumption))) | exact (va_up_ne _ _ (by decide)).trans ((va_up_ne _ _ (by decide)).trans ((va_up_ne _ _ (by decide)).trans ((va_up_ne _ _ (by decide)).trans (by assumption)))) | exact rfl) rfl rfl (c_power hTk ⟨rfl, ?_⟩)
  exact g_lret dX8_unitOf_14 rfl (Nat.le_refl _) (Nat.le_refl _) hq
