theorem set_id {fs : List Value} {k : Nat} {v : Value} (h : fs[k]? = some v) : fs.set k v = fs := by
  apply List.ext_getElem?
  intro i
  have hk : k < fs.length := (List.getElem?_eq_some_iff.mp h).1
  rw [List.getElem?_set]
  by_cases e : k = i
  · subst e
    rw [if_pos rfl, if_pos hk, h]
  · rw [if_neg e]
/-- the first of the places below i, of those with p, that has the greatest f -/
def argF (p : Nat → Bool) (f : Nat → Nat) : Nat → Option Nat
  | 0 => none
  | i + 1 => match argF p f i with
    | none => if p i then some i else none
    | some j => if p i && decide (f j < f i) then some i else some j
theorem argF_spec (p : Nat → Bool) (f : Nat → Nat) : ∀ i, match argF p f i with
    | none => (∀ r, r < i → p r = false) ∧ mxF (fun r => if p r then f r else 0) i = 0
    | some j => j < i ∧ p j = true ∧ mxF (fun r => if p r then f r else 0) i = f j
  | 0 => ⟨fun r h => absurd h (Nat.not_lt_zero r), rfl⟩
  | i + 1 => by
    have ih := argF_spec p f i
    unfold argF
    cases ha : argF p f i with
    | none =>
      rw [ha] at ih
      simp only at ih ⊢
      cases hp : p i with
      | false =>
        simp only [Bool.false_eq_true, if_false]
        refine ⟨fun r hr => ?_, ?_⟩
        · rcases Nat.lt_or_ge r i with q | q
          · exact ih.1 r q
          · have e : r = i := by omega
            subst e; exact hp
        · show max (mxF _ i) (if p i then f i else 0) = 0
          rw [ih.2, hp]; rfl
      | true =>
        simp only [if_true]
        refine ⟨Nat.lt_succ_self i, hp, ?_⟩
        show max (mxF _ i) (if p i then f i else 0) = f i
        rw [ih.2, hp]
        simp
    | some j =>
      rw [ha] at ih
      simp only at ih ⊢
      obtain ⟨h1, h2, h3⟩ := ih
      cases hp : p i with
      | false =>
        simp only [Bool.false_and, Bool.false_eq_true, if_false]
        refine ⟨by omega, h2, ?_⟩
        show max (mxF _ i) (if p i then f i else 0) = f j
        rw [h3, hp]
        simp
      | true =>
        by_cases hl : f j < f i
        · simp only [hl, decide_true, Bool.and_self, if_true]
          refine ⟨Nat.lt_succ_self i, hp, ?_⟩
          show max (mxF _ i) (if p i then f i else 0) = f i
          rw [h3, hp]
          simp only [if_true]
          omega
        · simp only [hl, decide_false, Bool.and_false, Bool.false_eq_true, if_false]
          refine ⟨by omega, h2, ?_⟩
          show max (mxF _ i) (if p i then f i else 0) = f j
          rw [h3, hp]
          simp only [if_true]
          omega
theorem opn_pos {s : Nat} : ∀ {R : Nat}, 1 ≤ opn s R → ∃ r, r < R ∧ bt0 s r = true
  | 0, h => absurd (show 1 ≤ 0 from h) (by decide)
  | R + 1, h => by
    unfold opn at h
    cases hb : bt0 s R with
    | true => exact ⟨R, Nat.lt_succ_self R, hb⟩
    | false =>
      rw [hb] at h
      obtain ⟨r, h1, h2⟩ := opn_pos (s := s) (R := R) (by simpa using h)
      exact ⟨r, by omega, h2⟩
theorem or_lt {s r : Nat} (hs : s < 256) (hr : r < 8) : s ||| 2 ^ r < 256 := Nat.or_lt_two_pow (n := 8) hs (Nat.pow_lt_pow_right (by decide) hr)
/-- points in a row and what is behind it -/
def gw (P : Nat → Nat → Nat) (U : Nat) (Wt : Nat → Nat) (s h r : Nat) : Nat := P r h * U + Wt (s ||| 2 ^ r)
def bestL : Option Nat → (Nat → Nat) → Int64
  | none, _ => -1
  | some j, f => lN (f j)
theorem lg_m1 {a : Nat} (ha : a < 2 ^ 63) : ¬ lg_cmp (lN a) (-1) ≤ 0 := by
  rw [lg_cmp_le]
  intro h
  have h1 := Int64.le_iff_toInt_le.mp h
  rw [pk_lT ha] at h1
  have : (-1 : Int64).toInt = -1 := by decide
  omega
theorem c_bestRowOf {hp : AH} {n D S T R b s h : Nat} {fs : List Value} {x0 : Int32} {fpt : Nat → Int32} {fw : Nat → Int64} {P : Nat → Nat → Nat} {Wt : Nat → Nat} {Q : Option Value → AH → Nat → Prop} (hn : 64 ≤ n) (c47 : hp 47 = ob 8 fs) (F : MF fs D S T R) (hT3 : T ≤ 3) (hR : R ≤ 8) (hs : s < 256) (hop : 1 ≤ opn s R) (f23 : fs[23]? = some (.long (lN b))) (f31 : fs[31]? = some (.int x0)) (c55 : hp 55 = aI 3696 fpt) (c58 : hp 58 = aJ 256 fw) (hh : h < 462) (hpt : ∀ r, r < R → fpt (8 * h + r) = nI (P r h)) (hP : ∀ r, r < R → P r h < 2 ^ 31) (hw : ∀ r, r < R → bt0 s r = true → fw (s ||| 2 ^ r) = lN (Wt (s ||| 2 ^ r))) (hB : ∀ r, r < R → bt0 s r = true → gw P (b ^ (T * (opn s R - 1))) Wt s h r < 2 ^ 63)
    (hq : ∀ j, argF (bt0 s) (gw P (b ^ (T * (opn s R - 1))) Wt s h) R = some j → Q (some (.long (lN (gw P (b ^ (T * (opn s R - 1))) Wt s h j)))) (va_up hp 47 (ob 8 (fs.set 31 (.int (nI j))))) n) : CT yX8_bestRowOf cX8_bestRowOf 10 (some .long) (rmD 2) [.ref 47, .int (nI h), .int (nI s)] hp n Q := by
  have F' := F
  obtain ⟨f99, f0, f1, f2, f3, f4, f5, f6, f9, f10, f11, f12, f13, f16, f24, f25, f26, f27, f28, f29, f30⟩ := F'
  have hol := opn_le s R
  show G yX8_bestRowOf cX8_bestRowOf 10 (some .long) (rmD 2) none Q 0 0 0 [.ref 47, .int (nI h), .int (nI s), uu, uu, uu, uu, uu, uu, uu] [] hp n
  refine g_aload_n (pc' := 1) dX8_bestRowOf_0 rfl rfl ?_
  refine g_aload_n (pc' := 2) dX8_bestRowOf_1 rfl rfl ?_
  refine g_iload_n (pc' := 3) dX8_bestRowOf_2 rfl rfl ?_
  refine gc_V 6 47 [.int (nI s)] [.ref 47] cw_X8_107 im_X8_open se_X8_open dX8_bestRowOf_3 (by decide) (by decide) (Nat.le_refl _) (Nat.le_refl _) (Nat.le_of_ble_eq_true rfl) rfl (Nat.le_of_ble_eq_true rfl) (by omega) (by first | assumption | exact va_up_self _ _ _ | exact (va_up_ne _ _ (by decide)).trans (by assumption) | exact (va_up_ne _ _ (by decide)).trans (va_up_self _ _ _) | exact (va_up_ne _ _ (by decide)).trans ((va_up_ne _ _ (by decide)).trans (by assumption)) | exact (va_up_ne _ _ (by decide)).trans ((va_up_ne _ _ (by decide)).trans (va_up_self _ _ _)) | exact (va_up_ne _ _ (by decide)).trans ((va_up_ne _ _ (by decide)).trans ((va_up_ne _ _ (by decide)).trans (by assumption))) | exact (va_up_ne _ _ (by decide)).trans ((va_up_ne _ _ (by decide)).trans ((va_up_ne _ _ (by decide)).trans ((va_up_ne _ _ (by decide)).trans (by assumption)))) | exact rfl) rfl rfl (c_open hn c47 f3 hR hs ⟨rfl, ?_⟩)
  refine g_iconst (pc' := 7) (v := nI 1) dX8_bestRowOf_6 (by decide) ?_
  first | refine g_isubN (pc' := 8) dX8_bestRowOf_7 (by omega) ?_ | refine g_isub (pc' := 8) dX8_bestRowOf_7 ?_
  refine gc_V 11 47 [.int (nI (opn s R - 1))] [] cw_X8_111 im_X8_unitOf se_X8_unitOf dX8_bestRowOf_8 (by decide) (by decide) (Nat.le_refl _) (Nat.le_refl _) (Nat.le_of_ble_eq_true rfl) rfl (Nat.le_of_ble_eq_true rfl) (by omega) (by first | assumption | exact va_up_self _ _ _ | exact (va_up_ne _ _ (by decide)).trans (by assumption) | exact (va_up_ne _ _ (by decide)).trans (va_up_self _ _ _) | exact (va_up_ne _ _ (by decide)).trans ((va_up_ne _ _ (by decide)).trans (by assumption)) | exact (va_up_ne _ _ (by decide)).trans ((va_up_ne _ _ (by decide)).trans (va_up_self _ _ _)) | exact (va_up_ne _ _ (by decide)).trans ((va_up_ne _ _ (by decide)).trans ((va_up_ne _ _ (by decide)).trans (by assumption))) | exact (va_up_ne _ _ (by decide)).trans ((va_up_ne _ _ (by decide)).trans ((va_up_ne _ _ (by decide)).trans ((va_up_ne _ _ (by decide)).trans (by assumption)))) | exact rfl) rfl rfl (c_unitOf hn c47 F hT3 (by omega) f23 ⟨rfl, ?_⟩)
  generalize hU : b ^ (T * (opn s R - 1)) = U at hq hB
  refine g_lstore_n (pc' := 12) dX8_bestRowOf_11 rfl (by decide) ?_
  refine g_ldc2 (pc' := 15) dX8_bestRowOf_12 kl_X8_115 ?_
  refine g_lstore (pc' := 17) dX8_bestRowOf_15 (by decide) ?_
  refine g_iconst (pc' := 18) (v := nI 0) dX8_bestRowOf_17 (by decide) ?_
  refine g_istore (pc' := 20) dX8_bestRowOf_18 (by decide) ?_
  have e0 : fs.set 31 (.int x0) = fs := set_id f31
  have loop : ∀ k i x w8 w9, i + k = R → (∀ j, argF (bt0 s) (gw P U Wt s h) i = some j → x = nI j) → G yX8_bestRowOf cX8_bestRowOf 10 (some .long) (rmD 2) none Q 0 0 20 [.ref 47, .int (nI h), .int (nI s), .long (lN U), uu, .long (bestL (argF (bt0 s) (gw P U Wt s h) i) (gw P U Wt s h)), uu, .int (nI i), w8, w9] [] (va_up hp 47 (ob 8 (fs.set 31 (.int x)))) n := by
    intro k
    induction k with
    | zero =>
      intro i x w8 w9 hi hx
      have hi' : i = R := by omega
      subst hi'
      have sp := argF_spec (bt0 s) (gw P U Wt s h) i
      refine g_iload (pc' := 22) dX8_bestRowOf_20 rfl ?_
      refine g_aload_n (pc' := 23) dX8_bestRowOf_22 rfl rfl ?_
      refine g_get (pc' := 26) fl_X8_86 dX8_bestRowOf_23 (by omega) (by first | assumption | exact va_up_self _ _ _ | exact (va_up_ne _ _ (by decide)).trans (by assumption) | exact (va_up_ne _ _ (by decide)).trans (va_up_self _ _ _) | exact (va_up_ne _ _ (by decide)).trans ((va_up_ne _ _ (by decide)).trans (by assumption)) | exact (va_up_ne _ _ (by decide)).trans ((va_up_ne _ _ (by decide)).trans (va_up_self _ _ _)) | exact (va_up_ne _ _ (by decide)).trans ((va_up_ne _ _ (by decide)).trans ((va_up_ne _ _ (by decide)).trans (by assumption))) | exact (va_up_ne _ _ (by decide)).trans ((va_up_ne _ _ (by decide)).trans ((va_up_ne _ _ (by decide)).trans ((va_up_ne _ _ (by decide)).trans (by assumption)))) | exact rfl) (by first | assumption | rfl | exact (List.getElem?_set_ne (by decide)).trans (by assumption) | exact List.getElem?_set_self (by omega)) ?_
      refine g_icmp_geN (tgt := 111) (pc' := 29) dX8_bestRowOf_26 (by decide) (by first | omega | decide) (by first | omega | decide) (fun h1 => ?_) (fun h1 => ?_)
      · refine g_lload (pc' := 113) dX8_bestRowOf_111 rfl ?_
        cases ha : argF (bt0 s) (gw P U Wt s h) i with
        | none =>
          rw [ha] at sp
          obtain ⟨r, hr1, hr2⟩ := opn_pos hop
          exact absurd (sp.1 r hr1) (by rw [hr2]; decide)
        | some j =>
          rw [hx j ha]
          exact g_lret dX8_bestRowOf_113 rfl (Nat.le_refl _) (Nat.le_refl _) (hq j ha)
      · omega
    | succ k ih =>
      intro i x w8 w9 hi hx
      have sp := argF_spec (bt0 s) (gw P U Wt s h) i
      refine g_iload (pc' := 22) dX8_bestRowOf_20 rfl ?_
      refine g_aload_n (pc' := 23) dX8_bestRowOf_22 rfl rfl ?_
      refine g_get (pc' := 26) fl_X8_86 dX8_bestRowOf_23 (by omega) (by first | assumption | exact va_up_self _ _ _ | exact (va_up_ne _ _ (by decide)).trans (by assumption) | exact (va_up_ne _ _ (by decide)).trans (va_up_self _ _ _) | exact (va_up_ne _ _ (by decide)).trans ((va_up_ne _ _ (by decide)).trans (by assumption)) | exact (va_up_ne _ _ (by decide)).trans ((va_up_ne _ _ (by decide)).trans (va_up_self _ _ _)) | exact (va_up_ne _ _ (by decide)).trans ((va_up_ne _ _ (by decide)).trans ((va_up_ne _ _ (by decide)).trans (by assumption))) | exact (va_up_ne _ _ (by decide)).trans ((va_up_ne _ _ (by decide)).trans ((va_up_ne _ _ (by decide)).trans ((va_up_ne _ _ (by decide)).trans (by assumption)))) | exact rfl) (by first | assumption | rfl | exact (List.getElem?_set_ne (by decide)).trans (by assumption) | exact List.getElem?_set_self (by omega)) ?_
      refine g_icmp_geN (tgt := 111) (pc' := 29) dX8_bestRowOf_26 (by decide) (by first | omega | decide) (by first | omega | decide) (fun h1 => ?_) (fun h1 => ?_)
      · omega
      · refine g_iload_n (pc' := 30) dX8_bestRowOf_29 rfl rfl ?_
        refine g_iload (pc' := 32) dX8_bestRowOf_30 rfl ?_
        refine g_ishr (pc' := 33) dX8_bestRowOf_32 ?_
        refine g_iconst (pc' := 34) (v := nI 1) dX8_bestRowOf_33 (by decide) ?_
        refine g_iand (pc' := 35) dX8_bestRowOf_34 ?_
        rw [sh_b (by omega) (by omega)]
        have hm2 : s / 2 ^ i % 2 < 2 := Nat.mod_lt _ (by decide)
        refine g_if_neN (tgt := 105) (pc' := 38) dX8_bestRowOf_35 (by decide) (by first | omega | decide) (fun h3 => ?_) (fun h3 => ?_)
        · first | refine g_iincN (z := 1) (pc' := 108) dX8_bestRowOf_105 rfl rfl (by decide) ?_ | refine g_iinc (pc' := 108) dX8_bestRowOf_105 rfl rfl (by decide) ?_
          refine g_goto (tgt := 20) dX8_bestRowOf_108 (by decide) ?_
          have hb0 : bt0 s i = false := by simp [bt0, h3]
          have e1 : argF (bt0 s) (gw P U Wt s h) (i + 1) = argF (bt0 s) (gw P U Wt s h) i := by
            show (match argF (bt0 s) (gw P U Wt s h) i with | none => if bt0 s i then some i else none | some j => if bt0 s i && decide (gw P U Wt s h j < gw P U Wt s h i) then some i else some j) = _
            rw [hb0]
            cases argF (bt0 s) (gw P U Wt s h) i <;> rfl
          have := ih (i + 1) x w8 w9 (by omega) (by rw [e1]; exact hx)
          rw [e1] at this
          exact this
        · have hb0 : bt0 s i = true := by simp [bt0, h3]
          have hPi := hP i (by omega)
          refine g_aload_n (pc' := 39) dX8_bestRowOf_38 rfl rfl ?_
          refine g_get (pc' := 42) fl_X8_41 dX8_bestRowOf_39 (by omega) (by first | assumption | exact va_up_self _ _ _ | exact (va_up_ne _ _ (by decide)).trans (by assumption) | exact (va_up_ne _ _ (by decide)).trans (va_up_self _ _ _) | exact (va_up_ne _ _ (by decide)).trans ((va_up_ne _ _ (by decide)).trans (by assumption)) | exact (va_up_ne _ _ (by decide)).trans ((va_up_ne _ _ (by decide)).trans (va_up_self _ _ _)) | exact (va_up_ne _ _ (by decide)).trans ((va_up_ne _ _ (by decide)).trans ((va_up_ne _ _ (by decide)).trans (by assumption))) | exact (va_up_ne _ _ (by decide)).trans ((va_up_ne _ _ (by decide)).trans ((va_up_ne _ _ (by decide)).trans ((va_up_ne _ _ (by decide)).trans (by assumption)))) | exact rfl) (by first | assumption | rfl | exact (List.getElem?_set_ne (by decide)).trans (by assumption) | exact List.getElem?_set_self (by omega)) ?_
          refine g_bipush (pc' := 44) (v := nI 8) dX8_bestRowOf_42 (by decide) ?_
          refine g_iload_n (pc' := 45) dX8_bestRowOf_44 rfl rfl ?_
          first | refine g_imulN (pc' := 46) dX8_bestRowOf_45 ?_ | refine g_imul (pc' := 46) dX8_bestRowOf_45 ?_
          refine g_iload (pc' := 48) dX8_bestRowOf_46 rfl ?_
          first | refine g_iaddN (pc' := 49) dX8_bestRowOf_48 ?_ | refine g_iadd (pc' := 49) dX8_bestRowOf_48 ?_
          refine g_ialdV (pc' := 50) dX8_bestRowOf_49 (by omega) (by first | assumption | exact va_up_self _ _ _ | exact (va_up_ne _ _ (by decide)).trans (by assumption) | exact (va_up_ne _ _ (by decide)).trans (va_up_self _ _ _) | exact (va_up_ne _ _ (by decide)).trans ((va_up_ne _ _ (by decide)).trans (by assumption)) | exact (va_up_ne _ _ (by decide)).trans ((va_up_ne _ _ (by decide)).trans (va_up_self _ _ _)) | exact (va_up_ne _ _ (by decide)).trans ((va_up_ne _ _ (by decide)).trans ((va_up_ne _ _ (by decide)).trans (by assumption))) | exact (va_up_ne _ _ (by decide)).trans ((va_up_ne _ _ (by decide)).trans ((va_up_ne _ _ (by decide)).trans ((va_up_ne _ _ (by decide)).trans (by assumption)))) | exact rfl) ((IX_nI (by omega) (by omega))) (hpt _ (by omega)) ?_
          first | refine g_i2lN (pc' := 51) dX8_bestRowOf_50 (by omega) ?_ | refine g_i2l (pc' := 51) dX8_bestRowOf_50 ?_
          refine g_lload_n (pc' := 52) dX8_bestRowOf_51 rfl rfl ?_
          first | refine g_lmulN (pc' := 53) dX8_bestRowOf_52 ?_ | refine g_lmul (pc' := 53) dX8_bestRowOf_52 ?_
          refine g_aload_n (pc' := 54) dX8_bestRowOf_53 rfl rfl ?_
          refine g_get (pc' := 57) fl_X8_51 dX8_bestRowOf_54 (by omega) (by first | assumption | exact va_up_self _ _ _ | exact (va_up_ne _ _ (by decide)).trans (by assumption) | exact (va_up_ne _ _ (by decide)).trans (va_up_self _ _ _) | exact (va_up_ne _ _ (by decide)).trans ((va_up_ne _ _ (by decide)).trans (by assumption)) | exact (va_up_ne _ _ (by decide)).trans ((va_up_ne _ _ (by decide)).trans (va_up_self _ _ _)) | exact (va_up_ne _ _ (by decide)).trans ((va_up_ne _ _ (by decide)).trans ((va_up_ne _ _ (by decide)).trans (by assumption))) | exact (va_up_ne _ _ (by decide)).trans ((va_up_ne _ _ (by decide)).trans ((va_up_ne _ _ (by decide)).trans ((va_up_ne _ _ (by decide)).trans (by assumption)))) | exact rfl) (by first | assumption | rfl | exact (List.getElem?_set_ne (by decide)).trans (by assumption) | exact List.getElem?_set_self (by omega)) ?_
          refine g_iload_n (pc' := 58) dX8_bestRowOf_57 rfl rfl ?_
          refine g_iconst (pc' := 59) (v := nI 1) dX8_bestRowOf_58 (by decide) ?_
          refine g_iload (pc' := 61) dX8_bestRowOf_59 rfl ?_
          refine g_ishl (pc' := 62) dX8_bestRowOf_61 ?_
          rw [sh_l (by omega) (by rw [Nat.one_mul]; exact Nat.lt_trans (Nat.pow_lt_pow_right (by decide) (show i < 8 by omega)) (by decide)), Nat.one_mul]
          refine g_ior (pc' := 63) dX8_bestRowOf_62 ?_
          rw [or_n]
          have hol2 := or_lt hs (show i < 8 by omega)
          refine g_laldV (pc' := 64) dX8_bestRowOf_63 (by omega) (by first | assumption | exact va_up_self _ _ _ | exact (va_up_ne _ _ (by decide)).trans (by assumption) | exact (va_up_ne _ _ (by decide)).trans (va_up_self _ _ _) | exact (va_up_ne _ _ (by decide)).trans ((va_up_ne _ _ (by decide)).trans (by assumption)) | exact (va_up_ne _ _ (by decide)).trans ((va_up_ne _ _ (by decide)).trans (va_up_self _ _ _)) | exact (va_up_ne _ _ (by decide)).trans ((va_up_ne _ _ (by decide)).trans ((va_up_ne _ _ (by decide)).trans (by assumption))) | exact (va_up_ne _ _ (by decide)).trans ((va_up_ne _ _ (by decide)).trans ((va_up_ne _ _ (by decide)).trans ((va_up_ne _ _ (by decide)).trans (by assumption)))) | exact rfl) (IX_nI hol2 (by decide)) (hw _ (by omega) hb0) ?_
          first | refine g_laddN (pc' := 65) dX8_bestRowOf_64 ?_ | refine g_ladd (pc' := 65) dX8_bestRowOf_64 ?_
          refine g_lstore (pc' := 67) dX8_bestRowOf_65 (by decide) ?_
          refine g_aload_n (pc' := 68) dX8_bestRowOf_67 rfl rfl ?_
          refine g_lload (pc' := 70) dX8_bestRowOf_68 rfl ?_
          refine g_lload (pc' := 72) dX8_bestRowOf_70 rfl ?_
          have hBi := hB i (by omega) hb0
          have ev : P i h * U + Wt (s ||| 2 ^ i) = gw P U Wt s h i := rfl
          rw [ev]
          refine g_lcmp (pc' := 73) dX8_bestRowOf_72 ?_
          have hdec : lg_cmp (lN (gw P U Wt s h i)) (bestL (argF (bt0 s) (gw P U Wt s h) i) (gw P U Wt s h)) ≤ 0 ↔ argF (bt0 s) (gw P U Wt s h) (i + 1) = argF (bt0 s) (gw P U Wt s h) i := by
            show _ ↔ (match argF (bt0 s) (gw P U Wt s h) i with | none => if bt0 s i then some i else none | some j => if bt0 s i && decide (gw P U Wt s h j < gw P U Wt s h i) then some i else some j) = _
            rw [hb0]
            cases ha : argF (bt0 s) (gw P U Wt s h) i with
            | none =>
              simp only [bestL, if_true]
              exact ⟨fun q => absurd q (lg_m1 hBi), fun q => by cases q⟩
            | some j =>
              rw [ha] at sp
              have hBj := hB j (by omega) sp.2.1
              simp only [bestL, Bool.true_and]
              rw [lg_le hBi hBj]
              by_cases hl : gw P U Wt s h j < gw P U Wt s h i
              · simp only [hl, decide_true, if_true]
                constructor
                · intro q; omega
                · intro q
                  have : i = j := Option.some.inj q
                  omega
              · simp only [hl, decide_false, Bool.false_eq_true, if_false]
                exact ⟨fun _ => trivial, fun _ => by omega⟩
          have hnew : ¬ argF (bt0 s) (gw P U Wt s h) (i + 1) = argF (bt0 s) (gw P U Wt s h) i → argF (bt0 s) (gw P U Wt s h) (i + 1) = some i := by
            show ¬ (match argF (bt0 s) (gw P U Wt s h) i with | none => if bt0 s i then some i else none | some j => if bt0 s i && decide (gw P U Wt s h j < gw P U Wt s h i) then some i else some j) = _ → (match argF (bt0 s) (gw P U Wt s h) i with | none => if bt0 s i then some i else none | some j => if bt0 s i && decide (gw P U Wt s h j < gw P U Wt s h i) then some i else some j) = some i
            rw [hb0]
            cases ha : argF (bt0 s) (gw P U Wt s h) i with
            | none => intro _; rfl
            | some j =>
              simp only [Bool.true_and]
              by_cases hl : gw P U Wt s h j < gw P U Wt s h i
              · simp [hl]
              · simp [hl]
          refine g_if_le (tgt := 81) (pc' := 76) dX8_bestRowOf_73 (by decide) (fun h7 => ?_) (fun h7 => ?_)
          · have h8 := hdec.mp h7
            refine g_aload_n (pc' := 82) dX8_bestRowOf_81 rfl rfl ?_
            refine g_get (pc' := 85) fl_X8_117 dX8_bestRowOf_82 (by omega) (by first | assumption | exact va_up_self _ _ _ | exact (va_up_ne _ _ (by decide)).trans (by assumption) | exact (va_up_ne _ _ (by decide)).trans (va_up_self _ _ _) | exact (va_up_ne _ _ (by decide)).trans ((va_up_ne _ _ (by decide)).trans (by assumption)) | exact (va_up_ne _ _ (by decide)).trans ((va_up_ne _ _ (by decide)).trans (va_up_self _ _ _)) | exact (va_up_ne _ _ (by decide)).trans ((va_up_ne _ _ (by decide)).trans ((va_up_ne _ _ (by decide)).trans (by assumption))) | exact (va_up_ne _ _ (by decide)).trans ((va_up_ne _ _ (by decide)).trans ((va_up_ne _ _ (by decide)).trans ((va_up_ne _ _ (by decide)).trans (by assumption)))) | exact rfl) (by first | assumption | rfl | exact (List.getElem?_set_ne (by decide)).trans (by assumption) | exact List.getElem?_set_self (by omega)) ?_
            refine g_put (pc' := 88) fl_X8_117 ft_8_31 dX8_bestRowOf_85 (by omega) (by first | assumption | exact va_up_self _ _ _ | exact (va_up_ne _ _ (by decide)).trans (by assumption) | exact (va_up_ne _ _ (by decide)).trans (va_up_self _ _ _) | exact (va_up_ne _ _ (by decide)).trans ((va_up_ne _ _ (by decide)).trans (by assumption)) | exact (va_up_ne _ _ (by decide)).trans ((va_up_ne _ _ (by decide)).trans (va_up_self _ _ _)) | exact (va_up_ne _ _ (by decide)).trans ((va_up_ne _ _ (by decide)).trans ((va_up_ne _ _ (by decide)).trans (by assumption))) | exact (va_up_ne _ _ (by decide)).trans ((va_up_ne _ _ (by decide)).trans ((va_up_ne _ _ (by decide)).trans ((va_up_ne _ _ (by decide)).trans (by assumption)))) | exact rfl) (by first | exact Nat.le_of_ble_eq_true rfl | omega | (simp only [List.length_set]; omega)) rfl rfl ?_
            rw [up_up, List.set_set]
            refine g_lload (pc' := 90) dX8_bestRowOf_88 rfl ?_
            refine g_lload (pc' := 92) dX8_bestRowOf_90 rfl ?_
            refine g_lcmp (pc' := 93) dX8_bestRowOf_92 ?_
            refine g_if_le (tgt := 101) (pc' := 96) dX8_bestRowOf_93 (by decide) (fun h9 => ?_) (fun h9 => ?_)
            · refine g_lload (pc' := 103) dX8_bestRowOf_101 rfl ?_
              refine g_lstore (pc' := 105) dX8_bestRowOf_103 (by decide) ?_
              first | refine g_iincN (z := 1) (pc' := 108) dX8_bestRowOf_105 rfl rfl (by decide) ?_ | refine g_iinc (pc' := 108) dX8_bestRowOf_105 rfl rfl (by decide) ?_
              refine g_goto (tgt := 20) dX8_bestRowOf_108 (by decide) ?_
              have := ih (i + 1) x (.long (lN (gw P U Wt s h i))) uu (by omega) (by rw [h8]; exact hx)
              rw [h8] at this
              exact this
            · exact absurd h7 h9
          · have h8 := hnew (fun q => h7 (hdec.mpr q))
            refine g_iload (pc' := 78) dX8_bestRowOf_76 rfl ?_
            refine g_goto (tgt := 85) dX8_bestRowOf_78 (by decide) ?_
            refine g_put (pc' := 88) fl_X8_117 ft_8_31 dX8_bestRowOf_85 (by omega) (by first | assumption | exact va_up_self _ _ _ | exact (va_up_ne _ _ (by decide)).trans (by assumption) | exact (va_up_ne _ _ (by decide)).trans (va_up_self _ _ _) | exact (va_up_ne _ _ (by decide)).trans ((va_up_ne _ _ (by decide)).trans (by assumption)) | exact (va_up_ne _ _ (by decide)).trans ((va_up_ne _ _ (by decide)).trans (va_up_self _ _ _)) | exact (va_up_ne _ _ (by decide)).trans ((va_up_ne _ _ (by decide)).trans ((va_up_ne _ _ (by decide)).trans (by assumption))) | exact (va_up_ne _ _ (by decide)).trans ((va_up_ne _ _ (by decide)).trans ((va_up_ne _ _ (by decide)).trans ((va_up_ne _ _ (by decide)).trans (by assumption)))) | exact rfl) (by first | exact Nat.le_of_ble_eq_true rfl | omega | (simp only [List.length_set]; omega)) rfl rfl ?_
            rw [up_up, List.set_set]
            refine g_lload (pc' := 90) dX8_bestRowOf_88 rfl ?_
            refine g_lload (pc' := 92) dX8_bestRowOf_90 rfl ?_
            refine g_lcmp (pc' := 93) dX8_bestRowOf_92 ?_
            refine g_if_le (tgt := 101) (pc' := 96) dX8_bestRowOf_93 (by decide) (fun h9 => ?_) (fun h9 => ?_)
            · exact absurd h9 h7
            · refine g_lload (pc' := 98) dX8_bestRowOf_96 rfl ?_
              refine g_goto (tgt := 103) dX8_bestRowOf_98 (by decide) ?_
              refine g_lstore (pc' := 105) dX8_bestRowOf_103 (by decide) ?_
              first | refine g_iincN (z := 1) (pc' := 108) dX8_bestRowOf_105 rfl rfl (by decide) ?_ | refine g_iinc (pc' := 108) dX8_bestRowOf_105 rfl rfl (by decide) ?_
              refine g_goto (tgt := 20) dX8_bestRowOf_108 (by decide) ?_
              have := ih (i + 1) (nI i) (.long (lN (gw P U Wt s h i))) uu (by omega) (fun j hj => by rw [h8] at hj; cases hj; rfl)
              rw [h8] at this
              exact this
  have := loop R 0 x0 uu uu (by omega) (fun j hj => by cases hj)
  rw [e0, up_id c47] at this
  exact this
