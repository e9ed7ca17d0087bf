/-! the reference: open, power -/
def opn (s : Nat) : Nat → Nat
  | 0 => 0
  | r + 1 => opn s r + (if bt0 s r then 1 else 0)
theorem opn_le (s : Nat) : ∀ r, opn s r ≤ r
  | 0 => Nat.le_refl 0
  | r + 1 => by
    have := opn_le s r
    unfold opn
    split <;> omega
theorem c_open {hp : AH} {n R s : Nat} {fs : List Value} {Q : Option Value → AH → Nat → Prop} (hn : 64 ≤ n) (c47 : hp 47 = ob 8 fs) (f3 : fs[3]? = some (.int (nI R))) (hR : R ≤ 8) (hs : s < 256) (hq : Q (some (.int (nI (opn s R)))) hp n) : CT yX8_open cX8_open 4 (some .int) (rmD 0) [.ref 47, .int (nI s)] hp n Q := by
  show G yX8_open cX8_open 4 (some .int) (rmD 0) none Q 0 0 0 [.ref 47, .int (nI s), uu, uu] [] hp n
  refine g_iconst (pc' := 1) (v := nI 0) dX8_open_0 (by decide) ?_
  refine g_istore_n (pc' := 2) dX8_open_1 rfl (by decide) ?_
  refine g_iconst (pc' := 3) (v := nI 0) dX8_open_2 (by decide) ?_
  refine g_istore_n (pc' := 4) dX8_open_3 rfl (by decide) ?_
  have loop : ∀ k i, i + k = R → G yX8_open cX8_open 4 (some .int) (rmD 0) none Q 0 0 4 [.ref 47, .int (nI s), .int (nI (opn s i)), .int (nI i)] [] hp n := by
    intro k
    induction k with
    | zero =>
      intro i hi
      have hi' : i = R := by omega
      subst hi'
      refine g_iload_n (pc' := 5) dX8_open_4 rfl rfl ?_
      refine g_aload_n (pc' := 6) dX8_open_5 rfl rfl ?_
      refine g_get (pc' := 9) fl_X8_86 dX8_open_6 (by omega) (by first | assumption | exact va_up_self _ _ _ | exact (va_up_ne _ _ (by decide)).trans (by assumption) | exact (va_up_ne _ _ (by decide)).trans (va_up_self _ _ _) | exact (va_up_ne _ _ (by decide)).trans ((va_up_ne _ _ (by decide)).trans (by assumption)) | exact (va_up_ne _ _ (by decide)).trans ((va_up_ne _ _ (by decide)).trans (va_up_self _ _ _)) | exact (va_up_ne _ _ (by decide)).trans ((va_up_ne _ _ (by decide)).trans ((va_up_ne _ _ (by decide)).trans (by assumption))) | exact (va_up_ne _ _ (by decide)).trans ((va_up_ne _ _ (by decide)).trans ((va_up_ne _ _ (by decide)).trans ((va_up_ne _ _ (by decide)).trans (by assumption)))) | exact rfl) (by first | assumption | rfl | exact (List.getElem?_set_ne (by decide)).trans (by assumption) | exact List.getElem?_set_self (by omega)) ?_
      refine g_icmp_geN (tgt := 34) (pc' := 12) dX8_open_9 (by decide) (by first | omega | decide) (by first | omega | decide) (fun hb => ?_) (fun hb => ?_)
      · refine g_iload_n (pc' := 35) dX8_open_34 rfl rfl ?_
        exact g_iret dX8_open_35 rfl (Nat.le_refl _) (Nat.le_refl _) hq
      · omega
    | succ k ih =>
      intro i hi
      refine g_iload_n (pc' := 5) dX8_open_4 rfl rfl ?_
      refine g_aload_n (pc' := 6) dX8_open_5 rfl rfl ?_
      refine g_get (pc' := 9) fl_X8_86 dX8_open_6 (by omega) (by first | assumption | exact va_up_self _ _ _ | exact (va_up_ne _ _ (by decide)).trans (by assumption) | exact (va_up_ne _ _ (by decide)).trans (va_up_self _ _ _) | exact (va_up_ne _ _ (by decide)).trans ((va_up_ne _ _ (by decide)).trans (by assumption)) | exact (va_up_ne _ _ (by decide)).trans ((va_up_ne _ _ (by decide)).trans (va_up_self _ _ _)) | exact (va_up_ne _ _ (by decide)).trans ((va_up_ne _ _ (by decide)).trans ((va_up_ne _ _ (by decide)).trans (by assumption))) | exact (va_up_ne _ _ (by decide)).trans ((va_up_ne _ _ (by decide)).trans ((va_up_ne _ _ (by decide)).trans ((va_up_ne _ _ (by decide)).trans (by assumption)))) | exact rfl) (by first | assumption | rfl | exact (List.getElem?_set_ne (by decide)).trans (by assumption) | exact List.getElem?_set_self (by omega)) ?_
      refine g_icmp_geN (tgt := 34) (pc' := 12) dX8_open_9 (by decide) (by first | omega | decide) (by first | omega | decide) (fun hb => ?_) (fun hb => ?_)
      · omega
      · have h1 := opn_le s i
        refine g_iload_n (pc' := 13) dX8_open_12 rfl rfl ?_
        refine g_iload_n (pc' := 14) dX8_open_13 rfl rfl ?_
        refine g_iload_n (pc' := 15) dX8_open_14 rfl rfl ?_
        refine g_ishr (pc' := 16) dX8_open_15 ?_
        refine g_iconst (pc' := 17) (v := nI 1) dX8_open_16 (by decide) ?_
        refine g_iand (pc' := 18) dX8_open_17 ?_
        rw [sh_b (by omega) (by omega)]
        refine g_if_neN (tgt := 25) (pc' := 21) dX8_open_18 (by decide) (by first | omega | decide) (fun hc => ?_) (fun hc => ?_)
        · refine g_iconst (pc' := 26) (v := nI 0) dX8_open_25 (by decide) ?_
          first | refine g_iaddN (pc' := 27) dX8_open_26 ?_ | refine g_iadd (pc' := 27) dX8_open_26 ?_
          refine g_istore_n (pc' := 28) dX8_open_27 rfl (by decide) ?_
          first | refine g_iincN (z := 1) (pc' := 31) dX8_open_28 rfl rfl (by decide) ?_ | refine g_iinc (pc' := 31) dX8_open_28 rfl rfl (by decide) ?_
          refine g_goto (tgt := 4) dX8_open_31 (by decide) ?_
          have e : opn s (i + 1) = opn s i + 0 := by simp [opn, bt0, hc]
          exact e ▸ ih (i + 1) (by omega)
        · refine g_iconst (pc' := 22) (v := nI 1) dX8_open_21 (by decide) ?_
          refine g_goto (tgt := 26) dX8_open_22 (by decide) ?_
          first | refine g_iaddN (pc' := 27) dX8_open_26 ?_ | refine g_iadd (pc' := 27) dX8_open_26 ?_
          refine g_istore_n (pc' := 28) dX8_open_27 rfl (by decide) ?_
          first | refine g_iincN (z := 1) (pc' := 31) dX8_open_28 rfl rfl (by decide) ?_ | refine g_iinc (pc' := 31) dX8_open_28 rfl rfl (by decide) ?_
          refine g_goto (tgt := 4) dX8_open_31 (by decide) ?_
          have e : opn s (i + 1) = opn s i + 1 := by simp [opn, bt0, hc]
          exact e ▸ ih (i + 1) (by omega)
  exact loop R 0 (by omega)
theorem c_power {hp : AH} {n b k fm : Nat} {Q : Option Value → AH → Nat → Prop} (hk : k < 2 ^ 31) (hq : Q (some (.long (lN (b ^ k)))) hp n) : CT yX8_power cX8_power 7 (some .long) (rmD 0) [.ref fm, .long (lN b), .int (nI k)] hp n Q := by
  show G yX8_power cX8_power 7 (some .long) (rmD 0) none Q 0 0 0 [.ref fm, .long (lN b), uu, .int (nI k), uu, uu, uu] [] hp n
  refine g_lconst (pc' := 1) (v := lN 1) dX8_power_0 (by decide) ?_
  refine g_lstore (pc' := 3) dX8_power_1 (by decide) ?_
  refine g_iconst (pc' := 4) (v := nI 0) dX8_power_3 (by decide) ?_
  refine g_istore (pc' := 6) dX8_power_4 (by decide) ?_
  have loop : ∀ j i, i + j = k → G yX8_power cX8_power 7 (some .long) (rmD 0) none Q 0 0 6 [.ref fm, .long (lN b), uu, .int (nI k), .long (lN (b ^ i)), uu, .int (nI i)] [] hp n := by
    intro j
    induction j with
    | zero =>
      intro i hi
      have hi' : i = k := by omega
      subst hi'
      refine g_iload (pc' := 8) dX8_power_6 rfl ?_
      refine g_iload_n (pc' := 9) dX8_power_8 rfl rfl ?_
      refine g_icmp_geN (tgt := 24) (pc' := 12) dX8_power_9 (by decide) (by first | omega | decide) (by first | omega | decide) (fun hb => ?_) (fun hb => ?_)
      · refine g_lload (pc' := 26) dX8_power_24 rfl ?_
        exact g_lret dX8_power_26 rfl (Nat.le_refl _) (Nat.le_refl _) hq
      · omega
    | succ j ih =>
      intro i hi
      refine g_iload (pc' := 8) dX8_power_6 rfl ?_
      refine g_iload_n (pc' := 9) dX8_power_8 rfl rfl ?_
      refine g_icmp_geN (tgt := 24) (pc' := 12) dX8_power_9 (by decide) (by first | omega | decide) (by first | omega | decide) (fun hb => ?_) (fun hb => ?_)
      · omega
      · refine g_lload (pc' := 14) dX8_power_12 rfl ?_
        refine g_lload_n (pc' := 15) dX8_power_14 rfl rfl ?_
        first | refine g_lmulN (pc' := 16) dX8_power_15 ?_ | refine g_lmul (pc' := 16) dX8_power_15 ?_
        refine g_lstore (pc' := 18) dX8_power_16 (by decide) ?_
        first | refine g_iincN (z := 1) (pc' := 21) dX8_power_18 rfl rfl (by decide) ?_ | refine g_iinc (pc' := 21) dX8_power_18 rfl rfl (by decide) ?_
        refine g_goto (tgt := 6) dX8_power_21 (by decide) ?_
        exact (Nat.pow_succ b i) ▸ ih (i + 1) (by omega)
  exact loop k 0 (by omega)
