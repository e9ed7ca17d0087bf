/-! THE CLASS: dice, row, begin, end -/
theorem inB_lt {lo hi : Nat} {x : Int32} (h : x < nI lo) : inB lo hi x = false := by
  unfold inB
  rw [decide_eq_false (fun q => absurd h (Int32.not_lt.mpr q)), Bool.false_and]
theorem inB_gt {lo hi : Nat} {x : Int32} (h : nI hi < x) : inB lo hi x = false := by
  unfold inB
  rw [decide_eq_false (p := x ≤ nI hi) (fun q => absurd h (Int32.not_lt.mpr q)), Bool.and_false]
theorem inB_in {lo hi : Nat} {x : Int32} (h1 : ¬ x < nI lo) (h2 : ¬ nI hi < x) : inB lo hi x = true := by
  unfold inB
  rw [decide_eq_true (Int32.not_lt.mp h1), decide_eq_true (Int32.not_lt.mp h2)]
  rfl
section DR
variable {hp : AH} {n D S T R s sm h k kid K : Nat} {kd nn pp fl : Nat → Nat} {bg it tt : Bool} {lu sl : Int64} {rd : Bool} {x y z : Int32} {Q : Option Value → AH → Nat → Prop}
theorem c_diceC (hn : 64 ≤ n) (X : CS hp n D S T R kd nn pp bg it tt s sm h k fl lu sl kid K rd)
    (hq0 : (inB 1 5 x && inB 2 6 y && inB 1 3 z) = false → Q (some (.int (-3))) hp n)
    (hq1 : (inB 1 5 x && inB 2 6 y && inB 1 3 z) = true → bg = true → Q (some (.int (-4))) hp n)
    (hq2 : bg = false → ∀ D' S' T', x = nI D' → y = nI S' → z = nI T' → (1 ≤ D' ∧ D' ≤ 5) → (2 ≤ S' ∧ S' ≤ 6) → (1 ≤ T' ∧ T' ≤ 3) → ∀ hp' : AH, CS hp' n D' S' T' R kd nn pp bg it tt s sm h k fl lu sl kid K rd → FRc hp hp' → Q (some (.int (nI 1))) hp' n) : CT yX7_dice cX7_dice 4 (some .int) (rmD 1) [.ref 0, .int x, .int y, .int z] hp n Q := by
  obtain ⟨c0, B, O, Gm⟩ := id X
  have no : (inB 1 5 x && inB 2 6 y && inB 1 3 z) = false → G yX7_dice cX7_dice 4 (some .int) (rmD 1) none Q 0 0 31 [.ref 0, .int x, .int y, .int z] [] hp n := by
    intro e
    refine g_bipush (pc' := 33) (v := -3) dX7_dice_31 (by decide) ?_
    exact g_iret dX7_dice_33 rfl (Nat.le_refl _) (Nat.le_refl _) (hq0 e)
  show G yX7_dice cX7_dice 4 (some .int) (rmD 1) none Q 0 0 0 [.ref 0, .int x, .int y, .int z] [] hp n
  refine g_iload_n (pc' := 1) dX7_dice_0 rfl rfl ?_
  refine g_iconst (pc' := 2) (v := nI 1) dX7_dice_1 (by decide) ?_
  refine g_icmp_lt (tgt := 31) (pc' := 5) dX7_dice_2 (by decide) (fun z1 => ?_) (fun z1 => ?_)
  · exact no (by rw [inB_lt z1]; rfl)
  · refine g_iload_n (pc' := 6) dX7_dice_5 rfl rfl ?_
    refine g_iconst (pc' := 7) (v := nI 5) dX7_dice_6 (by decide) ?_
    refine g_icmp_gt (tgt := 31) (pc' := 10) dX7_dice_7 (by decide) (fun z2 => ?_) (fun z2 => ?_)
    · exact no (by rw [inB_gt z2]; rfl)
    · have i1 : inB 1 5 x = true := inB_in z1 z2
      rw [i1, Bool.true_and] at no hq1
      refine g_iload_n (pc' := 11) dX7_dice_10 rfl rfl ?_
      refine g_iconst (pc' := 12) (v := nI 2) dX7_dice_11 (by decide) ?_
      refine g_icmp_lt (tgt := 31) (pc' := 15) dX7_dice_12 (by decide) (fun z3 => ?_) (fun z3 => ?_)
      · exact no (by rw [inB_lt z3]; rfl)
      · refine g_iload_n (pc' := 16) dX7_dice_15 rfl rfl ?_
        refine g_bipush (pc' := 18) (v := nI 6) dX7_dice_16 (by decide) ?_
        refine g_icmp_gt (tgt := 31) (pc' := 21) dX7_dice_18 (by decide) (fun z4 => ?_) (fun z4 => ?_)
        · exact no (by rw [inB_gt z4]; rfl)
        · have i2 : inB 2 6 y = true := inB_in z3 z4
          rw [i2, Bool.true_and] at no hq1
          refine g_iload_n (pc' := 22) dX7_dice_21 rfl rfl ?_
          refine g_iconst (pc' := 23) (v := nI 1) dX7_dice_22 (by decide) ?_
          refine g_icmp_lt (tgt := 31) (pc' := 26) dX7_dice_23 (by decide) (fun z5 => ?_) (fun z5 => ?_)
          · exact no (inB_lt z5)
          · refine g_iload_n (pc' := 27) dX7_dice_26 rfl rfl ?_
            refine g_iconst (pc' := 28) (v := nI 3) dX7_dice_27 (by decide) ?_
            refine g_icmp_le (tgt := 34) (pc' := 31) dX7_dice_28 (by decide) (fun z6 => ?_) (fun z6 => ?_)
            · have i3 : inB 1 3 z = true := inB_in z5 (Int32.not_lt.mpr z6)
              obtain ⟨D', d1, d2, ed⟩ := inB_t (by decide) (by decide) i1
              obtain ⟨S', s1, s2, es⟩ := inB_t (by decide) (by decide) i2
              obtain ⟨T', t1, t2, et⟩ := inB_t (by decide) (by decide) i3
              subst ed es et
              refine g_aload_n (pc' := 35) dX7_dice_34 rfl rfl ?_
              refine g_get (pc' := 38) fl_X7_58 dX7_dice_35 (by omega) (by first | assumption | exact va_up_self _ _ _ | exact (va_up_ne _ _ (by first | decide | omega)).trans (by assumption) | exact (va_up_ne _ _ (by first | decide | omega)).trans (va_up_self _ _ _) | exact (va_up_ne _ _ (by first | decide | omega)).trans ((va_up_ne _ _ (by first | decide | omega)).trans (by assumption)) | exact (va_up_ne _ _ (by first | decide | omega)).trans ((va_up_ne _ _ (by first | decide | omega)).trans (va_up_self _ _ _)) | exact (va_up_ne _ _ (by first | decide | omega)).trans ((va_up_ne _ _ (by first | decide | omega)).trans ((va_up_ne _ _ (by first | decide | omega)).trans (by assumption))) | exact (va_up_ne _ _ (by first | decide | omega)).trans ((va_up_ne _ _ (by first | decide | omega)).trans ((va_up_ne _ _ (by first | decide | omega)).trans ((va_up_ne _ _ (by first | decide | omega)).trans (by assumption)))) | exact rfl) (by first | assumption | rfl | exact (List.getElem?_set_ne (by decide)).trans (by assumption) | exact List.getElem?_set_self (by omega)) ?_
              cases bg with
              | true =>
                refine g_if_eqN (tgt := 44) (pc' := 41) dX7_dice_38 (by decide) (by first | omega | decide) (fun z7 => ?_) (fun z7 => ?_)
                · exact absurd z7 (by decide)
                · refine g_bipush (pc' := 43) (v := -4) dX7_dice_41 (by decide) ?_
                  exact g_iret dX7_dice_43 rfl (Nat.le_refl _) (Nat.le_refl _) (hq1 i3 rfl)
              | false =>
                refine g_if_eqN (tgt := 44) (pc' := 41) dX7_dice_38 (by decide) (by first | omega | decide) (fun z7 => ?_) (fun z7 => ?_)
                · refine g_aload_n (pc' := 45) dX7_dice_44 rfl rfl ?_
                  refine g_iload_n (pc' := 46) dX7_dice_45 rfl rfl ?_
                  refine g_put (pc' := 49) fl_X7_45 ft_7_5 dX7_dice_46 (by omega) (by first | assumption | exact va_up_self _ _ _ | exact (va_up_ne _ _ (by first | decide | omega)).trans (by assumption) | exact (va_up_ne _ _ (by first | decide | omega)).trans (va_up_self _ _ _) | exact (va_up_ne _ _ (by first | decide | omega)).trans ((va_up_ne _ _ (by first | decide | omega)).trans (by assumption)) | exact (va_up_ne _ _ (by first | decide | omega)).trans ((va_up_ne _ _ (by first | decide | omega)).trans (va_up_self _ _ _)) | exact (va_up_ne _ _ (by first | decide | omega)).trans ((va_up_ne _ _ (by first | decide | omega)).trans ((va_up_ne _ _ (by first | decide | omega)).trans (by assumption))) | exact (va_up_ne _ _ (by first | decide | omega)).trans ((va_up_ne _ _ (by first | decide | omega)).trans ((va_up_ne _ _ (by first | decide | omega)).trans ((va_up_ne _ _ (by first | decide | omega)).trans (by assumption)))) | exact rfl) (by first | exact Nat.le_of_ble_eq_true rfl | omega | (simp only [List.length_set]; omega)) rfl rfl ?_
                  refine g_aload_n (pc' := 50) dX7_dice_49 rfl rfl ?_
                  refine g_iload_n (pc' := 51) dX7_dice_50 rfl rfl ?_
                  refine g_put (pc' := 54) fl_X7_49 ft_7_6 dX7_dice_51 (by omega) (by first | assumption | exact va_up_self _ _ _ | exact (va_up_ne _ _ (by first | decide | omega)).trans (by assumption) | exact (va_up_ne _ _ (by first | decide | omega)).trans (va_up_self _ _ _) | exact (va_up_ne _ _ (by first | decide | omega)).trans ((va_up_ne _ _ (by first | decide | omega)).trans (by assumption)) | exact (va_up_ne _ _ (by first | decide | omega)).trans ((va_up_ne _ _ (by first | decide | omega)).trans (va_up_self _ _ _)) | exact (va_up_ne _ _ (by first | decide | omega)).trans ((va_up_ne _ _ (by first | decide | omega)).trans ((va_up_ne _ _ (by first | decide | omega)).trans (by assumption))) | exact (va_up_ne _ _ (by first | decide | omega)).trans ((va_up_ne _ _ (by first | decide | omega)).trans ((va_up_ne _ _ (by first | decide | omega)).trans ((va_up_ne _ _ (by first | decide | omega)).trans (by assumption)))) | exact rfl) (by first | exact Nat.le_of_ble_eq_true rfl | omega | (simp only [List.length_set]; omega)) rfl rfl ?_
                  rw [up_up]
                  refine g_aload_n (pc' := 55) dX7_dice_54 rfl rfl ?_
                  refine g_iload_n (pc' := 56) dX7_dice_55 rfl rfl ?_
                  refine g_put (pc' := 59) fl_X7_52 ft_7_7 dX7_dice_56 (by omega) (by first | assumption | exact va_up_self _ _ _ | exact (va_up_ne _ _ (by first | decide | omega)).trans (by assumption) | exact (va_up_ne _ _ (by first | decide | omega)).trans (va_up_self _ _ _) | exact (va_up_ne _ _ (by first | decide | omega)).trans ((va_up_ne _ _ (by first | decide | omega)).trans (by assumption)) | exact (va_up_ne _ _ (by first | decide | omega)).trans ((va_up_ne _ _ (by first | decide | omega)).trans (va_up_self _ _ _)) | exact (va_up_ne _ _ (by first | decide | omega)).trans ((va_up_ne _ _ (by first | decide | omega)).trans ((va_up_ne _ _ (by first | decide | omega)).trans (by assumption))) | exact (va_up_ne _ _ (by first | decide | omega)).trans ((va_up_ne _ _ (by first | decide | omega)).trans ((va_up_ne _ _ (by first | decide | omega)).trans ((va_up_ne _ _ (by first | decide | omega)).trans (by assumption)))) | exact rfl) (by first | exact Nat.le_of_ble_eq_true rfl | omega | (simp only [List.length_set]; omega)) rfl rfl ?_
                  rw [up_up]
                  refine g_iconst (pc' := 60) (v := nI 1) dX7_dice_59 (by decide) ?_
                  exact g_iret dX7_dice_60 rfl (Nat.le_refl _) (Nat.le_refl _) (hq2 rfl D' S' T' rfl rfl rfl ⟨d1, d2⟩ ⟨s1, s2⟩ ⟨t1, t2⟩ _ ⟨va_up_self _ _ _, CB_F (fun i hi => va_up_ne _ _ (by omega)) B, CO_of (fun i q1 q2 => va_up_ne _ _ (by omega)) O, fun q => by cases q⟩ (FRc_u (by omega)))
                · exact absurd rfl z7
            · exact no (by rw [inB_gt (Int32.not_le.mp z6)])
theorem c_rowC (hn : 64 ≤ n) (hR : R ≤ 8) (X : CS hp n D S T R kd nn pp bg it tt s sm h k fl lu sl kid K rd) (hs0 : bg = false → s = 0)
    (hq0 : (inB 0 5 x && inB 1 6 y && inB 0 30 z) = false → Q (some (.int (-3))) hp n)
    (hq1 : (inB 0 5 x && inB 1 6 y && inB 0 30 z) = true → bg = true → Q (some (.int (-4))) hp n)
    (hq3 : (inB 0 5 x && inB 1 6 y && inB 0 30 z) = true → bg = false → R = 8 → Q (some (.int (-6))) hp n)
    (hq2 : bg = false → R < 8 → ∀ a b c, x = nI a → y = nI b → z = nI c → a ≤ 5 → (1 ≤ b ∧ b ≤ 6) → c ≤ 30 → ∀ hp' : AH, CS hp' n D S T (R + 1) (va_up kd R a) (va_up nn R b) (va_up pp R c) bg it tt s sm h k fl lu sl kid K rd → FRc hp hp' → Q (some (.int (nI R))) hp' n) : CT yX7_row cX7_row 4 (some .int) (rmD 1) [.ref 0, .int x, .int y, .int z] hp n Q := by
  obtain ⟨c0, B, O, Gm⟩ := id X
  have no : (inB 0 5 x && inB 1 6 y && inB 0 30 z) = false → G yX7_row cX7_row 4 (some .int) (rmD 1) none Q 0 0 30 [.ref 0, .int x, .int y, .int z] [] hp n := by
    intro e
    refine g_bipush (pc' := 32) (v := -3) dX7_row_30 (by decide) ?_
    exact g_iret dX7_row_32 rfl (Nat.le_refl _) (Nat.le_refl _) (hq0 e)
  show G yX7_row cX7_row 4 (some .int) (rmD 1) none Q 0 0 0 [.ref 0, .int x, .int y, .int z] [] hp n
  refine g_iload_n (pc' := 1) dX7_row_0 rfl rfl ?_
  refine g_if_lt (tgt := 30) (pc' := 4) dX7_row_1 (by decide) (fun z1 => ?_) (fun z1 => ?_)
  · exact no (by rw [inB_lt (by rw [nI_0]; exact z1)]; rfl)
  · refine g_iload_n (pc' := 5) dX7_row_4 rfl rfl ?_
    refine g_iconst (pc' := 6) (v := nI 5) dX7_row_5 (by decide) ?_
    refine g_icmp_gt (tgt := 30) (pc' := 9) dX7_row_6 (by decide) (fun z2 => ?_) (fun z2 => ?_)
    · exact no (by rw [inB_gt z2]; rfl)
    · have i1 : inB 0 5 x = true := inB_in (by rw [nI_0]; exact z1) z2
      rw [i1, Bool.true_and] at no hq1 hq3
      refine g_iload_n (pc' := 10) dX7_row_9 rfl rfl ?_
      refine g_iconst (pc' := 11) (v := nI 1) dX7_row_10 (by decide) ?_
      refine g_icmp_lt (tgt := 30) (pc' := 14) dX7_row_11 (by decide) (fun z3 => ?_) (fun z3 => ?_)
      · exact no (by rw [inB_lt z3]; rfl)
      · refine g_iload_n (pc' := 15) dX7_row_14 rfl rfl ?_
        refine g_bipush (pc' := 17) (v := nI 6) dX7_row_15 (by decide) ?_
        refine g_icmp_gt (tgt := 30) (pc' := 20) dX7_row_17 (by decide) (fun z4 => ?_) (fun z4 => ?_)
        · exact no (by rw [inB_gt z4]; rfl)
        · have i2 : inB 1 6 y = true := inB_in z3 z4
          rw [i2, Bool.true_and] at no hq1 hq3
          refine g_iload_n (pc' := 21) dX7_row_20 rfl rfl ?_
          refine g_if_lt (tgt := 30) (pc' := 24) dX7_row_21 (by decide) (fun z5 => ?_) (fun z5 => ?_)
          · exact no (inB_lt (by rw [nI_0]; exact z5))
          · refine g_iload_n (pc' := 25) dX7_row_24 rfl rfl ?_
            refine g_bipush (pc' := 27) (v := nI 30) dX7_row_25 (by decide) ?_
            refine g_icmp_le (tgt := 33) (pc' := 30) dX7_row_27 (by decide) (fun z6 => ?_) (fun z6 => ?_)
            · have i3 : inB 0 30 z = true := inB_in (by rw [nI_0]; exact z5) (Int32.not_lt.mpr z6)
              obtain ⟨a, d1, d2, ed⟩ := inB_t (by decide) (by decide) i1
              obtain ⟨b, s1, s2, es⟩ := inB_t (by decide) (by decide) i2
              obtain ⟨c, t1, t2, et⟩ := inB_t (by decide) (by decide) i3
              subst ed es et
              refine g_aload_n (pc' := 34) dX7_row_33 rfl rfl ?_
              refine g_get (pc' := 37) fl_X7_58 dX7_row_34 (by omega) (by first | assumption | exact va_up_self _ _ _ | exact (va_up_ne _ _ (by first | decide | omega)).trans (by assumption) | exact (va_up_ne _ _ (by first | decide | omega)).trans (va_up_self _ _ _) | exact (va_up_ne _ _ (by first | decide | omega)).trans ((va_up_ne _ _ (by first | decide | omega)).trans (by assumption)) | exact (va_up_ne _ _ (by first | decide | omega)).trans ((va_up_ne _ _ (by first | decide | omega)).trans (va_up_self _ _ _)) | exact (va_up_ne _ _ (by first | decide | omega)).trans ((va_up_ne _ _ (by first | decide | omega)).trans ((va_up_ne _ _ (by first | decide | omega)).trans (by assumption))) | exact (va_up_ne _ _ (by first | decide | omega)).trans ((va_up_ne _ _ (by first | decide | omega)).trans ((va_up_ne _ _ (by first | decide | omega)).trans ((va_up_ne _ _ (by first | decide | omega)).trans (by assumption)))) | exact rfl) (by first | assumption | rfl | exact (List.getElem?_set_ne (by decide)).trans (by assumption) | exact List.getElem?_set_self (by omega)) ?_
              cases bg with
              | true =>
                refine g_if_eqN (tgt := 43) (pc' := 40) dX7_row_37 (by decide) (by first | omega | decide) (fun z7 => ?_) (fun z7 => ?_)
                · exact absurd z7 (by decide)
                · refine g_bipush (pc' := 42) (v := -4) dX7_row_40 (by decide) ?_
                  exact g_iret dX7_row_42 rfl (Nat.le_refl _) (Nat.le_refl _) (hq1 i3 rfl)
              | false =>
                refine g_if_eqN (tgt := 43) (pc' := 40) dX7_row_37 (by decide) (by first | omega | decide) (fun z7 => ?_) (fun z7 => ?_)
                · refine g_aload_n (pc' := 44) dX7_row_43 rfl rfl ?_
                  refine g_get (pc' := 47) fl_X7_55 dX7_row_44 (by omega) (by first | assumption | exact va_up_self _ _ _ | exact (va_up_ne _ _ (by first | decide | omega)).trans (by assumption) | exact (va_up_ne _ _ (by first | decide | omega)).trans (va_up_self _ _ _) | exact (va_up_ne _ _ (by first | decide | omega)).trans ((va_up_ne _ _ (by first | decide | omega)).trans (by assumption)) | exact (va_up_ne _ _ (by first | decide | omega)).trans ((va_up_ne _ _ (by first | decide | omega)).trans (va_up_self _ _ _)) | exact (va_up_ne _ _ (by first | decide | omega)).trans ((va_up_ne _ _ (by first | decide | omega)).trans ((va_up_ne _ _ (by first | decide | omega)).trans (by assumption))) | exact (va_up_ne _ _ (by first | decide | omega)).trans ((va_up_ne _ _ (by first | decide | omega)).trans ((va_up_ne _ _ (by first | decide | omega)).trans ((va_up_ne _ _ (by first | decide | omega)).trans (by assumption)))) | exact rfl) (by first | assumption | rfl | exact (List.getElem?_set_ne (by decide)).trans (by assumption) | exact List.getElem?_set_self (by omega)) ?_
                  refine g_bipush (pc' := 49) (v := nI 8) dX7_row_47 (by decide) ?_
                  refine g_icmp_ltN (tgt := 55) (pc' := 52) dX7_row_49 (by decide) (by first | omega | decide) (by first | omega | decide) (fun z8 => ?_) (fun z8 => ?_)
                  · obtain ⟨-, -, ⟨fr, c3, hfr⟩, -⟩ := id B
                    obtain ⟨ra, rb, rc, rx, cr, -⟩ := O R z8
                    refine g_aload_n (pc' := 56) dX7_row_55 rfl rfl ?_
                    refine g_get (pc' := 59) fl_X7_18 dX7_row_56 (by omega) (by first | assumption | exact va_up_self _ _ _ | exact (va_up_ne _ _ (by first | decide | omega)).trans (by assumption) | exact (va_up_ne _ _ (by first | decide | omega)).trans (va_up_self _ _ _) | exact (va_up_ne _ _ (by first | decide | omega)).trans ((va_up_ne _ _ (by first | decide | omega)).trans (by assumption)) | exact (va_up_ne _ _ (by first | decide | omega)).trans ((va_up_ne _ _ (by first | decide | omega)).trans (va_up_self _ _ _)) | exact (va_up_ne _ _ (by first | decide | omega)).trans ((va_up_ne _ _ (by first | decide | omega)).trans ((va_up_ne _ _ (by first | decide | omega)).trans (by assumption))) | exact (va_up_ne _ _ (by first | decide | omega)).trans ((va_up_ne _ _ (by first | decide | omega)).trans ((va_up_ne _ _ (by first | decide | omega)).trans ((va_up_ne _ _ (by first | decide | omega)).trans (by assumption)))) | exact rfl) (by first | assumption | rfl | exact (List.getElem?_set_ne (by decide)).trans (by assumption) | exact List.getElem?_set_self (by omega)) ?_
                    refine g_aload_n (pc' := 60) dX7_row_59 rfl rfl ?_
                    refine g_get (pc' := 63) fl_X7_55 dX7_row_60 (by omega) (by first | assumption | exact va_up_self _ _ _ | exact (va_up_ne _ _ (by first | decide | omega)).trans (by assumption) | exact (va_up_ne _ _ (by first | decide | omega)).trans (va_up_self _ _ _) | exact (va_up_ne _ _ (by first | decide | omega)).trans ((va_up_ne _ _ (by first | decide | omega)).trans (by assumption)) | exact (va_up_ne _ _ (by first | decide | omega)).trans ((va_up_ne _ _ (by first | decide | omega)).trans (va_up_self _ _ _)) | exact (va_up_ne _ _ (by first | decide | omega)).trans ((va_up_ne _ _ (by first | decide | omega)).trans ((va_up_ne _ _ (by first | decide | omega)).trans (by assumption))) | exact (va_up_ne _ _ (by first | decide | omega)).trans ((va_up_ne _ _ (by first | decide | omega)).trans ((va_up_ne _ _ (by first | decide | omega)).trans ((va_up_ne _ _ (by first | decide | omega)).trans (by assumption)))) | exact rfl) (by first | assumption | rfl | exact (List.getElem?_set_ne (by decide)).trans (by assumption) | exact List.getElem?_set_self (by omega)) ?_
                    refine g_aaldR (pc' := 64) dX7_row_63 (by omega) (by first | assumption | exact va_up_self _ _ _ | exact (va_up_ne _ _ (by first | decide | omega)).trans (by assumption) | exact (va_up_ne _ _ (by first | decide | omega)).trans (va_up_self _ _ _) | exact (va_up_ne _ _ (by first | decide | omega)).trans ((va_up_ne _ _ (by first | decide | omega)).trans (by assumption)) | exact (va_up_ne _ _ (by first | decide | omega)).trans ((va_up_ne _ _ (by first | decide | omega)).trans (va_up_self _ _ _)) | exact (va_up_ne _ _ (by first | decide | omega)).trans ((va_up_ne _ _ (by first | decide | omega)).trans ((va_up_ne _ _ (by first | decide | omega)).trans (by assumption))) | exact (va_up_ne _ _ (by first | decide | omega)).trans ((va_up_ne _ _ (by first | decide | omega)).trans ((va_up_ne _ _ (by first | decide | omega)).trans ((va_up_ne _ _ (by first | decide | omega)).trans (by assumption)))) | exact rfl) (IX_nI (by omega) (by omega)) (hfr _ z8) ?_
                    refine g_iload_n (pc' := 65) dX7_row_64 rfl rfl ?_
                    refine g_iload_n (pc' := 66) dX7_row_65 rfl rfl ?_
                    refine g_iload_n (pc' := 67) dX7_row_66 rfl rfl ?_
                    refine gc_V 70 (39 + R) [.int (nI a), .int (nI b), .int (nI c)] [] cw_X7_88 im_X3_become se_X3_become dX7_row_67 (by decide) (by decide) (Nat.le_refl _) (Nat.le_refl _) (Nat.le_of_ble_eq_true rfl) rfl (Nat.le_of_ble_eq_true rfl) (by omega) (by first | assumption | exact va_up_self _ _ _ | exact (va_up_ne _ _ (by first | decide | omega)).trans (by assumption) | exact (va_up_ne _ _ (by first | decide | omega)).trans (va_up_self _ _ _) | exact (va_up_ne _ _ (by first | decide | omega)).trans ((va_up_ne _ _ (by first | decide | omega)).trans (by assumption)) | exact (va_up_ne _ _ (by first | decide | omega)).trans ((va_up_ne _ _ (by first | decide | omega)).trans (va_up_self _ _ _)) | exact (va_up_ne _ _ (by first | decide | omega)).trans ((va_up_ne _ _ (by first | decide | omega)).trans ((va_up_ne _ _ (by first | decide | omega)).trans (by assumption))) | exact (va_up_ne _ _ (by first | decide | omega)).trans ((va_up_ne _ _ (by first | decide | omega)).trans ((va_up_ne _ _ (by first | decide | omega)).trans ((va_up_ne _ _ (by first | decide | omega)).trans (by assumption)))) | exact rfl) rfl rfl (c_become hn (by omega) (by omega) cr ⟨rfl, ?_⟩)
                    have c0' : va_up hp (39 + R) (ob 3 [.int (nI a), .int (nI b), .int (nI c), .int rx]) 0 = ob 7 (fo (nI D) (nI S) (nI T) (nI R) (nI (bI false)) (nI s) (nI sm) lu sl (nI (bI it)) (nI h) (nI (twN D S R false it tt s h)) (nI (tlN T R false it s k))) := (va_up_ne _ _ (by omega)).trans c0
                    show G yX7_row cX7_row 4 (some .int) (rmD 1) none Q 0 0 70 [.ref 0, .int (nI a), .int (nI b), .int (nI c)] [] (va_up hp (39 + R) (ob 3 [.int (nI a), .int (nI b), .int (nI c), .int rx])) n
                    refine g_aload_n (pc' := 71) dX7_row_70 rfl rfl ?_
                    refine g_dup (pc' := 72) dX7_row_71 rfl ?_
                    refine g_get (pc' := 75) fl_X7_55 dX7_row_72 (by omega) (by first | assumption | exact va_up_self _ _ _ | exact (va_up_ne _ _ (by first | decide | omega)).trans (by assumption) | exact (va_up_ne _ _ (by first | decide | omega)).trans (va_up_self _ _ _) | exact (va_up_ne _ _ (by first | decide | omega)).trans ((va_up_ne _ _ (by first | decide | omega)).trans (by assumption)) | exact (va_up_ne _ _ (by first | decide | omega)).trans ((va_up_ne _ _ (by first | decide | omega)).trans (va_up_self _ _ _)) | exact (va_up_ne _ _ (by first | decide | omega)).trans ((va_up_ne _ _ (by first | decide | omega)).trans ((va_up_ne _ _ (by first | decide | omega)).trans (by assumption))) | exact (va_up_ne _ _ (by first | decide | omega)).trans ((va_up_ne _ _ (by first | decide | omega)).trans ((va_up_ne _ _ (by first | decide | omega)).trans ((va_up_ne _ _ (by first | decide | omega)).trans (by assumption)))) | exact rfl) (by first | assumption | rfl | exact (List.getElem?_set_ne (by decide)).trans (by assumption) | exact List.getElem?_set_self (by omega)) ?_
                    refine g_iconst (pc' := 76) (v := nI 1) dX7_row_75 (by decide) ?_
                    first | refine g_iaddN (pc' := 77) dX7_row_76 ?_ | refine g_iadd (pc' := 77) dX7_row_76 ?_
                    refine g_put (pc' := 80) fl_X7_55 ft_7_8 dX7_row_77 (by omega) (by first | assumption | exact va_up_self _ _ _ | exact (va_up_ne _ _ (by first | decide | omega)).trans (by assumption) | exact (va_up_ne _ _ (by first | decide | omega)).trans (va_up_self _ _ _) | exact (va_up_ne _ _ (by first | decide | omega)).trans ((va_up_ne _ _ (by first | decide | omega)).trans (by assumption)) | exact (va_up_ne _ _ (by first | decide | omega)).trans ((va_up_ne _ _ (by first | decide | omega)).trans (va_up_self _ _ _)) | exact (va_up_ne _ _ (by first | decide | omega)).trans ((va_up_ne _ _ (by first | decide | omega)).trans ((va_up_ne _ _ (by first | decide | omega)).trans (by assumption))) | exact (va_up_ne _ _ (by first | decide | omega)).trans ((va_up_ne _ _ (by first | decide | omega)).trans ((va_up_ne _ _ (by first | decide | omega)).trans ((va_up_ne _ _ (by first | decide | omega)).trans (by assumption)))) | exact rfl) (by first | exact Nat.le_of_ble_eq_true rfl | omega | (simp only [List.length_set]; omega)) rfl rfl ?_
                    refine g_aload_n (pc' := 81) dX7_row_80 rfl rfl ?_
                    refine g_get (pc' := 84) fl_X7_55 dX7_row_81 (by omega) (by first | assumption | exact va_up_self _ _ _ | exact (va_up_ne _ _ (by first | decide | omega)).trans (by assumption) | exact (va_up_ne _ _ (by first | decide | omega)).trans (va_up_self _ _ _) | exact (va_up_ne _ _ (by first | decide | omega)).trans ((va_up_ne _ _ (by first | decide | omega)).trans (by assumption)) | exact (va_up_ne _ _ (by first | decide | omega)).trans ((va_up_ne _ _ (by first | decide | omega)).trans (va_up_self _ _ _)) | exact (va_up_ne _ _ (by first | decide | omega)).trans ((va_up_ne _ _ (by first | decide | omega)).trans ((va_up_ne _ _ (by first | decide | omega)).trans (by assumption))) | exact (va_up_ne _ _ (by first | decide | omega)).trans ((va_up_ne _ _ (by first | decide | omega)).trans ((va_up_ne _ _ (by first | decide | omega)).trans ((va_up_ne _ _ (by first | decide | omega)).trans (by assumption)))) | exact rfl) (by first | assumption | rfl | exact (List.getElem?_set_ne (by decide)).trans (by assumption) | exact List.getElem?_set_self (by omega)) ?_
                    refine g_iconst (pc' := 85) (v := nI 1) dX7_row_84 (by decide) ?_
                    first | refine g_isubN (pc' := 86) dX7_row_85 (by omega) ?_ | refine g_isub (pc' := 86) dX7_row_85 ?_
                    rw [show R + 1 - 1 = R from rfl]
                    refine g_iret dX7_row_86 rfl (Nat.le_refl _) (Nat.le_refl _) (hq2 rfl z8 a b c rfl rfl rfl d2 ⟨s1, s2⟩ t2 _ ⟨va_up_self _ _ _, CB_F (fun i hi => (va_up_ne _ _ (by omega)).trans (va_up_ne _ _ (by omega))) B, fun j hj => ?_, fun q => by cases q⟩ (fun i q1 q2 => (va_up_ne _ _ (by omega)).trans (va_up_ne _ _ (by omega))))
                    by_cases e : j = R
                    · subst e
                      refine ⟨nI a, nI b, nI c, rx, (va_up_ne _ _ (by omega)).trans (va_up_self _ _ _), fun _ => ⟨by rw [va_up_self], by rw [va_up_self], by rw [va_up_self], fun q => ?_⟩⟩
                      rw [hs0 rfl] at q
                      simp [bt0] at q
                    · obtain ⟨a', b', c', x', q1, q2⟩ := O j hj
                      refine ⟨a', b', c', x', (va_up_ne _ _ (by omega)).trans ((va_up_ne _ _ (by omega)).trans q1), fun q => ?_⟩
                      rw [va_up_ne _ _ e, va_up_ne _ _ e, va_up_ne _ _ e]
                      exact q2 (by omega)
                  · refine g_bipush (pc' := 54) (v := -6) dX7_row_52 (by decide) ?_
                    exact g_iret dX7_row_54 rfl (Nat.le_refl _) (Nat.le_refl _) (hq3 i3 rfl (by omega))
                · exact absurd rfl z7
            · exact no (inB_gt (Int32.not_le.mp z6))
theorem c_endC (hn : 64 ≤ n) (X : CS hp n D S T R kd nn pp bg it tt s sm h k fl lu sl kid K rd)
    (hq : ∀ hp' : AH, CS hp' n D S T 0 kd nn pp false false false 0 0 0 0 fl (lN 0) (lN 0) kid K rd → FRc hp hp' → Q (some (.int (nI 1))) hp' n) : CT yX7_end cX7_end 1 (some .int) (rmD 0) [.ref 0] hp n Q := by
  obtain ⟨c0, B, O, Gm⟩ := id X
  show G yX7_end cX7_end 1 (some .int) (rmD 0) none Q 0 0 0 [.ref 0] [] hp n
  refine g_aload_n (pc' := 1) dX7_end_0 rfl rfl ?_
  refine g_iconst (pc' := 2) (v := nI 0) dX7_end_1 (by decide) ?_
  refine g_put (pc' := 5) fl_X7_58 ft_7_9 dX7_end_2 (by omega) (by first | assumption | exact va_up_self _ _ _ | exact (va_up_ne _ _ (by first | decide | omega)).trans (by assumption) | exact (va_up_ne _ _ (by first | decide | omega)).trans (va_up_self _ _ _) | exact (va_up_ne _ _ (by first | decide | omega)).trans ((va_up_ne _ _ (by first | decide | omega)).trans (by assumption)) | exact (va_up_ne _ _ (by first | decide | omega)).trans ((va_up_ne _ _ (by first | decide | omega)).trans (va_up_self _ _ _)) | exact (va_up_ne _ _ (by first | decide | omega)).trans ((va_up_ne _ _ (by first | decide | omega)).trans ((va_up_ne _ _ (by first | decide | omega)).trans (by assumption))) | exact (va_up_ne _ _ (by first | decide | omega)).trans ((va_up_ne _ _ (by first | decide | omega)).trans ((va_up_ne _ _ (by first | decide | omega)).trans ((va_up_ne _ _ (by first | decide | omega)).trans (by assumption)))) | exact rfl) (by first | exact Nat.le_of_ble_eq_true rfl | omega | (simp only [List.length_set]; omega)) rfl rfl ?_
  refine g_aload_n (pc' := 6) dX7_end_5 rfl rfl ?_
  refine g_iconst (pc' := 7) (v := nI 0) dX7_end_6 (by decide) ?_
  refine g_put (pc' := 10) fl_X7_55 ft_7_8 dX7_end_7 (by omega) (by first | assumption | exact va_up_self _ _ _ | exact (va_up_ne _ _ (by first | decide | omega)).trans (by assumption) | exact (va_up_ne _ _ (by first | decide | omega)).trans (va_up_self _ _ _) | exact (va_up_ne _ _ (by first | decide | omega)).trans ((va_up_ne _ _ (by first | decide | omega)).trans (by assumption)) | exact (va_up_ne _ _ (by first | decide | omega)).trans ((va_up_ne _ _ (by first | decide | omega)).trans (va_up_self _ _ _)) | exact (va_up_ne _ _ (by first | decide | omega)).trans ((va_up_ne _ _ (by first | decide | omega)).trans ((va_up_ne _ _ (by first | decide | omega)).trans (by assumption))) | exact (va_up_ne _ _ (by first | decide | omega)).trans ((va_up_ne _ _ (by first | decide | omega)).trans ((va_up_ne _ _ (by first | decide | omega)).trans ((va_up_ne _ _ (by first | decide | omega)).trans (by assumption)))) | exact rfl) (by first | exact Nat.le_of_ble_eq_true rfl | omega | (simp only [List.length_set]; omega)) rfl rfl ?_
  rw [up_up]
  refine g_aload_n (pc' := 11) dX7_end_10 rfl rfl ?_
  refine g_iconst (pc' := 12) (v := nI 0) dX7_end_11 (by decide) ?_
  refine g_put (pc' := 15) fl_X7_62 ft_7_10 dX7_end_12 (by omega) (by first | assumption | exact va_up_self _ _ _ | exact (va_up_ne _ _ (by first | decide | omega)).trans (by assumption) | exact (va_up_ne _ _ (by first | decide | omega)).trans (va_up_self _ _ _) | exact (va_up_ne _ _ (by first | decide | omega)).trans ((va_up_ne _ _ (by first | decide | omega)).trans (by assumption)) | exact (va_up_ne _ _ (by first | decide | omega)).trans ((va_up_ne _ _ (by first | decide | omega)).trans (va_up_self _ _ _)) | exact (va_up_ne _ _ (by first | decide | omega)).trans ((va_up_ne _ _ (by first | decide | omega)).trans ((va_up_ne _ _ (by first | decide | omega)).trans (by assumption))) | exact (va_up_ne _ _ (by first | decide | omega)).trans ((va_up_ne _ _ (by first | decide | omega)).trans ((va_up_ne _ _ (by first | decide | omega)).trans ((va_up_ne _ _ (by first | decide | omega)).trans (by assumption)))) | exact rfl) (by first | exact Nat.le_of_ble_eq_true rfl | omega | (simp only [List.length_set]; omega)) rfl rfl ?_
  rw [up_up]
  refine g_aload_n (pc' := 16) dX7_end_15 rfl rfl ?_
  refine g_iconst (pc' := 17) (v := nI 0) dX7_end_16 (by decide) ?_
  refine g_put (pc' := 20) fl_X7_65 ft_7_11 dX7_end_17 (by omega) (by first | assumption | exact va_up_self _ _ _ | exact (va_up_ne _ _ (by first | decide | omega)).trans (by assumption) | exact (va_up_ne _ _ (by first | decide | omega)).trans (va_up_self _ _ _) | exact (va_up_ne _ _ (by first | decide | omega)).trans ((va_up_ne _ _ (by first | decide | omega)).trans (by assumption)) | exact (va_up_ne _ _ (by first | decide | omega)).trans ((va_up_ne _ _ (by first | decide | omega)).trans (va_up_self _ _ _)) | exact (va_up_ne _ _ (by first | decide | omega)).trans ((va_up_ne _ _ (by first | decide | omega)).trans ((va_up_ne _ _ (by first | decide | omega)).trans (by assumption))) | exact (va_up_ne _ _ (by first | decide | omega)).trans ((va_up_ne _ _ (by first | decide | omega)).trans ((va_up_ne _ _ (by first | decide | omega)).trans ((va_up_ne _ _ (by first | decide | omega)).trans (by assumption)))) | exact rfl) (by first | exact Nat.le_of_ble_eq_true rfl | omega | (simp only [List.length_set]; omega)) rfl rfl ?_
  rw [up_up]
  refine g_aload_n (pc' := 21) dX7_end_20 rfl rfl ?_
  refine g_lconst (pc' := 22) (v := lN 0) dX7_end_21 (by decide) ?_
  refine g_put (pc' := 25) fl_X7_68 ft_7_12 dX7_end_22 (by omega) (by first | assumption | exact va_up_self _ _ _ | exact (va_up_ne _ _ (by first | decide | omega)).trans (by assumption) | exact (va_up_ne _ _ (by first | decide | omega)).trans (va_up_self _ _ _) | exact (va_up_ne _ _ (by first | decide | omega)).trans ((va_up_ne _ _ (by first | decide | omega)).trans (by assumption)) | exact (va_up_ne _ _ (by first | decide | omega)).trans ((va_up_ne _ _ (by first | decide | omega)).trans (va_up_self _ _ _)) | exact (va_up_ne _ _ (by first | decide | omega)).trans ((va_up_ne _ _ (by first | decide | omega)).trans ((va_up_ne _ _ (by first | decide | omega)).trans (by assumption))) | exact (va_up_ne _ _ (by first | decide | omega)).trans ((va_up_ne _ _ (by first | decide | omega)).trans ((va_up_ne _ _ (by first | decide | omega)).trans ((va_up_ne _ _ (by first | decide | omega)).trans (by assumption)))) | exact rfl) (by first | exact Nat.le_of_ble_eq_true rfl | omega | (simp only [List.length_set]; omega)) rfl rfl ?_
  rw [up_up]
  refine g_aload_n (pc' := 26) dX7_end_25 rfl rfl ?_
  refine g_lconst (pc' := 27) (v := lN 0) dX7_end_26 (by decide) ?_
  refine g_put (pc' := 30) fl_X7_72 ft_7_13 dX7_end_27 (by omega) (by first | assumption | exact va_up_self _ _ _ | exact (va_up_ne _ _ (by first | decide | omega)).trans (by assumption) | exact (va_up_ne _ _ (by first | decide | omega)).trans (va_up_self _ _ _) | exact (va_up_ne _ _ (by first | decide | omega)).trans ((va_up_ne _ _ (by first | decide | omega)).trans (by assumption)) | exact (va_up_ne _ _ (by first | decide | omega)).trans ((va_up_ne _ _ (by first | decide | omega)).trans (va_up_self _ _ _)) | exact (va_up_ne _ _ (by first | decide | omega)).trans ((va_up_ne _ _ (by first | decide | omega)).trans ((va_up_ne _ _ (by first | decide | omega)).trans (by assumption))) | exact (va_up_ne _ _ (by first | decide | omega)).trans ((va_up_ne _ _ (by first | decide | omega)).trans ((va_up_ne _ _ (by first | decide | omega)).trans ((va_up_ne _ _ (by first | decide | omega)).trans (by assumption)))) | exact rfl) (by first | exact Nat.le_of_ble_eq_true rfl | omega | (simp only [List.length_set]; omega)) rfl rfl ?_
  rw [up_up]
  refine g_aload_n (pc' := 31) dX7_end_30 rfl rfl ?_
  refine g_iconst (pc' := 32) (v := nI 0) dX7_end_31 (by decide) ?_
  refine g_put (pc' := 35) fl_X7_75 ft_7_14 dX7_end_32 (by omega) (by first | assumption | exact va_up_self _ _ _ | exact (va_up_ne _ _ (by first | decide | omega)).trans (by assumption) | exact (va_up_ne _ _ (by first | decide | omega)).trans (va_up_self _ _ _) | exact (va_up_ne _ _ (by first | decide | omega)).trans ((va_up_ne _ _ (by first | decide | omega)).trans (by assumption)) | exact (va_up_ne _ _ (by first | decide | omega)).trans ((va_up_ne _ _ (by first | decide | omega)).trans (va_up_self _ _ _)) | exact (va_up_ne _ _ (by first | decide | omega)).trans ((va_up_ne _ _ (by first | decide | omega)).trans ((va_up_ne _ _ (by first | decide | omega)).trans (by assumption))) | exact (va_up_ne _ _ (by first | decide | omega)).trans ((va_up_ne _ _ (by first | decide | omega)).trans ((va_up_ne _ _ (by first | decide | omega)).trans ((va_up_ne _ _ (by first | decide | omega)).trans (by assumption)))) | exact rfl) (by first | exact Nat.le_of_ble_eq_true rfl | omega | (simp only [List.length_set]; omega)) rfl rfl ?_
  rw [up_up]
  refine g_aload_n (pc' := 36) dX7_end_35 rfl rfl ?_
  refine g_iconst (pc' := 37) (v := nI 0) dX7_end_36 (by decide) ?_
  refine g_put (pc' := 40) fl_X7_78 ft_7_15 dX7_end_37 (by omega) (by first | assumption | exact va_up_self _ _ _ | exact (va_up_ne _ _ (by first | decide | omega)).trans (by assumption) | exact (va_up_ne _ _ (by first | decide | omega)).trans (va_up_self _ _ _) | exact (va_up_ne _ _ (by first | decide | omega)).trans ((va_up_ne _ _ (by first | decide | omega)).trans (by assumption)) | exact (va_up_ne _ _ (by first | decide | omega)).trans ((va_up_ne _ _ (by first | decide | omega)).trans (va_up_self _ _ _)) | exact (va_up_ne _ _ (by first | decide | omega)).trans ((va_up_ne _ _ (by first | decide | omega)).trans ((va_up_ne _ _ (by first | decide | omega)).trans (by assumption))) | exact (va_up_ne _ _ (by first | decide | omega)).trans ((va_up_ne _ _ (by first | decide | omega)).trans ((va_up_ne _ _ (by first | decide | omega)).trans ((va_up_ne _ _ (by first | decide | omega)).trans (by assumption)))) | exact rfl) (by first | exact Nat.le_of_ble_eq_true rfl | omega | (simp only [List.length_set]; omega)) rfl rfl ?_
  rw [up_up]
  refine g_aload_n (pc' := 41) dX7_end_40 rfl rfl ?_
  refine g_iconst (pc' := 42) (v := nI 0) dX7_end_41 (by decide) ?_
  refine g_put (pc' := 45) fl_X7_81 ft_7_16 dX7_end_42 (by omega) (by first | assumption | exact va_up_self _ _ _ | exact (va_up_ne _ _ (by first | decide | omega)).trans (by assumption) | exact (va_up_ne _ _ (by first | decide | omega)).trans (va_up_self _ _ _) | exact (va_up_ne _ _ (by first | decide | omega)).trans ((va_up_ne _ _ (by first | decide | omega)).trans (by assumption)) | exact (va_up_ne _ _ (by first | decide | omega)).trans ((va_up_ne _ _ (by first | decide | omega)).trans (va_up_self _ _ _)) | exact (va_up_ne _ _ (by first | decide | omega)).trans ((va_up_ne _ _ (by first | decide | omega)).trans ((va_up_ne _ _ (by first | decide | omega)).trans (by assumption))) | exact (va_up_ne _ _ (by first | decide | omega)).trans ((va_up_ne _ _ (by first | decide | omega)).trans ((va_up_ne _ _ (by first | decide | omega)).trans ((va_up_ne _ _ (by first | decide | omega)).trans (by assumption)))) | exact rfl) (by first | exact Nat.le_of_ble_eq_true rfl | omega | (simp only [List.length_set]; omega)) rfl rfl ?_
  rw [up_up]
  refine g_aload_n (pc' := 46) dX7_end_45 rfl rfl ?_
  refine g_iconst (pc' := 47) (v := nI 0) dX7_end_46 (by decide) ?_
  refine g_put (pc' := 50) fl_X7_84 ft_7_17 dX7_end_47 (by omega) (by first | assumption | exact va_up_self _ _ _ | exact (va_up_ne _ _ (by first | decide | omega)).trans (by assumption) | exact (va_up_ne _ _ (by first | decide | omega)).trans (va_up_self _ _ _) | exact (va_up_ne _ _ (by first | decide | omega)).trans ((va_up_ne _ _ (by first | decide | omega)).trans (by assumption)) | exact (va_up_ne _ _ (by first | decide | omega)).trans ((va_up_ne _ _ (by first | decide | omega)).trans (va_up_self _ _ _)) | exact (va_up_ne _ _ (by first | decide | omega)).trans ((va_up_ne _ _ (by first | decide | omega)).trans ((va_up_ne _ _ (by first | decide | omega)).trans (by assumption))) | exact (va_up_ne _ _ (by first | decide | omega)).trans ((va_up_ne _ _ (by first | decide | omega)).trans ((va_up_ne _ _ (by first | decide | omega)).trans ((va_up_ne _ _ (by first | decide | omega)).trans (by assumption)))) | exact rfl) (by first | exact Nat.le_of_ble_eq_true rfl | omega | (simp only [List.length_set]; omega)) rfl rfl ?_
  rw [up_up]
  refine g_iconst (pc' := 51) (v := nI 1) dX7_end_50 (by decide) ?_
  refine g_iret dX7_end_51 rfl (Nat.le_refl _) (Nat.le_refl _) (hq _ ⟨va_up_self _ _ _, CB_F (fun i hi => va_up_ne _ _ (by omega)) B, fun j hj => ?_, fun q => by cases q⟩ (FRc_u (by omega)))
  obtain ⟨a', b', c', x', q1, q2⟩ := O j hj
  exact ⟨a', b', c', x', (va_up_ne _ _ (by omega)).trans q1, fun q => by omega⟩
theorem c_beginC (hn : 64 ≤ n) (Mr : MR D S T R kd nn pp) (X : CS hp n D S T R kd nn pp bg it tt s sm h k fl lu sl kid K rd) (hW : WS D S T R bg it tt s sm h k lu sl)
    (hq0 : bg = true ∨ R = 0 → Q (some (.int (-4))) hp n)
    (hqL : bg = false → 1 ≤ R → 1000000000000000 < (S ^ D) ^ (T * R) → Q (some (.int (-5))) hp n)
    (hq : bg = false → 1 ≤ R → (S ^ D) ^ (T * R) ≤ 1000000000000000 → ∀ hp' : AH, CS hp' n D S T R kd nn pp true false false 0 0 0 0 fl (lN 0) (lN 0) kid K false → FRc hp hp' → Q (some (.int (nI 1))) hp' n) : CT yX7_begin cX7_begin 1 (some .int) (rmD 6) [.ref 0] hp n Q := by
  obtain ⟨h2, h6, hD1, hD, hT1, hT3, hR, hRV⟩ := id Mr
  obtain ⟨c0, B, O, Gm⟩ := id X
  have no : bg = true ∨ R = 0 → G yX7_begin cX7_begin 1 (some .int) (rmD 6) none Q 0 0 14 [.ref 0] [] hp n := by
    intro e
    refine g_bipush (pc' := 16) (v := -4) dX7_begin_14 (by decide) ?_
    exact g_iret dX7_begin_16 rfl (Nat.le_refl _) (Nat.le_refl _) (hq0 e)
  show G yX7_begin cX7_begin 1 (some .int) (rmD 6) none Q 0 0 0 [.ref 0] [] hp n
  refine g_aload_n (pc' := 1) dX7_begin_0 rfl rfl ?_
  refine g_get (pc' := 4) fl_X7_58 dX7_begin_1 (by omega) (by first | assumption | exact va_up_self _ _ _ | exact (va_up_ne _ _ (by first | decide | omega)).trans (by assumption) | exact (va_up_ne _ _ (by first | decide | omega)).trans (va_up_self _ _ _) | exact (va_up_ne _ _ (by first | decide | omega)).trans ((va_up_ne _ _ (by first | decide | omega)).trans (by assumption)) | exact (va_up_ne _ _ (by first | decide | omega)).trans ((va_up_ne _ _ (by first | decide | omega)).trans (va_up_self _ _ _)) | exact (va_up_ne _ _ (by first | decide | omega)).trans ((va_up_ne _ _ (by first | decide | omega)).trans ((va_up_ne _ _ (by first | decide | omega)).trans (by assumption))) | exact (va_up_ne _ _ (by first | decide | omega)).trans ((va_up_ne _ _ (by first | decide | omega)).trans ((va_up_ne _ _ (by first | decide | omega)).trans ((va_up_ne _ _ (by first | decide | omega)).trans (by assumption)))) | exact rfl) (by first | assumption | rfl | exact (List.getElem?_set_ne (by decide)).trans (by assumption) | exact List.getElem?_set_self (by omega)) ?_
  cases bg with
  | true =>
    refine g_if_neN (tgt := 14) (pc' := 7) dX7_begin_4 (by decide) (by first | omega | decide) (fun z1 => ?_) (fun z1 => ?_)
    · exact no (Or.inl rfl)
    · exact absurd z1 (by decide)
  | false =>
    refine g_if_neN (tgt := 14) (pc' := 7) dX7_begin_4 (by decide) (by first | omega | decide) (fun z1 => ?_) (fun z1 => ?_)
    · exact absurd rfl z1
    · refine g_aload_n (pc' := 8) dX7_begin_7 rfl rfl ?_
      refine g_get (pc' := 11) fl_X7_55 dX7_begin_8 (by omega) (by first | assumption | exact va_up_self _ _ _ | exact (va_up_ne _ _ (by first | decide | omega)).trans (by assumption) | exact (va_up_ne _ _ (by first | decide | omega)).trans (va_up_self _ _ _) | exact (va_up_ne _ _ (by first | decide | omega)).trans ((va_up_ne _ _ (by first | decide | omega)).trans (by assumption)) | exact (va_up_ne _ _ (by first | decide | omega)).trans ((va_up_ne _ _ (by first | decide | omega)).trans (va_up_self _ _ _)) | exact (va_up_ne _ _ (by first | decide | omega)).trans ((va_up_ne _ _ (by first | decide | omega)).trans ((va_up_ne _ _ (by first | decide | omega)).trans (by assumption))) | exact (va_up_ne _ _ (by first | decide | omega)).trans ((va_up_ne _ _ (by first | decide | omega)).trans ((va_up_ne _ _ (by first | decide | omega)).trans ((va_up_ne _ _ (by first | decide | omega)).trans (by assumption)))) | exact rfl) (by first | assumption | rfl | exact (List.getElem?_set_ne (by decide)).trans (by assumption) | exact List.getElem?_set_self (by omega)) ?_
      refine g_if_neN (tgt := 17) (pc' := 14) dX7_begin_11 (by decide) (by first | omega | decide) (fun z2 => ?_) (fun z2 => ?_)
      · have b9 := bI_le (decide (1000000000000000 < (S ^ D) ^ (T * R)))
        refine g_aload_n (pc' := 18) dX7_begin_17 rfl rfl ?_
        refine gc_V 21 0 [] [] cw_X7_92 im_X7_isLarge se_X7_isLarge dX7_begin_18 (by decide) (by decide) (Nat.le_refl _) (Nat.le_refl _) (Nat.le_of_ble_eq_true rfl) rfl (Nat.le_of_ble_eq_true rfl) (by omega) (by first | assumption | exact va_up_self _ _ _ | exact (va_up_ne _ _ (by first | decide | omega)).trans (by assumption) | exact (va_up_ne _ _ (by first | decide | omega)).trans (va_up_self _ _ _) | exact (va_up_ne _ _ (by first | decide | omega)).trans ((va_up_ne _ _ (by first | decide | omega)).trans (by assumption)) | exact (va_up_ne _ _ (by first | decide | omega)).trans ((va_up_ne _ _ (by first | decide | omega)).trans (va_up_self _ _ _)) | exact (va_up_ne _ _ (by first | decide | omega)).trans ((va_up_ne _ _ (by first | decide | omega)).trans ((va_up_ne _ _ (by first | decide | omega)).trans (by assumption))) | exact (va_up_ne _ _ (by first | decide | omega)).trans ((va_up_ne _ _ (by first | decide | omega)).trans ((va_up_ne _ _ (by first | decide | omega)).trans ((va_up_ne _ _ (by first | decide | omega)).trans (by assumption)))) | exact rfl) rfl rfl (c_isLargeC hn c0 h2 h6 hD hT3 hR ⟨rfl, ?_⟩)
        by_cases hL : 1000000000000000 < (S ^ D) ^ (T * R)
        · rw [decide_eq_true hL]
          refine g_if_eqN (tgt := 27) (pc' := 24) dX7_begin_21 (by decide) (by first | omega | decide) (fun z3 => ?_) (fun z3 => ?_)
          · exact absurd z3 (by decide)
          · refine g_bipush (pc' := 26) (v := -5) dX7_begin_24 (by decide) ?_
            exact g_iret dX7_begin_26 rfl (Nat.le_refl _) (Nat.le_refl _) (hqL rfl (by omega) hL)
        · rw [decide_eq_false hL]
          refine g_if_eqN (tgt := 27) (pc' := 24) dX7_begin_21 (by decide) (by first | omega | decide) (fun z3 => ?_) (fun z3 => ?_)
          · have N : GN D S T R := ⟨h2, h6, hD1, hD, hT1, hT3, by omega, hR, by omega⟩
            have hP : ∀ r h, r < R → Pf kd nn pp S r h ≤ 210 := fun r h hr => Pf_le hRV hr
            obtain ⟨-, -, e3, e4, e5, e6, e7, e8⟩ := hW.2 rfl
            obtain ⟨d1, ⟨f2, d2⟩, ⟨fr, d3, hfr⟩, ⟨x4, x5, d4⟩, dX, ⟨f10, d10⟩, ⟨f11, d11⟩, ⟨f12, d12⟩, d13, ⟨f14, d14⟩, dU, dC, hk, h64, h29, hwe⟩ := id B
            refine g_aload_n (pc' := 28) dX7_begin_27 rfl rfl ?_
            refine g_get (pc' := 31) fl_X7_25 dX7_begin_28 (by omega) (by first | assumption | exact va_up_self _ _ _ | exact (va_up_ne _ _ (by first | decide | omega)).trans (by assumption) | exact (va_up_ne _ _ (by first | decide | omega)).trans (va_up_self _ _ _) | exact (va_up_ne _ _ (by first | decide | omega)).trans ((va_up_ne _ _ (by first | decide | omega)).trans (by assumption)) | exact (va_up_ne _ _ (by first | decide | omega)).trans ((va_up_ne _ _ (by first | decide | omega)).trans (va_up_self _ _ _)) | exact (va_up_ne _ _ (by first | decide | omega)).trans ((va_up_ne _ _ (by first | decide | omega)).trans ((va_up_ne _ _ (by first | decide | omega)).trans (by assumption))) | exact (va_up_ne _ _ (by first | decide | omega)).trans ((va_up_ne _ _ (by first | decide | omega)).trans ((va_up_ne _ _ (by first | decide | omega)).trans ((va_up_ne _ _ (by first | decide | omega)).trans (by assumption)))) | exact rfl) (by first | assumption | rfl | exact (List.getElem?_set_ne (by decide)).trans (by assumption) | exact List.getElem?_set_self (by omega)) ?_
            refine g_aload_n (pc' := 32) dX7_begin_31 rfl rfl ?_
            refine g_get (pc' := 35) fl_X7_45 dX7_begin_32 (by omega) (by first | assumption | exact va_up_self _ _ _ | exact (va_up_ne _ _ (by first | decide | omega)).trans (by assumption) | exact (va_up_ne _ _ (by first | decide | omega)).trans (va_up_self _ _ _) | exact (va_up_ne _ _ (by first | decide | omega)).trans ((va_up_ne _ _ (by first | decide | omega)).trans (by assumption)) | exact (va_up_ne _ _ (by first | decide | omega)).trans ((va_up_ne _ _ (by first | decide | omega)).trans (va_up_self _ _ _)) | exact (va_up_ne _ _ (by first | decide | omega)).trans ((va_up_ne _ _ (by first | decide | omega)).trans ((va_up_ne _ _ (by first | decide | omega)).trans (by assumption))) | exact (va_up_ne _ _ (by first | decide | omega)).trans ((va_up_ne _ _ (by first | decide | omega)).trans ((va_up_ne _ _ (by first | decide | omega)).trans ((va_up_ne _ _ (by first | decide | omega)).trans (by assumption)))) | exact rfl) (by first | assumption | rfl | exact (List.getElem?_set_ne (by decide)).trans (by assumption) | exact List.getElem?_set_self (by omega)) ?_
            refine g_aload_n (pc' := 36) dX7_begin_35 rfl rfl ?_
            refine g_get (pc' := 39) fl_X7_49 dX7_begin_36 (by omega) (by first | assumption | exact va_up_self _ _ _ | exact (va_up_ne _ _ (by first | decide | omega)).trans (by assumption) | exact (va_up_ne _ _ (by first | decide | omega)).trans (va_up_self _ _ _) | exact (va_up_ne _ _ (by first | decide | omega)).trans ((va_up_ne _ _ (by first | decide | omega)).trans (by assumption)) | exact (va_up_ne _ _ (by first | decide | omega)).trans ((va_up_ne _ _ (by first | decide | omega)).trans (va_up_self _ _ _)) | exact (va_up_ne _ _ (by first | decide | omega)).trans ((va_up_ne _ _ (by first | decide | omega)).trans ((va_up_ne _ _ (by first | decide | omega)).trans (by assumption))) | exact (va_up_ne _ _ (by first | decide | omega)).trans ((va_up_ne _ _ (by first | decide | omega)).trans ((va_up_ne _ _ (by first | decide | omega)).trans ((va_up_ne _ _ (by first | decide | omega)).trans (by assumption)))) | exact rfl) (by first | assumption | rfl | exact (List.getElem?_set_ne (by decide)).trans (by assumption) | exact List.getElem?_set_self (by omega)) ?_
            refine g_aload_n (pc' := 40) dX7_begin_39 rfl rfl ?_
            refine g_get (pc' := 43) fl_X7_52 dX7_begin_40 (by omega) (by first | assumption | exact va_up_self _ _ _ | exact (va_up_ne _ _ (by first | decide | omega)).trans (by assumption) | exact (va_up_ne _ _ (by first | decide | omega)).trans (va_up_self _ _ _) | exact (va_up_ne _ _ (by first | decide | omega)).trans ((va_up_ne _ _ (by first | decide | omega)).trans (by assumption)) | exact (va_up_ne _ _ (by first | decide | omega)).trans ((va_up_ne _ _ (by first | decide | omega)).trans (va_up_self _ _ _)) | exact (va_up_ne _ _ (by first | decide | omega)).trans ((va_up_ne _ _ (by first | decide | omega)).trans ((va_up_ne _ _ (by first | decide | omega)).trans (by assumption))) | exact (va_up_ne _ _ (by first | decide | omega)).trans ((va_up_ne _ _ (by first | decide | omega)).trans ((va_up_ne _ _ (by first | decide | omega)).trans ((va_up_ne _ _ (by first | decide | omega)).trans (by assumption)))) | exact rfl) (by first | assumption | rfl | exact (List.getElem?_set_ne (by decide)).trans (by assumption) | exact List.getElem?_set_self (by omega)) ?_
            refine g_aload_n (pc' := 44) dX7_begin_43 rfl rfl ?_
            refine g_get (pc' := 47) fl_X7_55 dX7_begin_44 (by omega) (by first | assumption | exact va_up_self _ _ _ | exact (va_up_ne _ _ (by first | decide | omega)).trans (by assumption) | exact (va_up_ne _ _ (by first | decide | omega)).trans (va_up_self _ _ _) | exact (va_up_ne _ _ (by first | decide | omega)).trans ((va_up_ne _ _ (by first | decide | omega)).trans (by assumption)) | exact (va_up_ne _ _ (by first | decide | omega)).trans ((va_up_ne _ _ (by first | decide | omega)).trans (va_up_self _ _ _)) | exact (va_up_ne _ _ (by first | decide | omega)).trans ((va_up_ne _ _ (by first | decide | omega)).trans ((va_up_ne _ _ (by first | decide | omega)).trans (by assumption))) | exact (va_up_ne _ _ (by first | decide | omega)).trans ((va_up_ne _ _ (by first | decide | omega)).trans ((va_up_ne _ _ (by first | decide | omega)).trans ((va_up_ne _ _ (by first | decide | omega)).trans (by assumption)))) | exact rfl) (by first | assumption | rfl | exact (List.getElem?_set_ne (by decide)).trans (by assumption) | exact List.getElem?_set_self (by omega)) ?_
            refine gc_V 50 4 [.int (nI D), .int (nI S), .int (nI T), .int (nI R)] [] cw_X7_96 im_X1_prepare se_X1_prepare dX7_begin_47 (by decide) (by decide) (Nat.le_refl _) (Nat.le_refl _) (Nat.le_of_ble_eq_true rfl) rfl (Nat.le_of_ble_eq_true rfl) (by omega) (by first | assumption | exact va_up_self _ _ _ | exact (va_up_ne _ _ (by first | decide | omega)).trans (by assumption) | exact (va_up_ne _ _ (by first | decide | omega)).trans (va_up_self _ _ _) | exact (va_up_ne _ _ (by first | decide | omega)).trans ((va_up_ne _ _ (by first | decide | omega)).trans (by assumption)) | exact (va_up_ne _ _ (by first | decide | omega)).trans ((va_up_ne _ _ (by first | decide | omega)).trans (va_up_self _ _ _)) | exact (va_up_ne _ _ (by first | decide | omega)).trans ((va_up_ne _ _ (by first | decide | omega)).trans ((va_up_ne _ _ (by first | decide | omega)).trans (by assumption))) | exact (va_up_ne _ _ (by first | decide | omega)).trans ((va_up_ne _ _ (by first | decide | omega)).trans ((va_up_ne _ _ (by first | decide | omega)).trans ((va_up_ne _ _ (by first | decide | omega)).trans (by assumption)))) | exact rfl) rfl rfl (c_prepare hn N dX d4 d11 d12 (fun hp1 fu fp HT1 g4 g11 hfu g12 hfp E1 => ⟨rfl, ?_⟩))
            have g0 := (E1 0 (by omega)).trans c0
            have g1 := (E1 1 (by omega)).trans d1
            have g2 := (E1 2 (by omega)).trans d2
            have g3 := (E1 3 (by omega)).trans d3
            have g10 := (E1 10 (by omega)).trans d10
            have gRW : RW hp1 R kd nn pp := ⟨⟨fr, g3, hfr⟩, fun r hr => by
              obtain ⟨a, b, c, y, q1, q2⟩ := O r (by omega)
              obtain ⟨q3, q4, q5, -⟩ := q2 hr
              subst q3 q4 q5
              exact ⟨_, (E1 (39 + r) (by omega)).trans q1⟩⟩
            show G yX7_begin cX7_begin 1 (some .int) (rmD 6) none Q 0 0 50 [.ref 0] [] hp1 n
            refine g_aload_n (pc' := 51) dX7_begin_50 rfl rfl ?_
            refine g_get (pc' := 54) fl_X7_25 dX7_begin_51 (by omega) (by first | assumption | exact va_up_self _ _ _ | exact (va_up_ne _ _ (by first | decide | omega)).trans (by assumption) | exact (va_up_ne _ _ (by first | decide | omega)).trans (va_up_self _ _ _) | exact (va_up_ne _ _ (by first | decide | omega)).trans ((va_up_ne _ _ (by first | decide | omega)).trans (by assumption)) | exact (va_up_ne _ _ (by first | decide | omega)).trans ((va_up_ne _ _ (by first | decide | omega)).trans (va_up_self _ _ _)) | exact (va_up_ne _ _ (by first | decide | omega)).trans ((va_up_ne _ _ (by first | decide | omega)).trans ((va_up_ne _ _ (by first | decide | omega)).trans (by assumption))) | exact (va_up_ne _ _ (by first | decide | omega)).trans ((va_up_ne _ _ (by first | decide | omega)).trans ((va_up_ne _ _ (by first | decide | omega)).trans ((va_up_ne _ _ (by first | decide | omega)).trans (by assumption)))) | exact rfl) (by first | assumption | rfl | exact (List.getElem?_set_ne (by decide)).trans (by assumption) | exact List.getElem?_set_self (by omega)) ?_
            refine g_aload_n (pc' := 55) dX7_begin_54 rfl rfl ?_
            refine g_get (pc' := 58) fl_X7_18 dX7_begin_55 (by omega) (by first | assumption | exact va_up_self _ _ _ | exact (va_up_ne _ _ (by first | decide | omega)).trans (by assumption) | exact (va_up_ne _ _ (by first | decide | omega)).trans (va_up_self _ _ _) | exact (va_up_ne _ _ (by first | decide | omega)).trans ((va_up_ne _ _ (by first | decide | omega)).trans (by assumption)) | exact (va_up_ne _ _ (by first | decide | omega)).trans ((va_up_ne _ _ (by first | decide | omega)).trans (va_up_self _ _ _)) | exact (va_up_ne _ _ (by first | decide | omega)).trans ((va_up_ne _ _ (by first | decide | omega)).trans ((va_up_ne _ _ (by first | decide | omega)).trans (by assumption))) | exact (va_up_ne _ _ (by first | decide | omega)).trans ((va_up_ne _ _ (by first | decide | omega)).trans ((va_up_ne _ _ (by first | decide | omega)).trans ((va_up_ne _ _ (by first | decide | omega)).trans (by assumption)))) | exact rfl) (by first | assumption | rfl | exact (List.getElem?_set_ne (by decide)).trans (by assumption) | exact List.getElem?_set_self (by omega)) ?_
            refine g_aload_n (pc' := 59) dX7_begin_58 rfl rfl ?_
            refine g_get (pc' := 62) fl_X7_10 dX7_begin_59 (by omega) (by first | assumption | exact va_up_self _ _ _ | exact (va_up_ne _ _ (by first | decide | omega)).trans (by assumption) | exact (va_up_ne _ _ (by first | decide | omega)).trans (va_up_self _ _ _) | exact (va_up_ne _ _ (by first | decide | omega)).trans ((va_up_ne _ _ (by first | decide | omega)).trans (by assumption)) | exact (va_up_ne _ _ (by first | decide | omega)).trans ((va_up_ne _ _ (by first | decide | omega)).trans (va_up_self _ _ _)) | exact (va_up_ne _ _ (by first | decide | omega)).trans ((va_up_ne _ _ (by first | decide | omega)).trans ((va_up_ne _ _ (by first | decide | omega)).trans (by assumption))) | exact (va_up_ne _ _ (by first | decide | omega)).trans ((va_up_ne _ _ (by first | decide | omega)).trans ((va_up_ne _ _ (by first | decide | omega)).trans ((va_up_ne _ _ (by first | decide | omega)).trans (by assumption)))) | exact rfl) (by first | assumption | rfl | exact (List.getElem?_set_ne (by decide)).trans (by assumption) | exact List.getElem?_set_self (by omega)) ?_
            refine gc_V 65 4 [.ref 3, .ref 1] [] cw_X7_100 im_X1_writePoints se_X1_writePoints dX7_begin_62 (by decide) (by decide) (Nat.le_refl _) (Nat.le_refl _) (Nat.le_of_ble_eq_true rfl) rfl (Nat.le_of_ble_eq_true rfl) (by omega) (by first | assumption | exact va_up_self _ _ _ | exact (va_up_ne _ _ (by first | decide | omega)).trans (by assumption) | exact (va_up_ne _ _ (by first | decide | omega)).trans (va_up_self _ _ _) | exact (va_up_ne _ _ (by first | decide | omega)).trans ((va_up_ne _ _ (by first | decide | omega)).trans (by assumption)) | exact (va_up_ne _ _ (by first | decide | omega)).trans ((va_up_ne _ _ (by first | decide | omega)).trans (va_up_self _ _ _)) | exact (va_up_ne _ _ (by first | decide | omega)).trans ((va_up_ne _ _ (by first | decide | omega)).trans ((va_up_ne _ _ (by first | decide | omega)).trans (by assumption))) | exact (va_up_ne _ _ (by first | decide | omega)).trans ((va_up_ne _ _ (by first | decide | omega)).trans ((va_up_ne _ _ (by first | decide | omega)).trans ((va_up_ne _ _ (by first | decide | omega)).trans (by assumption)))) | exact rfl) rfl rfl (c_writePoints hn N hRV HT1 g4 gRW g1 g2 g10 (fun fx fpt hfpt => ⟨rfl, ?_⟩))
            have Fr2 : ∀ i, i ≠ 2 → i ≠ 10 → va_up (va_up hp1 2 (aI 7 fx)) 10 (aI 756 fpt) i = hp1 i := fun i q1 q2 => (va_up_ne _ _ q2).trans (va_up_ne _ _ q1)
            have i2 : va_up (va_up hp1 2 (aI 7 fx)) 10 (aI 756 fpt) 2 = aI 7 fx := rfl
            have i10 : va_up (va_up hp1 2 (aI 7 fx)) 10 (aI 756 fpt) 10 = aI 756 fpt := rfl
            show G yX7_begin cX7_begin 1 (some .int) (rmD 6) none Q 0 0 65 [.ref 0] [] (va_up (va_up hp1 2 (aI 7 fx)) 10 (aI 756 fpt)) n
            generalize va_up (va_up hp1 2 (aI 7 fx)) 10 (aI 756 fpt) = hp2 at Fr2 i2 i10 ⊢
            have A2 : GA hp2 D S T R (Pf kd nn pp S) := ⟨HT_of (fun i q1 q2 => Fr2 i (by omega) (by omega)) HT1, (Fr2 4 (by omega) (by omega)).trans g4, ⟨fpt, i10, hfpt⟩, ⟨fu, (Fr2 11 (by omega) (by omega)).trans g11, hfu⟩, ⟨fp, (Fr2 12 (by omega) (by omega)).trans g12, hfp⟩⟩
            have Fr3 : ∀ i, 13 ≤ i → hp2 i = hp i := fun i q => (Fr2 i (by omega) (by omega)).trans (E1 i (by omega))
            have j0 := (Fr2 0 (by omega) (by omega)).trans g0
            have j13 := (Fr3 13 (by omega)).trans d13
            have j14 := (Fr3 14 (by omega)).trans d14
            have jU : TU hp2 15 := TU_of (fun i q1 q2 => Fr3 i (by omega)) dU
            refine g_aload_n (pc' := 66) dX7_begin_65 rfl rfl ?_
            refine g_get (pc' := 69) fl_X7_34 dX7_begin_66 (by omega) (by first | assumption | exact va_up_self _ _ _ | exact (va_up_ne _ _ (by first | decide | omega)).trans (by assumption) | exact (va_up_ne _ _ (by first | decide | omega)).trans (va_up_self _ _ _) | exact (va_up_ne _ _ (by first | decide | omega)).trans ((va_up_ne _ _ (by first | decide | omega)).trans (by assumption)) | exact (va_up_ne _ _ (by first | decide | omega)).trans ((va_up_ne _ _ (by first | decide | omega)).trans (va_up_self _ _ _)) | exact (va_up_ne _ _ (by first | decide | omega)).trans ((va_up_ne _ _ (by first | decide | omega)).trans ((va_up_ne _ _ (by first | decide | omega)).trans (by assumption))) | exact (va_up_ne _ _ (by first | decide | omega)).trans ((va_up_ne _ _ (by first | decide | omega)).trans ((va_up_ne _ _ (by first | decide | omega)).trans ((va_up_ne _ _ (by first | decide | omega)).trans (by assumption)))) | exact rfl) (by first | assumption | rfl | exact (List.getElem?_set_ne (by decide)).trans (by assumption) | exact List.getElem?_set_self (by omega)) ?_
            refine gc_V 72 13 [] [] cw_X7_104 im_X6_reckonAll se_X6_reckonAll dX7_begin_69 (by decide) (by decide) (Nat.le_refl _) (Nat.le_refl _) (Nat.le_of_ble_eq_true rfl) rfl (Nat.le_of_ble_eq_true rfl) (by omega) (by first | assumption | exact va_up_self _ _ _ | exact (va_up_ne _ _ (by first | decide | omega)).trans (by assumption) | exact (va_up_ne _ _ (by first | decide | omega)).trans (va_up_self _ _ _) | exact (va_up_ne _ _ (by first | decide | omega)).trans ((va_up_ne _ _ (by first | decide | omega)).trans (by assumption)) | exact (va_up_ne _ _ (by first | decide | omega)).trans ((va_up_ne _ _ (by first | decide | omega)).trans (va_up_self _ _ _)) | exact (va_up_ne _ _ (by first | decide | omega)).trans ((va_up_ne _ _ (by first | decide | omega)).trans ((va_up_ne _ _ (by first | decide | omega)).trans (by assumption))) | exact (va_up_ne _ _ (by first | decide | omega)).trans ((va_up_ne _ _ (by first | decide | omega)).trans ((va_up_ne _ _ (by first | decide | omega)).trans ((va_up_ne _ _ (by first | decide | omega)).trans (by assumption)))) | exact rfl) rfl rfl (c_reckonAll hn N A2 hP j13 jU j14 (fun hp3 W3 E3 => ⟨rfl, ?_⟩))
            have k0 := (E3 0 (by omega)).trans j0
            have k24 := (E3 24 (by omega)).trans ((Fr3 24 (by omega)).trans dC.1)
            have A3 : GA hp3 D S T R (Pf kd nn pp S) := GA_of (fun i q1 q2 => E3 i (by omega)) A2
            show G yX7_begin cX7_begin 1 (some .int) (rmD 6) none Q 0 0 72 [.ref 0] [] hp3 n
            refine g_aload_n (pc' := 73) dX7_begin_72 rfl rfl ?_
            refine g_get (pc' := 76) fl_X7_41 dX7_begin_73 (by omega) (by first | assumption | exact va_up_self _ _ _ | exact (va_up_ne _ _ (by first | decide | omega)).trans (by assumption) | exact (va_up_ne _ _ (by first | decide | omega)).trans (va_up_self _ _ _) | exact (va_up_ne _ _ (by first | decide | omega)).trans ((va_up_ne _ _ (by first | decide | omega)).trans (by assumption)) | exact (va_up_ne _ _ (by first | decide | omega)).trans ((va_up_ne _ _ (by first | decide | omega)).trans (va_up_self _ _ _)) | exact (va_up_ne _ _ (by first | decide | omega)).trans ((va_up_ne _ _ (by first | decide | omega)).trans ((va_up_ne _ _ (by first | decide | omega)).trans (by assumption))) | exact (va_up_ne _ _ (by first | decide | omega)).trans ((va_up_ne _ _ (by first | decide | omega)).trans ((va_up_ne _ _ (by first | decide | omega)).trans ((va_up_ne _ _ (by first | decide | omega)).trans (by assumption)))) | exact rfl) (by first | assumption | rfl | exact (List.getElem?_set_ne (by decide)).trans (by assumption) | exact List.getElem?_set_self (by omega)) ?_
            refine gc_V 79 24 [] [] cw_X7_107 im_X0_forget se_X0_forget dX7_begin_76 (by decide) (by decide) (Nat.le_refl _) (Nat.le_refl _) (Nat.le_of_ble_eq_true rfl) rfl (Nat.le_of_ble_eq_true rfl) (by omega) (by first | assumption | exact va_up_self _ _ _ | exact (va_up_ne _ _ (by first | decide | omega)).trans (by assumption) | exact (va_up_ne _ _ (by first | decide | omega)).trans (va_up_self _ _ _) | exact (va_up_ne _ _ (by first | decide | omega)).trans ((va_up_ne _ _ (by first | decide | omega)).trans (by assumption)) | exact (va_up_ne _ _ (by first | decide | omega)).trans ((va_up_ne _ _ (by first | decide | omega)).trans (va_up_self _ _ _)) | exact (va_up_ne _ _ (by first | decide | omega)).trans ((va_up_ne _ _ (by first | decide | omega)).trans ((va_up_ne _ _ (by first | decide | omega)).trans (by assumption))) | exact (va_up_ne _ _ (by first | decide | omega)).trans ((va_up_ne _ _ (by first | decide | omega)).trans ((va_up_ne _ _ (by first | decide | omega)).trans ((va_up_ne _ _ (by first | decide | omega)).trans (by assumption)))) | exact rfl) rfl rfl (c_forget hn k24 ⟨rfl, ?_⟩)
            have m0 : va_up hp3 24 (ob 0 (coF (.ref kid) (.int (nI 0)))) 0 = ob 7 (fo (nI D) (nI S) (nI T) (nI R) (nI (bI false)) (nI s) (nI sm) lu sl (nI (bI it)) (nI h) (nI (twN D S R false it tt s h)) (nI (tlN T R false it s k))) := (va_up_ne _ _ (by omega)).trans k0
            show G yX7_begin cX7_begin 1 (some .int) (rmD 6) none Q 0 0 79 [.ref 0] [] (va_up hp3 24 (ob 0 (coF (.ref kid) (.int (nI 0))))) n
            refine g_aload_n (pc' := 80) dX7_begin_79 rfl rfl ?_
            refine g_iconst (pc' := 81) (v := nI 1) dX7_begin_80 (by decide) ?_
            refine g_put (pc' := 84) fl_X7_58 ft_7_9 dX7_begin_81 (by omega) (by first | assumption | exact va_up_self _ _ _ | exact (va_up_ne _ _ (by first | decide | omega)).trans (by assumption) | exact (va_up_ne _ _ (by first | decide | omega)).trans (va_up_self _ _ _) | exact (va_up_ne _ _ (by first | decide | omega)).trans ((va_up_ne _ _ (by first | decide | omega)).trans (by assumption)) | exact (va_up_ne _ _ (by first | decide | omega)).trans ((va_up_ne _ _ (by first | decide | omega)).trans (va_up_self _ _ _)) | exact (va_up_ne _ _ (by first | decide | omega)).trans ((va_up_ne _ _ (by first | decide | omega)).trans ((va_up_ne _ _ (by first | decide | omega)).trans (by assumption))) | exact (va_up_ne _ _ (by first | decide | omega)).trans ((va_up_ne _ _ (by first | decide | omega)).trans ((va_up_ne _ _ (by first | decide | omega)).trans ((va_up_ne _ _ (by first | decide | omega)).trans (by assumption)))) | exact rfl) (by first | exact Nat.le_of_ble_eq_true rfl | omega | (simp only [List.length_set]; omega)) rfl rfl ?_
            subst e3 e4 e5 e7 e8
            generalize hxi : nI (bI it) = xi
            generalize hxw : nI (twN D S R false it tt 0 0) = xw
            generalize hxl : nI (tlN T R false it 0 k) = xl
            show G yX7_begin cX7_begin 1 (some .int) (rmD 6) none Q 0 0 84 [.ref 0] [] (va_up (va_up hp3 24 (ob 0 (coF (.ref kid) (.int (nI 0))))) 0 (ob 7 (fo (nI D) (nI S) (nI T) (nI R) (nI 1) (nI 0) (nI 0) (lN 0) (lN 0) xi (nI 0) xw xl))) n
            have F5 : ∀ i, i ≠ 0 → i ≠ 24 → va_up (va_up hp3 24 (ob 0 (coF (.ref kid) (.int (nI 0))))) 0 (ob 7 (fo (nI D) (nI S) (nI T) (nI R) (nI 1) (nI 0) (nI 0) (lN 0) (lN 0) xi (nI 0) xw xl)) i = hp3 i := fun i q1 q2 => (va_up_ne _ _ q1).trans (va_up_ne _ _ q2)
            have n0 : va_up (va_up hp3 24 (ob 0 (coF (.ref kid) (.int (nI 0))))) 0 (ob 7 (fo (nI D) (nI S) (nI T) (nI R) (nI 1) (nI 0) (nI 0) (lN 0) (lN 0) xi (nI 0) xw xl)) 0 = ob 7 (fo (nI D) (nI S) (nI T) (nI R) (nI 1) (nI 0) (nI 0) (lN 0) (lN 0) xi (nI 0) xw xl) := va_up_self _ _ _
            have n24 : va_up (va_up hp3 24 (ob 0 (coF (.ref kid) (.int (nI 0))))) 0 (ob 7 (fo (nI D) (nI S) (nI T) (nI R) (nI 1) (nI 0) (nI 0) (lN 0) (lN 0) xi (nI 0) xw xl)) 24 = ob 0 (coF (.ref kid) (.int (nI 0))) := rfl
            generalize va_up (va_up hp3 24 (ob 0 (coF (.ref kid) (.int (nI 0))))) 0 (ob 7 (fo (nI D) (nI S) (nI T) (nI R) (nI 1) (nI 0) (nI 0) (lN 0) (lN 0) xi (nI 0) xw xl)) = hp5 at F5 n0 n24 ⊢
            have A5 : GA hp5 D S T R (Pf kd nn pp S) := GA_of (fun i q1 q2 => F5 i (by omega) (by omega)) A3
            have W5 : WO hp5 D S T R (Pf kd nn pp S) := WO_of (fun i q1 q2 => F5 i (by omega) (by omega)) W3
            refine g_aload_n (pc' := 85) dX7_begin_84 rfl rfl ?_
            refine gc_V 88 0 [] [] cw_X7_110 im_X7_comeToTurn se_X7_comeToTurn dX7_begin_85 (by decide) (by decide) (Nat.le_refl _) (Nat.le_refl _) (Nat.le_of_ble_eq_true rfl) rfl (Nat.le_of_ble_eq_true rfl) (by omega) (by first | assumption | exact va_up_self _ _ _ | exact (va_up_ne _ _ (by first | decide | omega)).trans (by assumption) | exact (va_up_ne _ _ (by first | decide | omega)).trans (va_up_self _ _ _) | exact (va_up_ne _ _ (by first | decide | omega)).trans ((va_up_ne _ _ (by first | decide | omega)).trans (by assumption)) | exact (va_up_ne _ _ (by first | decide | omega)).trans ((va_up_ne _ _ (by first | decide | omega)).trans (va_up_self _ _ _)) | exact (va_up_ne _ _ (by first | decide | omega)).trans ((va_up_ne _ _ (by first | decide | omega)).trans ((va_up_ne _ _ (by first | decide | omega)).trans (by assumption))) | exact (va_up_ne _ _ (by first | decide | omega)).trans ((va_up_ne _ _ (by first | decide | omega)).trans ((va_up_ne _ _ (by first | decide | omega)).trans ((va_up_ne _ _ (by first | decide | omega)).trans (by assumption)))) | exact rfl) rfl rfl (c_comeToTurn hn N A5 hP W5 (show 0 < 2 ^ R from Nat.two_pow_pos R) n0 (fun hp6 q0 X6 F6 => ⟨rfl, ?_⟩))
            show G yX7_begin cX7_begin 1 (some .int) (rmD 6) none Q 0 0 88 [.ref 0] [] hp6 n
            refine g_iconst (pc' := 89) (v := nI 1) dX7_begin_88 (by decide) ?_
            have etw : twN D S R true false false 0 0 = if opn 0 R = 0 then 0 else D := by
              unfold twN
              by_cases q : opn 0 R = 0 <;> simp [q]
            have etl : tlN T R true false 0 0 = if opn 0 R = 0 then 0 else T := by
              unfold tlN
              by_cases q : opn 0 R = 0 <;> simp [q]
            rw [← etw, ← etl] at q0
            have F7 : ∀ i, 24 < i → hp6 i = hp i := fun i q => (F6 i (by omega) (by omega) (by omega)).trans ((F5 i (by omega) (by omega)).trans ((E3 i (by omega)).trans (Fr3 i (by omega))))
            have F8 : ∀ i, 1 ≤ i → i < 14 → hp6 i = hp2 i := fun i q1 q2 => (F6 i (by omega) (by omega) (by omega)).trans ((F5 i (by omega) (by omega)).trans (E3 i (by omega)))
            have p24 : hp6 24 = ob 0 (coF (.ref kid) (.int (nI 0))) := (F6 24 (by omega) (by omega) (by omega)).trans n24
            obtain ⟨w13, wU, wb, w14, -⟩ := X6.2.2.1
            obtain ⟨-, cU, ⟨c25, cc25⟩, ⟨c26, cc26⟩, ⟨c27, cc27⟩, ⟨c28, cc28⟩, ⟨ck, cck⟩, cK⟩ := dC
            refine g_iret dX7_begin_89 rfl (Nat.le_refl _) (Nat.le_refl _) (hq rfl (by omega) (by omega) hp6 ⟨q0, ⟨(F8 1 (by omega) (by omega)).trans ((Fr2 1 (by omega) (by omega)).trans g1), ⟨fx, (F8 2 (by omega) (by omega)).trans i2⟩, ⟨fr, (F8 3 (by omega) (by omega)).trans ((Fr2 3 (by omega) (by omega)).trans g3), hfr⟩, ⟨_, _, (F8 4 (by omega) (by omega)).trans A2.2.1⟩, Or.inr ⟨D, S, hD1, hD, h2, h6, HT_of (fun i q1 q2 => F8 i (by omega) (by omega)) A2.1⟩, ⟨fpt, (F8 10 (by omega) (by omega)).trans i10⟩, ⟨fu, (F8 11 (by omega) (by omega)).trans ((Fr2 11 (by omega) (by omega)).trans g11)⟩, ⟨fp, (F8 12 (by omega) (by omega)).trans ((Fr2 12 (by omega) (by omega)).trans g12)⟩, w13, ⟨wb, w14⟩, wU, ⟨p24, TU_of (fun i q1 q2 => F7 i (by omega)) cU, ⟨c25, (F7 25 (by omega)).trans cc25⟩, ⟨c26, (F7 26 (by omega)).trans cc26⟩, ⟨c27, (F7 27 (by omega)).trans cc27⟩, ⟨c28, (F7 28 (by omega)).trans cc28⟩, ⟨ck, (F7 kid (by omega)).trans cck⟩, cK⟩, hk, fun i q1 q2 => ?_, ?_, fun i hi => ?_⟩, CO_of (s := 0) (fun i q1 q2 => F7 i (by omega)) O, fun _ => ⟨X6, fun q => by cases q⟩⟩ (fun i q1 q2 => F7 i (by omega)))
            · obtain ⟨M, f, q⟩ := h64 i q1 q2
              exact ⟨M, f, (F7 i (by omega)).trans q⟩
            · obtain ⟨M, f, q⟩ := h29
              exact ⟨M, f, (F7 29 (by omega)).trans q⟩
            · have e : hp6 i = hp i := by
                rcases Nat.lt_or_ge i 14 with r | r
                · rw [F8 i (by omega) r, Fr2 i (by omega) (by omega), E1 i (by omega)]
                · rw [F6 i (by omega) (by omega) (by omega), F5 i (by omega) (by omega), E3 i (by omega), Fr3 i (by omega)]
              rw [e]
              exact hwe i hi
          · exact absurd rfl z3
      · exact no (Or.inr z2)
end DR
