theorem c_row {hp : AH} {n D S T R s sm h k : Nat} {kd nn pp fl : Nat → Nat} {bg it tt : Bool} {lu sl : Int64} {x y z : Int32} {Q : Option Value → AH → Nat → Prop} (hn : 64 ≤ n) (M : MS hp D S T R kd nn pp bg it tt s sm h k fl lu sl)
    (hq0 : (inB 0 5 x && inB 1 6 y && inB 0 30 z) = false → Q (some (.int (-3))) hp n)
    (hq1 : (inB 0 5 x && inB 1 6 y && inB 0 30 z) = true → bg = true → Q (some (.int (-4))) hp n)
    (hq3 : (inB 0 5 x && inB 1 6 y && inB 0 30 z) = true → bg = false → R = 8 → Q (some (.int (-6))) hp n)
    (hq2 : bg = false → R < 8 → ∀ a b c, x = nI a → y = nI b → z = nI c → a ≤ 5 → (1 ≤ b ∧ b ≤ 6) → c ≤ 30 → ∀ hp' : AH, MS hp' D S T (R + 1) (va_up kd R a) (va_up nn R b) (va_up pp R c) bg it tt s sm h k fl lu sl → FRm hp hp' → Q (some (.int (nI R))) hp' n) : CT yX8_row cX8_row 4 (some .int) (rmD 1) [.ref 47, .int x, .int y, .int z] hp n Q := by
  obtain ⟨⟨h2, h6, hD1, hD, hT1, hT3, hR, hRV⟩, ⟨x8, x23, x31, c47, hb⟩, ⟨fk, fn, fp, c48, c49, c50, hA⟩, hX, hF9⟩ := id M
  have out : (inB 0 5 x && inB 1 6 y && inB 0 30 z) = false → G yX8_row cX8_row 4 (some .int) (rmD 1) none Q 0 0 29 [.ref 47, .int x, .int y, .int z] [] hp n := by
    intro e
    refine g_bipush (pc' := 31) (v := -3) dX8_row_29 (by decide) ?_
    exact g_iret dX8_row_31 rfl (Nat.le_refl _) (Nat.le_refl _) (hq0 e)
  show G yX8_row cX8_row 4 (some .int) (rmD 1) none Q 0 0 0 [.ref 47, .int x, .int y, .int z] [] hp n
  refine g_iload_n (pc' := 1) dX8_row_0 rfl rfl ?_
  refine g_iconst (pc' := 2) (v := nI 0) dX8_row_1 (by decide) ?_
  refine g_iconst (pc' := 3) (v := nI 5) dX8_row_2 (by decide) ?_
  refine gc_S 6 [.int x, .int (nI 0), .int (nI 5)] [] cw_X8_78 sm_X8_in dX8_row_3 (by decide) (by decide) (Nat.le_refl _) (Nat.le_refl _) (Nat.le_of_ble_eq_true rfl) rfl (Nat.le_of_ble_eq_true rfl) (c_in ⟨rfl, ?_⟩)
  show G yX8_row cX8_row 4 (some .int) (rmD 1) none Q 0 0 6 [.ref 47, .int x, .int y, .int z] [.int (nI (bI (inB 0 5 x)))] hp n
  cases e1 : inB 0 5 x with
  | false =>
    refine g_if_eqN (tgt := 29) (pc' := 9) dX8_row_6 (by decide) (by first | omega | decide) (fun z1 => ?_) (fun z1 => ?_)
    · exact out (by rw [e1]; rfl)
    · exact absurd rfl z1
  | true =>
    refine g_if_eqN (tgt := 29) (pc' := 9) dX8_row_6 (by decide) (by first | omega | decide) (fun z1 => ?_) (fun z1 => ?_)
    · exact absurd z1 (by decide)
    · refine g_iload_n (pc' := 10) dX8_row_9 rfl rfl ?_
      refine g_iconst (pc' := 11) (v := nI 1) dX8_row_10 (by decide) ?_
      refine g_bipush (pc' := 13) (v := nI 6) dX8_row_11 (by decide) ?_
      refine gc_S 16 [.int y, .int (nI 1), .int (nI 6)] [] cw_X8_78 sm_X8_in dX8_row_13 (by decide) (by decide) (Nat.le_refl _) (Nat.le_refl _) (Nat.le_of_ble_eq_true rfl) rfl (Nat.le_of_ble_eq_true rfl) (c_in ⟨rfl, ?_⟩)
      show G yX8_row cX8_row 4 (some .int) (rmD 1) none Q 0 0 16 [.ref 47, .int x, .int y, .int z] [.int (nI (bI (inB 1 6 y)))] hp n
      cases e2 : inB 1 6 y with
      | false =>
        refine g_if_eqN (tgt := 29) (pc' := 19) dX8_row_16 (by decide) (by first | omega | decide) (fun z2 => ?_) (fun z2 => ?_)
        · exact out (by rw [e1, e2]; rfl)
        · exact absurd rfl z2
      | true =>
        refine g_if_eqN (tgt := 29) (pc' := 19) dX8_row_16 (by decide) (by first | omega | decide) (fun z2 => ?_) (fun z2 => ?_)
        · exact absurd z2 (by decide)
        · refine g_iload_n (pc' := 20) dX8_row_19 rfl rfl ?_
          refine g_iconst (pc' := 21) (v := nI 0) dX8_row_20 (by decide) ?_
          refine g_bipush (pc' := 23) (v := nI 30) dX8_row_21 (by decide) ?_
          refine gc_S 26 [.int z, .int (nI 0), .int (nI 30)] [] cw_X8_78 sm_X8_in dX8_row_23 (by decide) (by decide) (Nat.le_refl _) (Nat.le_refl _) (Nat.le_of_ble_eq_true rfl) rfl (Nat.le_of_ble_eq_true rfl) (c_in ⟨rfl, ?_⟩)
          show G yX8_row cX8_row 4 (some .int) (rmD 1) none Q 0 0 26 [.ref 47, .int x, .int y, .int z] [.int (nI (bI (inB 0 30 z)))] hp n
          cases e3 : inB 0 30 z with
          | false =>
            refine g_if_neN (tgt := 32) (pc' := 29) dX8_row_26 (by decide) (by first | omega | decide) (fun z3 => ?_) (fun z3 => ?_)
            · exact absurd rfl z3
            · exact out (by rw [e1, e2, e3]; rfl)
          | true =>
            refine g_if_neN (tgt := 32) (pc' := 29) dX8_row_26 (by decide) (by first | omega | decide) (fun z3 => ?_) (fun z3 => ?_)
            · refine g_aload_n (pc' := 33) dX8_row_32 rfl rfl ?_
              refine g_get (pc' := 36) fl_X8_82 dX8_row_33 (by omega) (by first | assumption | exact va_up_self _ _ _ | exact (va_up_ne _ _ (by decide)).trans (by assumption) | exact (va_up_ne _ _ (by decide)).trans (va_up_self _ _ _) | exact (va_up_ne _ _ (by decide)).trans ((va_up_ne _ _ (by decide)).trans (by assumption)) | exact (va_up_ne _ _ (by decide)).trans ((va_up_ne _ _ (by decide)).trans (va_up_self _ _ _)) | exact (va_up_ne _ _ (by decide)).trans ((va_up_ne _ _ (by decide)).trans ((va_up_ne _ _ (by decide)).trans (by assumption))) | exact (va_up_ne _ _ (by decide)).trans ((va_up_ne _ _ (by decide)).trans ((va_up_ne _ _ (by decide)).trans ((va_up_ne _ _ (by decide)).trans (by assumption)))) | exact rfl) (by first | assumption | rfl | exact (List.getElem?_set_ne (by decide)).trans (by assumption) | exact List.getElem?_set_self (by omega)) ?_
              cases bg with
              | true =>
                refine g_if_eqN (tgt := 42) (pc' := 39) dX8_row_36 (by decide) (by first | omega | decide) (fun z4 => ?_) (fun z4 => ?_)
                · exact absurd z4 (by decide)
                · refine g_bipush (pc' := 41) (v := -4) dX8_row_39 (by decide) ?_
                  exact g_iret dX8_row_41 rfl (Nat.le_refl _) (Nat.le_refl _) (hq1 (by rw [e1, e2, e3]; rfl) rfl)
              | false =>
                refine g_if_eqN (tgt := 42) (pc' := 39) dX8_row_36 (by decide) (by first | omega | decide) (fun z4 => ?_) (fun z4 => ?_)
                · refine g_aload_n (pc' := 43) dX8_row_42 rfl rfl ?_
                  refine g_get (pc' := 46) fl_X8_86 dX8_row_43 (by omega) (by first | assumption | exact va_up_self _ _ _ | exact (va_up_ne _ _ (by decide)).trans (by assumption) | exact (va_up_ne _ _ (by decide)).trans (va_up_self _ _ _) | exact (va_up_ne _ _ (by decide)).trans ((va_up_ne _ _ (by decide)).trans (by assumption)) | exact (va_up_ne _ _ (by decide)).trans ((va_up_ne _ _ (by decide)).trans (va_up_self _ _ _)) | exact (va_up_ne _ _ (by decide)).trans ((va_up_ne _ _ (by decide)).trans ((va_up_ne _ _ (by decide)).trans (by assumption))) | exact (va_up_ne _ _ (by decide)).trans ((va_up_ne _ _ (by decide)).trans ((va_up_ne _ _ (by decide)).trans ((va_up_ne _ _ (by decide)).trans (by assumption)))) | exact rfl) (by first | assumption | rfl | exact (List.getElem?_set_ne (by decide)).trans (by assumption) | exact List.getElem?_set_self (by omega)) ?_
                  refine g_bipush (pc' := 48) (v := nI 8) dX8_row_46 (by decide) ?_
                  refine g_icmp_neN (tgt := 54) (pc' := 51) dX8_row_48 (by decide) (by first | omega | decide) (by first | omega | decide) (fun z5 => ?_) (fun z5 => ?_)
                  · obtain ⟨a, -, a2, rfl⟩ := inB_t (by decide) (by decide) e1
                    obtain ⟨b, a3, a4, rfl⟩ := inB_t (by decide) (by decide) e2
                    obtain ⟨c, -, a6, rfl⟩ := inB_t (by decide) (by decide) e3
                    refine g_aload_n (pc' := 55) dX8_row_54 rfl rfl ?_
                    refine g_get (pc' := 58) fl_X8_19 dX8_row_55 (by omega) (by first | assumption | exact va_up_self _ _ _ | exact (va_up_ne _ _ (by decide)).trans (by assumption) | exact (va_up_ne _ _ (by decide)).trans (va_up_self _ _ _) | exact (va_up_ne _ _ (by decide)).trans ((va_up_ne _ _ (by decide)).trans (by assumption)) | exact (va_up_ne _ _ (by decide)).trans ((va_up_ne _ _ (by decide)).trans (va_up_self _ _ _)) | exact (va_up_ne _ _ (by decide)).trans ((va_up_ne _ _ (by decide)).trans ((va_up_ne _ _ (by decide)).trans (by assumption))) | exact (va_up_ne _ _ (by decide)).trans ((va_up_ne _ _ (by decide)).trans ((va_up_ne _ _ (by decide)).trans ((va_up_ne _ _ (by decide)).trans (by assumption)))) | exact rfl) (by first | assumption | rfl | exact (List.getElem?_set_ne (by decide)).trans (by assumption) | exact List.getElem?_set_self (by omega)) ?_
                    refine g_aload_n (pc' := 59) dX8_row_58 rfl rfl ?_
                    refine g_get (pc' := 62) fl_X8_86 dX8_row_59 (by omega) (by first | assumption | exact va_up_self _ _ _ | exact (va_up_ne _ _ (by decide)).trans (by assumption) | exact (va_up_ne _ _ (by decide)).trans (va_up_self _ _ _) | exact (va_up_ne _ _ (by decide)).trans ((va_up_ne _ _ (by decide)).trans (by assumption)) | exact (va_up_ne _ _ (by decide)).trans ((va_up_ne _ _ (by decide)).trans (va_up_self _ _ _)) | exact (va_up_ne _ _ (by decide)).trans ((va_up_ne _ _ (by decide)).trans ((va_up_ne _ _ (by decide)).trans (by assumption))) | exact (va_up_ne _ _ (by decide)).trans ((va_up_ne _ _ (by decide)).trans ((va_up_ne _ _ (by decide)).trans ((va_up_ne _ _ (by decide)).trans (by assumption)))) | exact rfl) (by first | assumption | rfl | exact (List.getElem?_set_ne (by decide)).trans (by assumption) | exact List.getElem?_set_self (by omega)) ?_
                    refine g_iload_n (pc' := 63) dX8_row_62 rfl rfl ?_
                    refine g_iast (pc' := 64) dX8_row_63 (by omega) (by first | assumption | exact va_up_self _ _ _ | exact (va_up_ne _ _ (by decide)).trans (by assumption) | exact (va_up_ne _ _ (by decide)).trans (va_up_self _ _ _) | exact (va_up_ne _ _ (by decide)).trans ((va_up_ne _ _ (by decide)).trans (by assumption)) | exact (va_up_ne _ _ (by decide)).trans ((va_up_ne _ _ (by decide)).trans (va_up_self _ _ _)) | exact (va_up_ne _ _ (by decide)).trans ((va_up_ne _ _ (by decide)).trans ((va_up_ne _ _ (by decide)).trans (by assumption))) | exact (va_up_ne _ _ (by decide)).trans ((va_up_ne _ _ (by decide)).trans ((va_up_ne _ _ (by decide)).trans ((va_up_ne _ _ (by decide)).trans (by assumption)))) | exact rfl) ((IX_nI (by omega) (by omega))) ?_
                    refine g_aload_n (pc' := 65) dX8_row_64 rfl rfl ?_
                    refine g_get (pc' := 68) fl_X8_23 dX8_row_65 (by omega) (by first | assumption | exact va_up_self _ _ _ | exact (va_up_ne _ _ (by decide)).trans (by assumption) | exact (va_up_ne _ _ (by decide)).trans (va_up_self _ _ _) | exact (va_up_ne _ _ (by decide)).trans ((va_up_ne _ _ (by decide)).trans (by assumption)) | exact (va_up_ne _ _ (by decide)).trans ((va_up_ne _ _ (by decide)).trans (va_up_self _ _ _)) | exact (va_up_ne _ _ (by decide)).trans ((va_up_ne _ _ (by decide)).trans ((va_up_ne _ _ (by decide)).trans (by assumption))) | exact (va_up_ne _ _ (by decide)).trans ((va_up_ne _ _ (by decide)).trans ((va_up_ne _ _ (by decide)).trans ((va_up_ne _ _ (by decide)).trans (by assumption)))) | exact rfl) (by first | assumption | rfl | exact (List.getElem?_set_ne (by decide)).trans (by assumption) | exact List.getElem?_set_self (by omega)) ?_
                    refine g_aload_n (pc' := 69) dX8_row_68 rfl rfl ?_
                    refine g_get (pc' := 72) fl_X8_86 dX8_row_69 (by omega) (by first | assumption | exact va_up_self _ _ _ | exact (va_up_ne _ _ (by decide)).trans (by assumption) | exact (va_up_ne _ _ (by decide)).trans (va_up_self _ _ _) | exact (va_up_ne _ _ (by decide)).trans ((va_up_ne _ _ (by decide)).trans (by assumption)) | exact (va_up_ne _ _ (by decide)).trans ((va_up_ne _ _ (by decide)).trans (va_up_self _ _ _)) | exact (va_up_ne _ _ (by decide)).trans ((va_up_ne _ _ (by decide)).trans ((va_up_ne _ _ (by decide)).trans (by assumption))) | exact (va_up_ne _ _ (by decide)).trans ((va_up_ne _ _ (by decide)).trans ((va_up_ne _ _ (by decide)).trans ((va_up_ne _ _ (by decide)).trans (by assumption)))) | exact rfl) (by first | assumption | rfl | exact (List.getElem?_set_ne (by decide)).trans (by assumption) | exact List.getElem?_set_self (by omega)) ?_
                    refine g_iload_n (pc' := 73) dX8_row_72 rfl rfl ?_
                    refine g_iast (pc' := 74) dX8_row_73 (by omega) (by first | assumption | exact va_up_self _ _ _ | exact (va_up_ne _ _ (by decide)).trans (by assumption) | exact (va_up_ne _ _ (by decide)).trans (va_up_self _ _ _) | exact (va_up_ne _ _ (by decide)).trans ((va_up_ne _ _ (by decide)).trans (by assumption)) | exact (va_up_ne _ _ (by decide)).trans ((va_up_ne _ _ (by decide)).trans (va_up_self _ _ _)) | exact (va_up_ne _ _ (by decide)).trans ((va_up_ne _ _ (by decide)).trans ((va_up_ne _ _ (by decide)).trans (by assumption))) | exact (va_up_ne _ _ (by decide)).trans ((va_up_ne _ _ (by decide)).trans ((va_up_ne _ _ (by decide)).trans ((va_up_ne _ _ (by decide)).trans (by assumption)))) | exact rfl) ((IX_nI (by omega) (by omega))) ?_
                    refine g_aload_n (pc' := 75) dX8_row_74 rfl rfl ?_
                    refine g_get (pc' := 78) fl_X8_26 dX8_row_75 (by omega) (by first | assumption | exact va_up_self _ _ _ | exact (va_up_ne _ _ (by decide)).trans (by assumption) | exact (va_up_ne _ _ (by decide)).trans (va_up_self _ _ _) | exact (va_up_ne _ _ (by decide)).trans ((va_up_ne _ _ (by decide)).trans (by assumption)) | exact (va_up_ne _ _ (by decide)).trans ((va_up_ne _ _ (by decide)).trans (va_up_self _ _ _)) | exact (va_up_ne _ _ (by decide)).trans ((va_up_ne _ _ (by decide)).trans ((va_up_ne _ _ (by decide)).trans (by assumption))) | exact (va_up_ne _ _ (by decide)).trans ((va_up_ne _ _ (by decide)).trans ((va_up_ne _ _ (by decide)).trans ((va_up_ne _ _ (by decide)).trans (by assumption)))) | exact rfl) (by first | assumption | rfl | exact (List.getElem?_set_ne (by decide)).trans (by assumption) | exact List.getElem?_set_self (by omega)) ?_
                    refine g_aload_n (pc' := 79) dX8_row_78 rfl rfl ?_
                    refine g_get (pc' := 82) fl_X8_86 dX8_row_79 (by omega) (by first | assumption | exact va_up_self _ _ _ | exact (va_up_ne _ _ (by decide)).trans (by assumption) | exact (va_up_ne _ _ (by decide)).trans (va_up_self _ _ _) | exact (va_up_ne _ _ (by decide)).trans ((va_up_ne _ _ (by decide)).trans (by assumption)) | exact (va_up_ne _ _ (by decide)).trans ((va_up_ne _ _ (by decide)).trans (va_up_self _ _ _)) | exact (va_up_ne _ _ (by decide)).trans ((va_up_ne _ _ (by decide)).trans ((va_up_ne _ _ (by decide)).trans (by assumption))) | exact (va_up_ne _ _ (by decide)).trans ((va_up_ne _ _ (by decide)).trans ((va_up_ne _ _ (by decide)).trans ((va_up_ne _ _ (by decide)).trans (by assumption)))) | exact rfl) (by first | assumption | rfl | exact (List.getElem?_set_ne (by decide)).trans (by assumption) | exact List.getElem?_set_self (by omega)) ?_
                    refine g_iload_n (pc' := 83) dX8_row_82 rfl rfl ?_
                    refine g_iast (pc' := 84) dX8_row_83 (by omega) (by first | assumption | exact va_up_self _ _ _ | exact (va_up_ne _ _ (by decide)).trans (by assumption) | exact (va_up_ne _ _ (by decide)).trans (va_up_self _ _ _) | exact (va_up_ne _ _ (by decide)).trans ((va_up_ne _ _ (by decide)).trans (by assumption)) | exact (va_up_ne _ _ (by decide)).trans ((va_up_ne _ _ (by decide)).trans (va_up_self _ _ _)) | exact (va_up_ne _ _ (by decide)).trans ((va_up_ne _ _ (by decide)).trans ((va_up_ne _ _ (by decide)).trans (by assumption))) | exact (va_up_ne _ _ (by decide)).trans ((va_up_ne _ _ (by decide)).trans ((va_up_ne _ _ (by decide)).trans ((va_up_ne _ _ (by decide)).trans (by assumption)))) | exact rfl) ((IX_nI (by omega) (by omega))) ?_
                    refine g_aload_n (pc' := 85) dX8_row_84 rfl rfl ?_
                    refine g_dup (pc' := 86) dX8_row_85 rfl ?_
                    refine g_get (pc' := 89) fl_X8_86 dX8_row_86 (by omega) (by first | assumption | exact va_up_self _ _ _ | exact (va_up_ne _ _ (by decide)).trans (by assumption) | exact (va_up_ne _ _ (by decide)).trans (va_up_self _ _ _) | exact (va_up_ne _ _ (by decide)).trans ((va_up_ne _ _ (by decide)).trans (by assumption)) | exact (va_up_ne _ _ (by decide)).trans ((va_up_ne _ _ (by decide)).trans (va_up_self _ _ _)) | exact (va_up_ne _ _ (by decide)).trans ((va_up_ne _ _ (by decide)).trans ((va_up_ne _ _ (by decide)).trans (by assumption))) | exact (va_up_ne _ _ (by decide)).trans ((va_up_ne _ _ (by decide)).trans ((va_up_ne _ _ (by decide)).trans ((va_up_ne _ _ (by decide)).trans (by assumption)))) | exact rfl) (by first | assumption | rfl | exact (List.getElem?_set_ne (by decide)).trans (by assumption) | exact List.getElem?_set_self (by omega)) ?_
                    refine g_iconst (pc' := 90) (v := nI 1) dX8_row_89 (by decide) ?_
                    first | refine g_iaddN (pc' := 91) dX8_row_90 ?_ | refine g_iadd (pc' := 91) dX8_row_90 ?_
                    refine g_put (pc' := 94) fl_X8_86 ft_8_3 dX8_row_91 (by omega) (by first | assumption | exact va_up_self _ _ _ | exact (va_up_ne _ _ (by decide)).trans (by assumption) | exact (va_up_ne _ _ (by decide)).trans (va_up_self _ _ _) | exact (va_up_ne _ _ (by decide)).trans ((va_up_ne _ _ (by decide)).trans (by assumption)) | exact (va_up_ne _ _ (by decide)).trans ((va_up_ne _ _ (by decide)).trans (va_up_self _ _ _)) | exact (va_up_ne _ _ (by decide)).trans ((va_up_ne _ _ (by decide)).trans ((va_up_ne _ _ (by decide)).trans (by assumption))) | exact (va_up_ne _ _ (by decide)).trans ((va_up_ne _ _ (by decide)).trans ((va_up_ne _ _ (by decide)).trans ((va_up_ne _ _ (by decide)).trans (by assumption)))) | exact rfl) (by first | exact Nat.le_of_ble_eq_true rfl | omega | (simp only [List.length_set]; omega)) rfl rfl ?_
                    refine g_aload_n (pc' := 95) dX8_row_94 rfl rfl ?_
                    refine g_get (pc' := 98) fl_X8_86 dX8_row_95 (by omega) (by first | assumption | exact va_up_self _ _ _ | exact (va_up_ne _ _ (by decide)).trans (by assumption) | exact (va_up_ne _ _ (by decide)).trans (va_up_self _ _ _) | exact (va_up_ne _ _ (by decide)).trans ((va_up_ne _ _ (by decide)).trans (by assumption)) | exact (va_up_ne _ _ (by decide)).trans ((va_up_ne _ _ (by decide)).trans (va_up_self _ _ _)) | exact (va_up_ne _ _ (by decide)).trans ((va_up_ne _ _ (by decide)).trans ((va_up_ne _ _ (by decide)).trans (by assumption))) | exact (va_up_ne _ _ (by decide)).trans ((va_up_ne _ _ (by decide)).trans ((va_up_ne _ _ (by decide)).trans ((va_up_ne _ _ (by decide)).trans (by assumption)))) | exact rfl) (by first | assumption | rfl | exact (List.getElem?_set_ne (by decide)).trans (by assumption) | exact List.getElem?_set_self (by omega)) ?_
                    refine g_iconst (pc' := 99) (v := nI 1) dX8_row_98 (by decide) ?_
                    first | refine g_isubN (pc' := 100) dX8_row_99 (by omega) ?_ | refine g_isub (pc' := 100) dX8_row_99 ?_
                    rw [Nat.add_sub_cancel]
                    refine g_iret dX8_row_100 rfl (Nat.le_refl _) (Nat.le_refl _) (hq2 rfl (by omega) a b c rfl rfl rfl a2 ⟨a3, a4⟩ a6 _ ⟨⟨h2, h6, hD1, hD, hT1, hT3, by omega, fun r hr => ?_⟩, ⟨x8, x23, x31, rfl, (fun q => by cases q)⟩, ⟨_, _, _, rfl, rfl, rfl, fun r hr => ?_⟩, MX_of hX (fun i q1 q2 q3 q4 q5 => ?_) ?_ ?_, ?_⟩ (fun i hi => ?_))
                    · by_cases e : r = R
                      · subst e
                        simp only [va_up_self]
                        exact ⟨a2, a3, a4, a6⟩
                      · rw [va_up_ne _ _ e, va_up_ne _ _ e, va_up_ne _ _ e]
                        exact hRV r (by omega)
                    · by_cases e : r = R
                      · subst e
                        simp only [va_up_self, pk_us]
                        exact ⟨trivial, trivial, trivial⟩
                      · rw [va_up_ne _ _ e, va_up_ne _ _ e, va_up_ne _ _ e, pk_un e, pk_un e, pk_un e]
                        exact hA r (by omega)
                    · rw [va_up_ne _ _ (by omega), va_up_ne _ _ (by omega), va_up_ne _ _ (by omega), va_up_ne _ _ (by omega)]
                    · obtain ⟨f, e⟩ := hX.2.2.2.2.2.2.2.1
                      exact ⟨f, e⟩
                    · obtain ⟨f, e⟩ := hX.2.2.2.2.2.2.2.2.1
                      exact ⟨f, e⟩
                    · obtain ⟨ffl, c56, hffl⟩ := hF9
                      exact ⟨ffl, c56, hffl⟩
                    · rw [va_up_ne _ _ (by omega), va_up_ne _ _ (by omega), va_up_ne _ _ (by omega), va_up_ne _ _ (by omega)]
                  · refine g_bipush (pc' := 53) (v := -6) dX8_row_51 (by decide) ?_
                    exact g_iret dX8_row_53 rfl (Nat.le_refl _) (Nat.le_refl _) (hq3 (by rw [e1, e2, e3]; rfl) rfl z5)
                · exact absurd rfl z4
            · exact absurd z3 (by decide)
theorem c_end {hp : AH} {n D S T R s sm h k : Nat} {kd nn pp fl : Nat → Nat} {bg it tt : Bool} {lu sl : Int64} {Q : Option Value → AH → Nat → Prop} (hn : 64 ≤ n) (M : MS hp D S T R kd nn pp bg it tt s sm h k fl lu sl)
    (hq : ∀ hp' : AH, MS hp' D S T 0 kd nn pp false false false 0 0 0 0 fl (lN 0) (lN 0) → FRm hp hp' → Q (some (.int (nI 1))) hp' n) : CT yX8_end cX8_end 2 (some .int) (rmD 0) [.ref 47] hp n Q := by
  obtain ⟨⟨h2, h6, hD1, hD, hT1, hT3, hR, hRV⟩, ⟨x8, x23, x31, c47, hb⟩, hA, hX, ⟨ffl, c56, hffl⟩⟩ := id M
  show G yX8_end cX8_end 2 (some .int) (rmD 0) none Q 0 0 0 [.ref 47, uu] [] hp n
  refine g_aload_n (pc' := 1) dX8_end_0 rfl rfl ?_
  refine g_iconst (pc' := 2) (v := nI 0) dX8_end_1 (by decide) ?_
  refine g_put (pc' := 5) fl_X8_82 ft_8_7 dX8_end_2 (by omega) (by first | assumption | exact va_up_self _ _ _ | exact (va_up_ne _ _ (by decide)).trans (by assumption) | exact (va_up_ne _ _ (by decide)).trans (va_up_self _ _ _) | exact (va_up_ne _ _ (by decide)).trans ((va_up_ne _ _ (by decide)).trans (by assumption)) | exact (va_up_ne _ _ (by decide)).trans ((va_up_ne _ _ (by decide)).trans (va_up_self _ _ _)) | exact (va_up_ne _ _ (by decide)).trans ((va_up_ne _ _ (by decide)).trans ((va_up_ne _ _ (by decide)).trans (by assumption))) | exact (va_up_ne _ _ (by decide)).trans ((va_up_ne _ _ (by decide)).trans ((va_up_ne _ _ (by decide)).trans ((va_up_ne _ _ (by decide)).trans (by assumption)))) | exact rfl) (by first | exact Nat.le_of_ble_eq_true rfl | omega | (simp only [List.length_set]; omega)) rfl rfl ?_
  refine g_aload_n (pc' := 6) dX8_end_5 rfl rfl ?_
  refine g_iconst (pc' := 7) (v := nI 0) dX8_end_6 (by decide) ?_
  refine g_put (pc' := 10) fl_X8_86 ft_8_3 dX8_end_7 (by omega) (by first | assumption | exact va_up_self _ _ _ | exact (va_up_ne _ _ (by decide)).trans (by assumption) | exact (va_up_ne _ _ (by decide)).trans (va_up_self _ _ _) | exact (va_up_ne _ _ (by decide)).trans ((va_up_ne _ _ (by decide)).trans (by assumption)) | exact (va_up_ne _ _ (by decide)).trans ((va_up_ne _ _ (by decide)).trans (va_up_self _ _ _)) | exact (va_up_ne _ _ (by decide)).trans ((va_up_ne _ _ (by decide)).trans ((va_up_ne _ _ (by decide)).trans (by assumption))) | exact (va_up_ne _ _ (by decide)).trans ((va_up_ne _ _ (by decide)).trans ((va_up_ne _ _ (by decide)).trans ((va_up_ne _ _ (by decide)).trans (by assumption)))) | exact rfl) (by first | exact Nat.le_of_ble_eq_true rfl | omega | (simp only [List.length_set]; omega)) rfl rfl ?_
  rw [up_up]
  refine g_aload_n (pc' := 11) dX8_end_10 rfl rfl ?_
  refine g_iconst (pc' := 12) (v := nI 0) dX8_end_11 (by decide) ?_
  refine g_put (pc' := 15) fl_X8_141 ft_8_14 dX8_end_12 (by omega) (by first | assumption | exact va_up_self _ _ _ | exact (va_up_ne _ _ (by decide)).trans (by assumption) | exact (va_up_ne _ _ (by decide)).trans (va_up_self _ _ _) | exact (va_up_ne _ _ (by decide)).trans ((va_up_ne _ _ (by decide)).trans (by assumption)) | exact (va_up_ne _ _ (by decide)).trans ((va_up_ne _ _ (by decide)).trans (va_up_self _ _ _)) | exact (va_up_ne _ _ (by decide)).trans ((va_up_ne _ _ (by decide)).trans ((va_up_ne _ _ (by decide)).trans (by assumption))) | exact (va_up_ne _ _ (by decide)).trans ((va_up_ne _ _ (by decide)).trans ((va_up_ne _ _ (by decide)).trans ((va_up_ne _ _ (by decide)).trans (by assumption)))) | exact rfl) (by first | exact Nat.le_of_ble_eq_true rfl | omega | (simp only [List.length_set]; omega)) rfl rfl ?_
  rw [up_up]
  refine g_aload_n (pc' := 16) dX8_end_15 rfl rfl ?_
  refine g_iconst (pc' := 17) (v := nI 0) dX8_end_16 (by decide) ?_
  refine g_put (pc' := 20) fl_X8_144 ft_8_15 dX8_end_17 (by omega) (by first | assumption | exact va_up_self _ _ _ | exact (va_up_ne _ _ (by decide)).trans (by assumption) | exact (va_up_ne _ _ (by decide)).trans (va_up_self _ _ _) | exact (va_up_ne _ _ (by decide)).trans ((va_up_ne _ _ (by decide)).trans (by assumption)) | exact (va_up_ne _ _ (by decide)).trans ((va_up_ne _ _ (by decide)).trans (va_up_self _ _ _)) | exact (va_up_ne _ _ (by decide)).trans ((va_up_ne _ _ (by decide)).trans ((va_up_ne _ _ (by decide)).trans (by assumption))) | exact (va_up_ne _ _ (by decide)).trans ((va_up_ne _ _ (by decide)).trans ((va_up_ne _ _ (by decide)).trans ((va_up_ne _ _ (by decide)).trans (by assumption)))) | exact rfl) (by first | exact Nat.le_of_ble_eq_true rfl | omega | (simp only [List.length_set]; omega)) rfl rfl ?_
  rw [up_up]
  refine g_aload_n (pc' := 21) dX8_end_20 rfl rfl ?_
  refine g_iconst (pc' := 22) (v := nI 0) dX8_end_21 (by decide) ?_
  refine g_put (pc' := 25) fl_X8_147 ft_8_17 dX8_end_22 (by omega) (by first | assumption | exact va_up_self _ _ _ | exact (va_up_ne _ _ (by decide)).trans (by assumption) | exact (va_up_ne _ _ (by decide)).trans (va_up_self _ _ _) | exact (va_up_ne _ _ (by decide)).trans ((va_up_ne _ _ (by decide)).trans (by assumption)) | exact (va_up_ne _ _ (by decide)).trans ((va_up_ne _ _ (by decide)).trans (va_up_self _ _ _)) | exact (va_up_ne _ _ (by decide)).trans ((va_up_ne _ _ (by decide)).trans ((va_up_ne _ _ (by decide)).trans (by assumption))) | exact (va_up_ne _ _ (by decide)).trans ((va_up_ne _ _ (by decide)).trans ((va_up_ne _ _ (by decide)).trans ((va_up_ne _ _ (by decide)).trans (by assumption)))) | exact rfl) (by first | exact Nat.le_of_ble_eq_true rfl | omega | (simp only [List.length_set]; omega)) rfl rfl ?_
  rw [up_up]
  refine g_aload_n (pc' := 26) dX8_end_25 rfl rfl ?_
  refine g_iconst (pc' := 27) (v := nI 0) dX8_end_26 (by decide) ?_
  refine g_put (pc' := 30) fl_X8_150 ft_8_18 dX8_end_27 (by omega) (by first | assumption | exact va_up_self _ _ _ | exact (va_up_ne _ _ (by decide)).trans (by assumption) | exact (va_up_ne _ _ (by decide)).trans (va_up_self _ _ _) | exact (va_up_ne _ _ (by decide)).trans ((va_up_ne _ _ (by decide)).trans (by assumption)) | exact (va_up_ne _ _ (by decide)).trans ((va_up_ne _ _ (by decide)).trans (va_up_self _ _ _)) | exact (va_up_ne _ _ (by decide)).trans ((va_up_ne _ _ (by decide)).trans ((va_up_ne _ _ (by decide)).trans (by assumption))) | exact (va_up_ne _ _ (by decide)).trans ((va_up_ne _ _ (by decide)).trans ((va_up_ne _ _ (by decide)).trans ((va_up_ne _ _ (by decide)).trans (by assumption)))) | exact rfl) (by first | exact Nat.le_of_ble_eq_true rfl | omega | (simp only [List.length_set]; omega)) rfl rfl ?_
  rw [up_up]
  refine g_aload_n (pc' := 31) dX8_end_30 rfl rfl ?_
  refine g_iconst (pc' := 32) (v := nI 0) dX8_end_31 (by decide) ?_
  refine g_put (pc' := 35) fl_X8_153 ft_8_19 dX8_end_32 (by omega) (by first | assumption | exact va_up_self _ _ _ | exact (va_up_ne _ _ (by decide)).trans (by assumption) | exact (va_up_ne _ _ (by decide)).trans (va_up_self _ _ _) | exact (va_up_ne _ _ (by decide)).trans ((va_up_ne _ _ (by decide)).trans (by assumption)) | exact (va_up_ne _ _ (by decide)).trans ((va_up_ne _ _ (by decide)).trans (va_up_self _ _ _)) | exact (va_up_ne _ _ (by decide)).trans ((va_up_ne _ _ (by decide)).trans ((va_up_ne _ _ (by decide)).trans (by assumption))) | exact (va_up_ne _ _ (by decide)).trans ((va_up_ne _ _ (by decide)).trans ((va_up_ne _ _ (by decide)).trans ((va_up_ne _ _ (by decide)).trans (by assumption)))) | exact rfl) (by first | exact Nat.le_of_ble_eq_true rfl | omega | (simp only [List.length_set]; omega)) rfl rfl ?_
  rw [up_up]
  refine g_aload_n (pc' := 36) dX8_end_35 rfl rfl ?_
  refine g_iconst (pc' := 37) (v := nI 0) dX8_end_36 (by decide) ?_
  refine g_put (pc' := 40) fl_X8_156 ft_8_20 dX8_end_37 (by omega) (by first | assumption | exact va_up_self _ _ _ | exact (va_up_ne _ _ (by decide)).trans (by assumption) | exact (va_up_ne _ _ (by decide)).trans (va_up_self _ _ _) | exact (va_up_ne _ _ (by decide)).trans ((va_up_ne _ _ (by decide)).trans (by assumption)) | exact (va_up_ne _ _ (by decide)).trans ((va_up_ne _ _ (by decide)).trans (va_up_self _ _ _)) | exact (va_up_ne _ _ (by decide)).trans ((va_up_ne _ _ (by decide)).trans ((va_up_ne _ _ (by decide)).trans (by assumption))) | exact (va_up_ne _ _ (by decide)).trans ((va_up_ne _ _ (by decide)).trans ((va_up_ne _ _ (by decide)).trans ((va_up_ne _ _ (by decide)).trans (by assumption)))) | exact rfl) (by first | exact Nat.le_of_ble_eq_true rfl | omega | (simp only [List.length_set]; omega)) rfl rfl ?_
  rw [up_up]
  refine g_aload_n (pc' := 41) dX8_end_40 rfl rfl ?_
  refine g_lconst (pc' := 42) (v := lN 0) dX8_end_41 (by decide) ?_
  refine g_put (pc' := 45) fl_X8_159 ft_8_21 dX8_end_42 (by omega) (by first | assumption | exact va_up_self _ _ _ | exact (va_up_ne _ _ (by decide)).trans (by assumption) | exact (va_up_ne _ _ (by decide)).trans (va_up_self _ _ _) | exact (va_up_ne _ _ (by decide)).trans ((va_up_ne _ _ (by decide)).trans (by assumption)) | exact (va_up_ne _ _ (by decide)).trans ((va_up_ne _ _ (by decide)).trans (va_up_self _ _ _)) | exact (va_up_ne _ _ (by decide)).trans ((va_up_ne _ _ (by decide)).trans ((va_up_ne _ _ (by decide)).trans (by assumption))) | exact (va_up_ne _ _ (by decide)).trans ((va_up_ne _ _ (by decide)).trans ((va_up_ne _ _ (by decide)).trans ((va_up_ne _ _ (by decide)).trans (by assumption)))) | exact rfl) (by first | exact Nat.le_of_ble_eq_true rfl | omega | (simp only [List.length_set]; omega)) rfl rfl ?_
  rw [up_up]
  refine g_aload_n (pc' := 46) dX8_end_45 rfl rfl ?_
  refine g_lconst (pc' := 47) (v := lN 0) dX8_end_46 (by decide) ?_
  refine g_put (pc' := 50) fl_X8_162 ft_8_22 dX8_end_47 (by omega) (by first | assumption | exact va_up_self _ _ _ | exact (va_up_ne _ _ (by decide)).trans (by assumption) | exact (va_up_ne _ _ (by decide)).trans (va_up_self _ _ _) | exact (va_up_ne _ _ (by decide)).trans ((va_up_ne _ _ (by decide)).trans (by assumption)) | exact (va_up_ne _ _ (by decide)).trans ((va_up_ne _ _ (by decide)).trans (va_up_self _ _ _)) | exact (va_up_ne _ _ (by decide)).trans ((va_up_ne _ _ (by decide)).trans ((va_up_ne _ _ (by decide)).trans (by assumption))) | exact (va_up_ne _ _ (by decide)).trans ((va_up_ne _ _ (by decide)).trans ((va_up_ne _ _ (by decide)).trans ((va_up_ne _ _ (by decide)).trans (by assumption)))) | exact rfl) (by first | exact Nat.le_of_ble_eq_true rfl | omega | (simp only [List.length_set]; omega)) rfl rfl ?_
  rw [up_up]
  refine g_iconst (pc' := 51) (v := nI 0) dX8_end_50 (by decide) ?_
  refine g_istore_n (pc' := 52) dX8_end_51 rfl (by decide) ?_
  show G yX8_end cX8_end 2 (some .int) (rmD 0) none Q 0 0 52 [.ref 47, .int (nI 0)] [] (va_up hp 47 (ob 8 (mo (nI D) (nI S) (nI T) (nI 0) (nI (bI false)) x8 (nI 0) (nI 0) (nI (bI false)) (nI (bI false)) (nI 0) (nI 0) (lN 0) (lN 0) x23 x31))) n
  generalize hfs : mo (nI D) (nI S) (nI T) (nI 0) (nI (bI false)) x8 (nI 0) (nI 0) (nI (bI false)) (nI (bI false)) (nI 0) (nI 0) (lN 0) (lN 0) x23 x31 = fs
  have f16 : fs[16]? = some (.ref 56) := by rw [← hfs]; rfl
  have e56 : va_up hp 47 (ob 8 fs) 56 = aI 8 ffl := (va_up_ne _ _ (by decide)).trans c56
  rw [← up_id e56]
  have loop : ∀ j i ffl, i + j = 8 → (∀ r, r < i → ffl r = -1) → G yX8_end cX8_end 2 (some .int) (rmD 0) none Q 0 0 52 [.ref 47, .int (nI i)] [] (va_up (va_up hp 47 (ob 8 fs)) 56 (aI 8 ffl)) n := by
    intro j
    induction j with
    | zero =>
      intro i ffl hi hf
      refine g_iload_n (pc' := 53) dX8_end_52 rfl rfl ?_
      refine g_bipush (pc' := 55) (v := nI 8) dX8_end_53 (by decide) ?_
      refine g_icmp_geN (tgt := 71) (pc' := 58) dX8_end_55 (by decide) (by first | omega | decide) (by first | omega | decide) (fun z1 => ?_) (fun z1 => ?_)
      · refine g_iconst (pc' := 72) (v := nI 1) dX8_end_71 (by decide) ?_
        subst hfs
        refine g_iret dX8_end_72 rfl (Nat.le_refl _) (Nat.le_refl _) (hq _ ⟨⟨h2, h6, hD1, hD, hT1, hT3, by omega, fun r hr => absurd hr (Nat.not_lt_zero r)⟩, ⟨x8, x23, x31, rfl, (fun q => by cases q)⟩, ?_, MX_of hX (fun i q1 q2 q3 q4 q5 => ?_) ?_ ?_, ⟨ffl, rfl, fun r hr => ?_⟩⟩ (fun i hi => ?_))
        · obtain ⟨fk, fn, fp, c48, c49, c50, -⟩ := hA
          exact ⟨fk, fn, fp, c48, c49, c50, fun r hr => absurd hr (Nat.not_lt_zero r)⟩
        · rw [va_up_ne _ _ (by omega), va_up_ne _ _ (by omega)]
        · obtain ⟨f, e⟩ := hX.2.2.2.2.2.2.2.1
          exact ⟨f, e⟩
        · obtain ⟨f, e⟩ := hX.2.2.2.2.2.2.2.2.1
          exact ⟨f, e⟩
        · have e : bt0 0 r = true := by simp [bt0]
          rw [e]
          exact hf r (by omega)
        · rw [va_up_ne _ _ (by omega), va_up_ne _ _ (by omega)]
      · omega
    | succ j ih =>
      intro i ffl hi hf
      refine g_iload_n (pc' := 53) dX8_end_52 rfl rfl ?_
      refine g_bipush (pc' := 55) (v := nI 8) dX8_end_53 (by decide) ?_
      refine g_icmp_geN (tgt := 71) (pc' := 58) dX8_end_55 (by decide) (by first | omega | decide) (by first | omega | decide) (fun z1 => ?_) (fun z1 => ?_)
      · omega
      · refine g_aload_n (pc' := 59) dX8_end_58 rfl rfl ?_
        refine g_get (pc' := 62) fl_X8_44 dX8_end_59 (by omega) (by first | assumption | exact va_up_self _ _ _ | exact (va_up_ne _ _ (by decide)).trans (by assumption) | exact (va_up_ne _ _ (by decide)).trans (va_up_self _ _ _) | exact (va_up_ne _ _ (by decide)).trans ((va_up_ne _ _ (by decide)).trans (by assumption)) | exact (va_up_ne _ _ (by decide)).trans ((va_up_ne _ _ (by decide)).trans (va_up_self _ _ _)) | exact (va_up_ne _ _ (by decide)).trans ((va_up_ne _ _ (by decide)).trans ((va_up_ne _ _ (by decide)).trans (by assumption))) | exact (va_up_ne _ _ (by decide)).trans ((va_up_ne _ _ (by decide)).trans ((va_up_ne _ _ (by decide)).trans ((va_up_ne _ _ (by decide)).trans (by assumption)))) | exact rfl) (by first | assumption | rfl | exact (List.getElem?_set_ne (by decide)).trans (by assumption) | exact List.getElem?_set_self (by omega)) ?_
        refine g_iload_n (pc' := 63) dX8_end_62 rfl rfl ?_
        refine g_iconst (pc' := 64) (v := -1) dX8_end_63 (by decide) ?_
        refine g_iast (pc' := 65) dX8_end_64 (by omega) (by first | assumption | exact va_up_self _ _ _ | exact (va_up_ne _ _ (by decide)).trans (by assumption) | exact (va_up_ne _ _ (by decide)).trans (va_up_self _ _ _) | exact (va_up_ne _ _ (by decide)).trans ((va_up_ne _ _ (by decide)).trans (by assumption)) | exact (va_up_ne _ _ (by decide)).trans ((va_up_ne _ _ (by decide)).trans (va_up_self _ _ _)) | exact (va_up_ne _ _ (by decide)).trans ((va_up_ne _ _ (by decide)).trans ((va_up_ne _ _ (by decide)).trans (by assumption))) | exact (va_up_ne _ _ (by decide)).trans ((va_up_ne _ _ (by decide)).trans ((va_up_ne _ _ (by decide)).trans ((va_up_ne _ _ (by decide)).trans (by assumption)))) | exact rfl) ((IX_nI (by omega) (by omega))) ?_
        rw [up_up]
        first | refine g_iincN (z := 1) (pc' := 68) dX8_end_65 rfl rfl (by decide) ?_ | refine g_iinc (pc' := 68) dX8_end_65 rfl rfl (by decide) ?_
        refine g_goto (tgt := 52) dX8_end_68 (by decide) ?_
        refine ih (i + 1) _ (by omega) (fun r hr => ?_)
        by_cases e : r = i
        · rw [e, pk_us]
        · rw [pk_un e]; exact hf r (by omega)
  exact loop 8 0 ffl (by omega) (fun r hr => absurd hr (Nat.not_lt_zero r))
