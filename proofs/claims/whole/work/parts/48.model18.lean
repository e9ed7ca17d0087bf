theorem MG_of6 {hp hp' : AH} {D S T R : Nat} {P : Nat → Nat → Nat} (h : ∀ i, 51 ≤ i → i < 59 → i ≠ 56 → hp' i = hp i) (m : MG hp D S T R P) : MG hp' D S T R P := by
  obtain ⟨fsh, fz, ft, fm, fpt, fsp, fw, m1, m2, m3, m4, m5, m6, m7, m8⟩ := m
  exact ⟨fsh, fz, ft, fm, fpt, fsp, fw, (h 51 (by decide) (by decide) (by decide)).trans m1, (h 52 (by decide) (by decide) (by decide)).trans m2, (h 53 (by decide) (by decide) (by decide)).trans m3, (h 54 (by decide) (by decide) (by decide)).trans m4, (h 55 (by decide) (by decide) (by decide)).trans m5, (h 57 (by decide) (by decide) (by decide)).trans m6, (h 58 (by decide) (by decide) (by decide)).trans m7, m8⟩
/-- x is the number of a row -/
def rwB (R : Nat) (x : Int32) : Bool := decide (nI 0 ≤ x) && decide (x ≤ nI R - nI 1)
theorem rwB_t {R : Nat} {x : Int32} (hR : R ≤ 8) (h : rwB R x = true) : ∃ r, r < R ∧ x = nI r := by
  unfold rwB at h
  rw [Bool.and_eq_true, decide_eq_true_eq, decide_eq_true_eq] at h
  obtain ⟨r, hr, rfl⟩ := nI_of (Int32.not_lt.mpr h.1)
  have h1 := Int32.le_iff_toInt_le.mp h.2
  rw [nI_toInt hr, pk_sub_toInt (by omega) (by decide)] at h1
  exact ⟨r, by omega, rfl⟩
theorem rwB_of {R r : Nat} (hR : R ≤ 8) (hr : r < R) : rwB R (nI r) = true := by
  unfold rwB
  rw [Bool.and_eq_true, decide_eq_true_eq, decide_eq_true_eq]
  refine ⟨nI_le (Nat.zero_le _) (by omega), Int32.le_iff_toInt_le.mpr ?_⟩
  rw [nI_toInt (by omega), pk_sub_toInt (by omega) (by decide)]
  omega
theorem c_fill {hp : AH} {n D S T R s sm h k : Nat} {kd nn pp fl : Nat → Nat} {bg it tt : Bool} {lu sl : Int64} {x : Int32} {Q : Option Value → AH → Nat → Prop} (hn : 64 ≤ n) (M : MS hp D S T R kd nn pp bg it tt s sm h k fl lu sl) (hs : s < 256) (G0 : bg = true → WG D S T R it tt s h k) (hsm : sm + 210 < 2 ^ 31)
    (hq0 : rwB R x = false → Q (some (.int (-2))) hp n)
    (hq1 : ∀ r, r < R → x = nI r → (bg && it && !tt && bt0 s r) = false → Q (some (.int (-4))) hp n)
    (hq2 : ∀ r, r < R → x = nI r → (bg && it && !tt && bt0 s r) = true → ∀ hp' : AH, MS hp' D S T R kd nn pp true false false (s ||| 2 ^ r) (sm + Pf kd nn pp S r h) 0 0 (va_up fl r (Pf kd nn pp S r h)) lu (sl + (lN (sdM D S T R kd nn pp true false s sm h k) - lN (sdM D S T R kd nn pp false false (s ||| 2 ^ r) (sm + Pf kd nn pp S r h) 0 0))) → FRm hp hp' → Q (some (.int (nI (Pf kd nn pp S r h)))) hp' n) : CT yX8_fill cX8_fill 5 (some .int) (rmD 7) [.ref 47, .int x] hp n Q := by
  obtain ⟨⟨h2, h6, hD1, hD, hT1, hT3, hR, hRV⟩, ⟨x8, x23, x31, c47, hb⟩, -⟩ := id M
  obtain ⟨hN, hN1⟩ := nh_le h2 h6 hD
  have b1 := bI_le bg
  have b2 := bI_le it
  have b3 := bI_le tt
  show G yX8_fill cX8_fill 5 (some .int) (rmD 7) none Q 0 0 0 [.ref 47, .int x, uu, uu, uu] [] hp n
  refine g_iload_n (pc' := 1) dX8_fill_0 rfl rfl ?_
  refine g_iconst (pc' := 2) (v := nI 0) dX8_fill_1 (by decide) ?_
  refine g_aload_n (pc' := 3) dX8_fill_2 rfl rfl ?_
  refine g_get (pc' := 6) fl_X8_86 dX8_fill_3 (by omega) (by first | assumption | exact va_up_self _ _ _ | exact (va_up_ne _ _ (by decide)).trans (by assumption) | exact (va_up_ne _ _ (by decide)).trans (va_up_self _ _ _) | exact (va_up_ne _ _ (by decide)).trans ((va_up_ne _ _ (by decide)).trans (by assumption)) | exact (va_up_ne _ _ (by decide)).trans ((va_up_ne _ _ (by decide)).trans (va_up_self _ _ _)) | exact (va_up_ne _ _ (by decide)).trans ((va_up_ne _ _ (by decide)).trans ((va_up_ne _ _ (by decide)).trans (by assumption))) | exact (va_up_ne _ _ (by decide)).trans ((va_up_ne _ _ (by decide)).trans ((va_up_ne _ _ (by decide)).trans ((va_up_ne _ _ (by decide)).trans (by assumption)))) | exact rfl) (by first | assumption | rfl | exact (List.getElem?_set_ne (by decide)).trans (by assumption) | exact List.getElem?_set_self (by omega)) ?_
  refine g_iconst (pc' := 7) (v := nI 1) dX8_fill_6 (by decide) ?_
  refine g_isub (pc' := 8) dX8_fill_7 ?_
  refine gc_S 11 [.int x, .int (nI 0), .int (nI R - nI 1)] [] cw_X8_78 sm_X8_in dX8_fill_8 (by decide) (by decide) (Nat.le_refl _) (Nat.le_refl _) (Nat.le_of_ble_eq_true rfl) rfl (Nat.le_of_ble_eq_true rfl) (c_in ⟨rfl, ?_⟩)
  show G yX8_fill cX8_fill 5 (some .int) (rmD 7) none Q 0 0 11 [.ref 47, .int x, uu, uu, uu] [.int (nI (bI (rwB R x)))] hp n
  cases hw : rwB R x with
  | false =>
    refine g_if_neN (tgt := 17) (pc' := 14) dX8_fill_11 (by decide) (by first | omega | decide) (fun z1 => ?_) (fun z1 => ?_)
    · exact absurd rfl z1
    · refine g_bipush (pc' := 16) (v := -2) dX8_fill_14 (by decide) ?_
      exact g_iret dX8_fill_16 rfl (Nat.le_refl _) (Nat.le_refl _) (hq0 hw)
  | true =>
    obtain ⟨r, hr, rfl⟩ := rwB_t hR hw
    refine g_if_neN (tgt := 17) (pc' := 14) dX8_fill_11 (by decide) (by first | omega | decide) (fun z1 => ?_) (fun z1 => ?_)
    · have no : (bg && it && !tt && bt0 s r) = false → G yX8_fill cX8_fill 5 (some .int) (rmD 7) none Q 0 0 50 [.ref 47, .int (nI r), uu, uu, uu] [] hp n := by
        intro e
        refine g_bipush (pc' := 52) (v := -4) dX8_fill_50 (by decide) ?_
        exact g_iret dX8_fill_52 rfl (Nat.le_refl _) (Nat.le_refl _) (hq1 r hr rfl e)
      refine g_aload_n (pc' := 18) dX8_fill_17 rfl rfl ?_
      refine g_get (pc' := 21) fl_X8_82 dX8_fill_18 (by omega) (by first | assumption | exact va_up_self _ _ _ | exact (va_up_ne _ _ (by decide)).trans (by assumption) | exact (va_up_ne _ _ (by decide)).trans (va_up_self _ _ _) | exact (va_up_ne _ _ (by decide)).trans ((va_up_ne _ _ (by decide)).trans (by assumption)) | exact (va_up_ne _ _ (by decide)).trans ((va_up_ne _ _ (by decide)).trans (va_up_self _ _ _)) | exact (va_up_ne _ _ (by decide)).trans ((va_up_ne _ _ (by decide)).trans ((va_up_ne _ _ (by decide)).trans (by assumption))) | exact (va_up_ne _ _ (by decide)).trans ((va_up_ne _ _ (by decide)).trans ((va_up_ne _ _ (by decide)).trans ((va_up_ne _ _ (by decide)).trans (by assumption)))) | exact rfl) (by first | assumption | rfl | exact (List.getElem?_set_ne (by decide)).trans (by assumption) | exact List.getElem?_set_self (by omega)) ?_
      cases bg with
      | false =>
        refine g_if_eqN (tgt := 50) (pc' := 24) dX8_fill_21 (by decide) (by first | omega | decide) (fun z2 => ?_) (fun z2 => ?_)
        · exact no rfl
        · exact absurd rfl z2
      | true =>
        refine g_if_eqN (tgt := 50) (pc' := 24) dX8_fill_21 (by decide) (by first | omega | decide) (fun z2 => ?_) (fun z2 => ?_)
        · exact absurd z2 (by decide)
        · refine g_aload_n (pc' := 25) dX8_fill_24 rfl rfl ?_
          refine g_get (pc' := 28) fl_X8_147 dX8_fill_25 (by omega) (by first | assumption | exact va_up_self _ _ _ | exact (va_up_ne _ _ (by decide)).trans (by assumption) | exact (va_up_ne _ _ (by decide)).trans (va_up_self _ _ _) | exact (va_up_ne _ _ (by decide)).trans ((va_up_ne _ _ (by decide)).trans (by assumption)) | exact (va_up_ne _ _ (by decide)).trans ((va_up_ne _ _ (by decide)).trans (va_up_self _ _ _)) | exact (va_up_ne _ _ (by decide)).trans ((va_up_ne _ _ (by decide)).trans ((va_up_ne _ _ (by decide)).trans (by assumption))) | exact (va_up_ne _ _ (by decide)).trans ((va_up_ne _ _ (by decide)).trans ((va_up_ne _ _ (by decide)).trans ((va_up_ne _ _ (by decide)).trans (by assumption)))) | exact rfl) (by first | assumption | rfl | exact (List.getElem?_set_ne (by decide)).trans (by assumption) | exact List.getElem?_set_self (by omega)) ?_
          cases it with
          | false =>
            refine g_if_eqN (tgt := 50) (pc' := 31) dX8_fill_28 (by decide) (by first | omega | decide) (fun z3 => ?_) (fun z3 => ?_)
            · exact no rfl
            · exact absurd rfl z3
          | true =>
            refine g_if_eqN (tgt := 50) (pc' := 31) dX8_fill_28 (by decide) (by first | omega | decide) (fun z3 => ?_) (fun z3 => ?_)
            · exact absurd z3 (by decide)
            · refine g_aload_n (pc' := 32) dX8_fill_31 rfl rfl ?_
              refine g_get (pc' := 35) fl_X8_150 dX8_fill_32 (by omega) (by first | assumption | exact va_up_self _ _ _ | exact (va_up_ne _ _ (by decide)).trans (by assumption) | exact (va_up_ne _ _ (by decide)).trans (va_up_self _ _ _) | exact (va_up_ne _ _ (by decide)).trans ((va_up_ne _ _ (by decide)).trans (by assumption)) | exact (va_up_ne _ _ (by decide)).trans ((va_up_ne _ _ (by decide)).trans (va_up_self _ _ _)) | exact (va_up_ne _ _ (by decide)).trans ((va_up_ne _ _ (by decide)).trans ((va_up_ne _ _ (by decide)).trans (by assumption))) | exact (va_up_ne _ _ (by decide)).trans ((va_up_ne _ _ (by decide)).trans ((va_up_ne _ _ (by decide)).trans ((va_up_ne _ _ (by decide)).trans (by assumption)))) | exact rfl) (by first | assumption | rfl | exact (List.getElem?_set_ne (by decide)).trans (by assumption) | exact List.getElem?_set_self (by omega)) ?_
              cases tt with
              | true =>
                refine g_if_neN (tgt := 50) (pc' := 38) dX8_fill_35 (by decide) (by first | omega | decide) (fun z4 => ?_) (fun z4 => ?_)
                · exact no rfl
                · exact absurd z4 (by decide)
              | false =>
                refine g_if_neN (tgt := 50) (pc' := 38) dX8_fill_35 (by decide) (by first | omega | decide) (fun z4 => ?_) (fun z4 => ?_)
                · exact absurd rfl z4
                · refine g_aload_n (pc' := 39) dX8_fill_38 rfl rfl ?_
                  refine g_get (pc' := 42) fl_X8_141 dX8_fill_39 (by omega) (by first | assumption | exact va_up_self _ _ _ | exact (va_up_ne _ _ (by decide)).trans (by assumption) | exact (va_up_ne _ _ (by decide)).trans (va_up_self _ _ _) | exact (va_up_ne _ _ (by decide)).trans ((va_up_ne _ _ (by decide)).trans (by assumption)) | exact (va_up_ne _ _ (by decide)).trans ((va_up_ne _ _ (by decide)).trans (va_up_self _ _ _)) | exact (va_up_ne _ _ (by decide)).trans ((va_up_ne _ _ (by decide)).trans ((va_up_ne _ _ (by decide)).trans (by assumption))) | exact (va_up_ne _ _ (by decide)).trans ((va_up_ne _ _ (by decide)).trans ((va_up_ne _ _ (by decide)).trans ((va_up_ne _ _ (by decide)).trans (by assumption)))) | exact rfl) (by first | assumption | rfl | exact (List.getElem?_set_ne (by decide)).trans (by assumption) | exact List.getElem?_set_self (by omega)) ?_
                  refine g_iload_n (pc' := 43) dX8_fill_42 rfl rfl ?_
                  refine g_ishr (pc' := 44) dX8_fill_43 ?_
                  refine g_iconst (pc' := 45) (v := nI 1) dX8_fill_44 (by decide) ?_
                  refine g_iand (pc' := 46) dX8_fill_45 ?_
                  rw [sh_b (by omega) (by omega)]
                  have hm2 : s / 2 ^ r % 2 < 2 := Nat.mod_lt _ (by decide)
                  refine g_iconst (pc' := 47) (v := nI 1) dX8_fill_46 (by decide) ?_
                  refine g_icmp_neN (tgt := 53) (pc' := 50) dX8_fill_47 (by decide) (by first | omega | decide) (by first | omega | decide) (fun z5 => ?_) (fun z5 => ?_)
                  · have hbt : bt0 s r = true := by
                      have : s / 2 ^ r % 2 = 0 := by omega
                      simp [bt0, this]
                    have hq2' := hq2 r hr rfl (by rw [hbt]; rfl)
                    clear hq2
                    have G1 := G0 rfl
                    obtain ⟨i1, i2, i3, -, i5⟩ := G1.2.1 rfl
                    have hPl := Pf_le (S := S) (x := h) hRV hr
                    refine g_aload_n (pc' := 54) dX8_fill_53 rfl rfl ?_
                    refine gc_V 57 47 [] [] cw_X8_178 im_X8_stand se_X8_stand dX8_fill_54 (by decide) (by decide) (Nat.le_refl _) (Nat.le_refl _) (Nat.le_of_ble_eq_true rfl) rfl (Nat.le_of_ble_eq_true rfl) (by omega) (by first | assumption | exact va_up_self _ _ _ | exact (va_up_ne _ _ (by decide)).trans (by assumption) | exact (va_up_ne _ _ (by decide)).trans (va_up_self _ _ _) | exact (va_up_ne _ _ (by decide)).trans ((va_up_ne _ _ (by decide)).trans (by assumption)) | exact (va_up_ne _ _ (by decide)).trans ((va_up_ne _ _ (by decide)).trans (va_up_self _ _ _)) | exact (va_up_ne _ _ (by decide)).trans ((va_up_ne _ _ (by decide)).trans ((va_up_ne _ _ (by decide)).trans (by assumption))) | exact (va_up_ne _ _ (by decide)).trans ((va_up_ne _ _ (by decide)).trans ((va_up_ne _ _ (by decide)).trans ((va_up_ne _ _ (by decide)).trans (by assumption)))) | exact rfl) rfl rfl (c_standM hn M G1 (by omega) (fun hp1 y31 M1 R1 d47 => ⟨rfl, ?_⟩))
                    obtain ⟨y0, B1⟩ := MS_B M1
                    obtain ⟨-, -, -, -, -, -, -, -, ⟨fsh, fz, ftd, fm, fpt, fsp, fw, c51, c52, c53, c54, c55, c57, c58, hTB, hTM, hpt, hpw, hw1⟩, ⟨fv, c59⟩, ⟨fth, c60⟩⟩ := id B1
                    obtain ⟨hMR, ⟨y8, y23, y31', -, hb1⟩, hA1, hX1, ⟨ffl, c56, hffl⟩⟩ := id M1
                    refine g_lstore_n (pc' := 58) dX8_fill_57 rfl (by decide) ?_
                    refine g_aload_n (pc' := 59) dX8_fill_58 rfl rfl ?_
                    refine g_get (pc' := 62) fl_X8_41 dX8_fill_59 (by omega) (by first | assumption | exact va_up_self _ _ _ | exact (va_up_ne _ _ (by decide)).trans (by assumption) | exact (va_up_ne _ _ (by decide)).trans (va_up_self _ _ _) | exact (va_up_ne _ _ (by decide)).trans ((va_up_ne _ _ (by decide)).trans (by assumption)) | exact (va_up_ne _ _ (by decide)).trans ((va_up_ne _ _ (by decide)).trans (va_up_self _ _ _)) | exact (va_up_ne _ _ (by decide)).trans ((va_up_ne _ _ (by decide)).trans ((va_up_ne _ _ (by decide)).trans (by assumption))) | exact (va_up_ne _ _ (by decide)).trans ((va_up_ne _ _ (by decide)).trans ((va_up_ne _ _ (by decide)).trans ((va_up_ne _ _ (by decide)).trans (by assumption)))) | exact rfl) (by first | assumption | rfl | exact (List.getElem?_set_ne (by decide)).trans (by assumption) | exact List.getElem?_set_self (by omega)) ?_
                    refine g_bipush (pc' := 64) (v := nI 8) dX8_fill_62 (by decide) ?_
                    refine g_aload_n (pc' := 65) dX8_fill_64 rfl rfl ?_
                    refine g_get (pc' := 68) fl_X8_153 dX8_fill_65 (by omega) (by first | assumption | exact va_up_self _ _ _ | exact (va_up_ne _ _ (by decide)).trans (by assumption) | exact (va_up_ne _ _ (by decide)).trans (va_up_self _ _ _) | exact (va_up_ne _ _ (by decide)).trans ((va_up_ne _ _ (by decide)).trans (by assumption)) | exact (va_up_ne _ _ (by decide)).trans ((va_up_ne _ _ (by decide)).trans (va_up_self _ _ _)) | exact (va_up_ne _ _ (by decide)).trans ((va_up_ne _ _ (by decide)).trans ((va_up_ne _ _ (by decide)).trans (by assumption))) | exact (va_up_ne _ _ (by decide)).trans ((va_up_ne _ _ (by decide)).trans ((va_up_ne _ _ (by decide)).trans ((va_up_ne _ _ (by decide)).trans (by assumption)))) | exact rfl) (by first | assumption | rfl | exact (List.getElem?_set_ne (by decide)).trans (by assumption) | exact List.getElem?_set_self (by omega)) ?_
                    first | refine g_imulN (pc' := 69) dX8_fill_68 ?_ | refine g_imul (pc' := 69) dX8_fill_68 ?_
                    refine g_iload_n (pc' := 70) dX8_fill_69 rfl rfl ?_
                    first | refine g_iaddN (pc' := 71) dX8_fill_70 ?_ | refine g_iadd (pc' := 71) dX8_fill_70 ?_
                    refine g_ialdV (pc' := 72) dX8_fill_71 (by omega) (by first | assumption | exact va_up_self _ _ _ | exact (va_up_ne _ _ (by decide)).trans (by assumption) | exact (va_up_ne _ _ (by decide)).trans (va_up_self _ _ _) | exact (va_up_ne _ _ (by decide)).trans ((va_up_ne _ _ (by decide)).trans (by assumption)) | exact (va_up_ne _ _ (by decide)).trans ((va_up_ne _ _ (by decide)).trans (va_up_self _ _ _)) | exact (va_up_ne _ _ (by decide)).trans ((va_up_ne _ _ (by decide)).trans ((va_up_ne _ _ (by decide)).trans (by assumption))) | exact (va_up_ne _ _ (by decide)).trans ((va_up_ne _ _ (by decide)).trans ((va_up_ne _ _ (by decide)).trans ((va_up_ne _ _ (by decide)).trans (by assumption)))) | exact rfl) ((IX_nI (by omega) (by omega))) (hpt _ _ i2 (i5 rfl) hr) ?_
                    refine g_istore (pc' := 74) dX8_fill_72 (by decide) ?_
                    refine g_aload_n (pc' := 75) dX8_fill_74 rfl rfl ?_
                    refine g_get (pc' := 78) fl_X8_44 dX8_fill_75 (by omega) (by first | assumption | exact va_up_self _ _ _ | exact (va_up_ne _ _ (by decide)).trans (by assumption) | exact (va_up_ne _ _ (by decide)).trans (va_up_self _ _ _) | exact (va_up_ne _ _ (by decide)).trans ((va_up_ne _ _ (by decide)).trans (by assumption)) | exact (va_up_ne _ _ (by decide)).trans ((va_up_ne _ _ (by decide)).trans (va_up_self _ _ _)) | exact (va_up_ne _ _ (by decide)).trans ((va_up_ne _ _ (by decide)).trans ((va_up_ne _ _ (by decide)).trans (by assumption))) | exact (va_up_ne _ _ (by decide)).trans ((va_up_ne _ _ (by decide)).trans ((va_up_ne _ _ (by decide)).trans ((va_up_ne _ _ (by decide)).trans (by assumption)))) | exact rfl) (by first | assumption | rfl | exact (List.getElem?_set_ne (by decide)).trans (by assumption) | exact List.getElem?_set_self (by omega)) ?_
                    refine g_iload_n (pc' := 79) dX8_fill_78 rfl rfl ?_
                    refine g_iload (pc' := 81) dX8_fill_79 rfl ?_
                    refine g_iast (pc' := 82) dX8_fill_81 (by omega) (by first | assumption | exact va_up_self _ _ _ | exact (va_up_ne _ _ (by decide)).trans (by assumption) | exact (va_up_ne _ _ (by decide)).trans (va_up_self _ _ _) | exact (va_up_ne _ _ (by decide)).trans ((va_up_ne _ _ (by decide)).trans (by assumption)) | exact (va_up_ne _ _ (by decide)).trans ((va_up_ne _ _ (by decide)).trans (va_up_self _ _ _)) | exact (va_up_ne _ _ (by decide)).trans ((va_up_ne _ _ (by decide)).trans ((va_up_ne _ _ (by decide)).trans (by assumption))) | exact (va_up_ne _ _ (by decide)).trans ((va_up_ne _ _ (by decide)).trans ((va_up_ne _ _ (by decide)).trans ((va_up_ne _ _ (by decide)).trans (by assumption)))) | exact rfl) ((IX_nI (by omega) (by omega))) ?_
                    refine g_aload_n (pc' := 83) dX8_fill_82 rfl rfl ?_
                    refine g_dup (pc' := 84) dX8_fill_83 rfl ?_
                    refine g_get (pc' := 87) fl_X8_144 dX8_fill_84 (by omega) (by first | assumption | exact va_up_self _ _ _ | exact (va_up_ne _ _ (by decide)).trans (by assumption) | exact (va_up_ne _ _ (by decide)).trans (va_up_self _ _ _) | exact (va_up_ne _ _ (by decide)).trans ((va_up_ne _ _ (by decide)).trans (by assumption)) | exact (va_up_ne _ _ (by decide)).trans ((va_up_ne _ _ (by decide)).trans (va_up_self _ _ _)) | exact (va_up_ne _ _ (by decide)).trans ((va_up_ne _ _ (by decide)).trans ((va_up_ne _ _ (by decide)).trans (by assumption))) | exact (va_up_ne _ _ (by decide)).trans ((va_up_ne _ _ (by decide)).trans ((va_up_ne _ _ (by decide)).trans ((va_up_ne _ _ (by decide)).trans (by assumption)))) | exact rfl) (by first | assumption | rfl | exact (List.getElem?_set_ne (by decide)).trans (by assumption) | exact List.getElem?_set_self (by omega)) ?_
                    refine g_iload (pc' := 89) dX8_fill_87 rfl ?_
                    first | refine g_iaddN (pc' := 90) dX8_fill_89 ?_ | refine g_iadd (pc' := 90) dX8_fill_89 ?_
                    refine g_put (pc' := 93) fl_X8_144 ft_8_15 dX8_fill_90 (by omega) (by first | assumption | exact va_up_self _ _ _ | exact (va_up_ne _ _ (by decide)).trans (by assumption) | exact (va_up_ne _ _ (by decide)).trans (va_up_self _ _ _) | exact (va_up_ne _ _ (by decide)).trans ((va_up_ne _ _ (by decide)).trans (by assumption)) | exact (va_up_ne _ _ (by decide)).trans ((va_up_ne _ _ (by decide)).trans (va_up_self _ _ _)) | exact (va_up_ne _ _ (by decide)).trans ((va_up_ne _ _ (by decide)).trans ((va_up_ne _ _ (by decide)).trans (by assumption))) | exact (va_up_ne _ _ (by decide)).trans ((va_up_ne _ _ (by decide)).trans ((va_up_ne _ _ (by decide)).trans ((va_up_ne _ _ (by decide)).trans (by assumption)))) | exact rfl) (by first | exact Nat.le_of_ble_eq_true rfl | omega | (simp only [List.length_set]; omega)) rfl rfl ?_
                    refine g_aload_n (pc' := 94) dX8_fill_93 rfl rfl ?_
                    refine g_aload_n (pc' := 95) dX8_fill_94 rfl rfl ?_
                    refine g_get (pc' := 98) fl_X8_141 dX8_fill_95 (by omega) (by first | assumption | exact va_up_self _ _ _ | exact (va_up_ne _ _ (by decide)).trans (by assumption) | exact (va_up_ne _ _ (by decide)).trans (va_up_self _ _ _) | exact (va_up_ne _ _ (by decide)).trans ((va_up_ne _ _ (by decide)).trans (by assumption)) | exact (va_up_ne _ _ (by decide)).trans ((va_up_ne _ _ (by decide)).trans (va_up_self _ _ _)) | exact (va_up_ne _ _ (by decide)).trans ((va_up_ne _ _ (by decide)).trans ((va_up_ne _ _ (by decide)).trans (by assumption))) | exact (va_up_ne _ _ (by decide)).trans ((va_up_ne _ _ (by decide)).trans ((va_up_ne _ _ (by decide)).trans ((va_up_ne _ _ (by decide)).trans (by assumption)))) | exact rfl) (by first | assumption | rfl | exact (List.getElem?_set_ne (by decide)).trans (by assumption) | exact List.getElem?_set_self (by omega)) ?_
                    refine g_iconst (pc' := 99) (v := nI 1) dX8_fill_98 (by decide) ?_
                    refine g_iload_n (pc' := 100) dX8_fill_99 rfl rfl ?_
                    refine g_ishl (pc' := 101) dX8_fill_100 ?_
                    rw [sh_l (by omega) (by rw [Nat.one_mul]; exact Nat.lt_trans (Nat.pow_lt_pow_right (by decide) (show r < 8 by omega)) (by decide)), Nat.one_mul]
                    refine g_ior (pc' := 102) dX8_fill_101 ?_
                    rw [or_n]
                    refine g_put (pc' := 105) fl_X8_141 ft_8_14 dX8_fill_102 (by omega) (by first | assumption | exact va_up_self _ _ _ | exact (va_up_ne _ _ (by decide)).trans (by assumption) | exact (va_up_ne _ _ (by decide)).trans (va_up_self _ _ _) | exact (va_up_ne _ _ (by decide)).trans ((va_up_ne _ _ (by decide)).trans (by assumption)) | exact (va_up_ne _ _ (by decide)).trans ((va_up_ne _ _ (by decide)).trans (va_up_self _ _ _)) | exact (va_up_ne _ _ (by decide)).trans ((va_up_ne _ _ (by decide)).trans ((va_up_ne _ _ (by decide)).trans (by assumption))) | exact (va_up_ne _ _ (by decide)).trans ((va_up_ne _ _ (by decide)).trans ((va_up_ne _ _ (by decide)).trans ((va_up_ne _ _ (by decide)).trans (by assumption)))) | exact rfl) (by first | exact Nat.le_of_ble_eq_true rfl | omega | (simp only [List.length_set]; omega)) rfl rfl ?_
                    rw [up_up]
                    refine g_aload_n (pc' := 106) dX8_fill_105 rfl rfl ?_
                    refine g_iconst (pc' := 107) (v := nI 0) dX8_fill_106 (by decide) ?_
                    refine g_put (pc' := 110) fl_X8_147 ft_8_17 dX8_fill_107 (by omega) (by first | assumption | exact va_up_self _ _ _ | exact (va_up_ne _ _ (by decide)).trans (by assumption) | exact (va_up_ne _ _ (by decide)).trans (va_up_self _ _ _) | exact (va_up_ne _ _ (by decide)).trans ((va_up_ne _ _ (by decide)).trans (by assumption)) | exact (va_up_ne _ _ (by decide)).trans ((va_up_ne _ _ (by decide)).trans (va_up_self _ _ _)) | exact (va_up_ne _ _ (by decide)).trans ((va_up_ne _ _ (by decide)).trans ((va_up_ne _ _ (by decide)).trans (by assumption))) | exact (va_up_ne _ _ (by decide)).trans ((va_up_ne _ _ (by decide)).trans ((va_up_ne _ _ (by decide)).trans ((va_up_ne _ _ (by decide)).trans (by assumption)))) | exact rfl) (by first | exact Nat.le_of_ble_eq_true rfl | omega | (simp only [List.length_set]; omega)) rfl rfl ?_
                    rw [up_up]
                    refine g_aload_n (pc' := 111) dX8_fill_110 rfl rfl ?_
                    refine g_iconst (pc' := 112) (v := nI 0) dX8_fill_111 (by decide) ?_
                    refine g_put (pc' := 115) fl_X8_153 ft_8_19 dX8_fill_112 (by omega) (by first | assumption | exact va_up_self _ _ _ | exact (va_up_ne _ _ (by decide)).trans (by assumption) | exact (va_up_ne _ _ (by decide)).trans (va_up_self _ _ _) | exact (va_up_ne _ _ (by decide)).trans ((va_up_ne _ _ (by decide)).trans (by assumption)) | exact (va_up_ne _ _ (by decide)).trans ((va_up_ne _ _ (by decide)).trans (va_up_self _ _ _)) | exact (va_up_ne _ _ (by decide)).trans ((va_up_ne _ _ (by decide)).trans ((va_up_ne _ _ (by decide)).trans (by assumption))) | exact (va_up_ne _ _ (by decide)).trans ((va_up_ne _ _ (by decide)).trans ((va_up_ne _ _ (by decide)).trans ((va_up_ne _ _ (by decide)).trans (by assumption)))) | exact rfl) (by first | exact Nat.le_of_ble_eq_true rfl | omega | (simp only [List.length_set]; omega)) rfl rfl ?_
                    rw [up_up]
                    refine g_aload_n (pc' := 116) dX8_fill_115 rfl rfl ?_
                    refine g_iconst (pc' := 117) (v := nI 0) dX8_fill_116 (by decide) ?_
                    refine g_put (pc' := 120) fl_X8_156 ft_8_20 dX8_fill_117 (by omega) (by first | assumption | exact va_up_self _ _ _ | exact (va_up_ne _ _ (by decide)).trans (by assumption) | exact (va_up_ne _ _ (by decide)).trans (va_up_self _ _ _) | exact (va_up_ne _ _ (by decide)).trans ((va_up_ne _ _ (by decide)).trans (by assumption)) | exact (va_up_ne _ _ (by decide)).trans ((va_up_ne _ _ (by decide)).trans (va_up_self _ _ _)) | exact (va_up_ne _ _ (by decide)).trans ((va_up_ne _ _ (by decide)).trans ((va_up_ne _ _ (by decide)).trans (by assumption))) | exact (va_up_ne _ _ (by decide)).trans ((va_up_ne _ _ (by decide)).trans ((va_up_ne _ _ (by decide)).trans ((va_up_ne _ _ (by decide)).trans (by assumption)))) | exact rfl) (by first | exact Nat.le_of_ble_eq_true rfl | omega | (simp only [List.length_set]; omega)) rfl rfl ?_
                    rw [up_up]
                    have M2 : MS (va_up (va_up hp1 56 (aI 8 (upd ffl r (nI (Pf kd nn pp S r h))))) 47 (ob 8 (mog D S T R false false (s ||| 2 ^ r) (sm + Pf kd nn pp S r h) 0 0 lu sl y31))) D S T R kd nn pp true false false (s ||| 2 ^ r) (sm + Pf kd nn pp S r h) 0 0 (va_up fl r (Pf kd nn pp S r h)) lu sl := by
                      obtain ⟨q1, q2, -, -, q5⟩ := hb1 rfl
                      refine ⟨hMR, ⟨_, _, y31, rfl, fun _ => ⟨q1, q2, rfl, rfl, MG_of6 (fun i a1 a2 a3 => ?_) q5⟩⟩, MA_of hA1 (fun i a1 a2 => ?_), MX_of hX1 (fun i a1 a2 a3 a4 a5 => ?_) ⟨fv, c59⟩ ⟨fth, c60⟩, _, rfl, fun j hj => ?_⟩
                      · rw [va_up_ne _ _ (by omega), va_up_ne _ _ a3]
                      · rw [va_up_ne _ _ (by omega), va_up_ne _ _ (by omega)]
                      · rw [va_up_ne _ _ (by omega), va_up_ne _ _ a3]
                      · rw [bt0_or]
                        by_cases e : j = r
                        · subst e
                          rw [pk_us, decide_eq_true rfl]
                          simp [va_up]
                        · rw [pk_un e, hffl j hj, decide_eq_false (fun q => e q.symm)]
                          simp [va_up, e]
                    show G yX8_fill cX8_fill 5 (some .int) (rmD 7) none Q 0 0 120 [.ref 47, .int (nI r), .long (lN (sdM D S T R kd nn pp true false s sm h k)), uu, .int (nI (Pf kd nn pp S r h))] [] (va_up (va_up hp1 56 (aI 8 (upd ffl r (nI (Pf kd nn pp S r h))))) 47 (ob 8 (mog D S T R false false (s ||| 2 ^ r) (sm + Pf kd nn pp S r h) 0 0 lu sl y31))) n
                    refine g_aload_n (pc' := 121) dX8_fill_120 rfl rfl ?_
                    refine g_dup (pc' := 122) dX8_fill_121 rfl ?_
                    refine g_get (pc' := 125) fl_X8_162 dX8_fill_122 (by omega) (by first | assumption | exact va_up_self _ _ _ | exact (va_up_ne _ _ (by decide)).trans (by assumption) | exact (va_up_ne _ _ (by decide)).trans (va_up_self _ _ _) | exact (va_up_ne _ _ (by decide)).trans ((va_up_ne _ _ (by decide)).trans (by assumption)) | exact (va_up_ne _ _ (by decide)).trans ((va_up_ne _ _ (by decide)).trans (va_up_self _ _ _)) | exact (va_up_ne _ _ (by decide)).trans ((va_up_ne _ _ (by decide)).trans ((va_up_ne _ _ (by decide)).trans (by assumption))) | exact (va_up_ne _ _ (by decide)).trans ((va_up_ne _ _ (by decide)).trans ((va_up_ne _ _ (by decide)).trans ((va_up_ne _ _ (by decide)).trans (by assumption)))) | exact rfl) (by first | assumption | rfl | exact (List.getElem?_set_ne (by decide)).trans (by assumption) | exact List.getElem?_set_self (by omega)) ?_
                    refine g_lload_n (pc' := 126) dX8_fill_125 rfl rfl ?_
                    refine g_aload_n (pc' := 127) dX8_fill_126 rfl rfl ?_
                    refine gc_V 130 47 [] [.long (lN (sdM D S T R kd nn pp true false s sm h k)), .long sl, .ref 47] cw_X8_178 im_X8_stand se_X8_stand dX8_fill_127 (by decide) (by decide) (Nat.le_refl _) (Nat.le_refl _) (Nat.le_of_ble_eq_true rfl) rfl (Nat.le_of_ble_eq_true rfl) (by omega) (by first | assumption | exact va_up_self _ _ _ | exact (va_up_ne _ _ (by decide)).trans (by assumption) | exact (va_up_ne _ _ (by decide)).trans (va_up_self _ _ _) | exact (va_up_ne _ _ (by decide)).trans ((va_up_ne _ _ (by decide)).trans (by assumption)) | exact (va_up_ne _ _ (by decide)).trans ((va_up_ne _ _ (by decide)).trans (va_up_self _ _ _)) | exact (va_up_ne _ _ (by decide)).trans ((va_up_ne _ _ (by decide)).trans ((va_up_ne _ _ (by decide)).trans (by assumption))) | exact (va_up_ne _ _ (by decide)).trans ((va_up_ne _ _ (by decide)).trans ((va_up_ne _ _ (by decide)).trans ((va_up_ne _ _ (by decide)).trans (by assumption)))) | exact rfl) rfl rfl (c_standM hn M2 ⟨or_ltR G1.1 hr, (fun q => by cases q), fun _ => ⟨rfl, rfl, rfl⟩⟩ (by omega) (fun hp2 w31 M3 R3 g47 => ⟨rfl, ?_⟩))
                    refine g_lsub (pc' := 131) dX8_fill_130 ?_
                    first | refine g_laddN (pc' := 132) dX8_fill_131 ?_ | refine g_ladd (pc' := 132) dX8_fill_131 ?_
                    refine g_put (pc' := 135) fl_X8_162 ft_8_22 dX8_fill_132 (by omega) (by first | assumption | exact va_up_self _ _ _ | exact (va_up_ne _ _ (by decide)).trans (by assumption) | exact (va_up_ne _ _ (by decide)).trans (va_up_self _ _ _) | exact (va_up_ne _ _ (by decide)).trans ((va_up_ne _ _ (by decide)).trans (by assumption)) | exact (va_up_ne _ _ (by decide)).trans ((va_up_ne _ _ (by decide)).trans (va_up_self _ _ _)) | exact (va_up_ne _ _ (by decide)).trans ((va_up_ne _ _ (by decide)).trans ((va_up_ne _ _ (by decide)).trans (by assumption))) | exact (va_up_ne _ _ (by decide)).trans ((va_up_ne _ _ (by decide)).trans ((va_up_ne _ _ (by decide)).trans ((va_up_ne _ _ (by decide)).trans (by assumption)))) | exact rfl) (by first | exact Nat.le_of_ble_eq_true rfl | omega | (simp only [List.length_set]; omega)) rfl rfl ?_
                    refine g_iload (pc' := 137) dX8_fill_135 rfl ?_
                    refine g_iret dX8_fill_137 rfl (Nat.le_refl _) (Nat.le_refl _) (hq2' _ (MS_u M3 false false _ 0 0 lu _ w31) (fun i hi => ?_))
                    rw [va_up_ne _ _ (by omega), R3 i hi, va_up_ne _ _ (by omega), va_up_ne _ _ (by omega), R1 i hi]
                  · have hbt : bt0 s r = false := by simp [bt0, z5]
                    exact no (by rw [hbt]; rfl)
    · exact absurd z1 (by decide)
