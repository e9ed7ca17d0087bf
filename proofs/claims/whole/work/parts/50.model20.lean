/-! the reference: dice, row, end -/
def inB (lo hi : Nat) (x : Int32) : Bool := decide (nI lo ≤ x) && decide (x ≤ nI hi)
theorem inB_t {lo hi : Nat} {x : Int32} (hh : hi < 2 ^ 31) (hl : lo < 2 ^ 31) (h : inB lo hi x = true) : ∃ v, lo ≤ v ∧ v ≤ hi ∧ x = nI v := by
  unfold inB at h
  rw [Bool.and_eq_true, decide_eq_true_eq, decide_eq_true_eq] at h
  have h0 : ¬ x < 0 := fun q => by
    have h1 := Int32.le_iff_toInt_le.mp h.1
    have h3 := Int32.lt_iff_toInt_lt.mp q
    rw [nI_toInt hl] at h1
    have : (0 : Int32).toInt = 0 := by decide
    omega
  obtain ⟨v, hv, rfl⟩ := nI_of h0
  exact ⟨v, (nI_leI hl hv).mp h.1, (nI_leI hv hh).mp h.2, rfl⟩
theorem c_dice {hp : AH} {n D S T R s sm h k : Nat} {kd nn pp fl : Nat → Nat} {bg it tt : Bool} {lu sl : Int64} {x y z : Int32} {Q : Option Value → AH → Nat → Prop} (hn : 64 ≤ n) (M : MS hp D S T R kd nn pp bg it tt s sm h k fl lu sl)
    (hq0 : (inB 1 5 x && inB 2 6 y && inB 1 3 z) = false → Q (some (.int (-3))) hp n)
    (hq1 : (inB 1 5 x && inB 2 6 y && inB 1 3 z) = true → bg = true → Q (some (.int (-4))) hp n)
    (hq2 : bg = false → ∀ D' S' T', x = nI D' → y = nI S' → z = nI T' → (1 ≤ D' ∧ D' ≤ 5) → (2 ≤ S' ∧ S' ≤ 6) → (1 ≤ T' ∧ T' ≤ 3) → ∀ hp' : AH, MS hp' D' S' T' R kd nn pp bg it tt s sm h k fl lu sl → FRm hp hp' → Q (some (.int (nI 1))) hp' n) : CT yX8_dice cX8_dice 4 (some .int) (rmD 1) [.ref 47, .int x, .int y, .int z] hp n Q := by
  obtain ⟨⟨h2, h6, hD1, hD, hT1, hT3, hR, hRV⟩, ⟨x8, x23, x31, c47, hb⟩, hA, hX, hF9⟩ := id M
  have out : (inB 1 5 x && inB 2 6 y && inB 1 3 z) = false → G yX8_dice cX8_dice 4 (some .int) (rmD 1) none Q 0 0 28 [.ref 47, .int x, .int y, .int z] [] hp n := by
    intro e
    refine g_bipush (pc' := 30) (v := -3) dX8_dice_28 (by decide) ?_
    exact g_iret dX8_dice_30 rfl (Nat.le_refl _) (Nat.le_refl _) (hq0 e)
  show G yX8_dice cX8_dice 4 (some .int) (rmD 1) none Q 0 0 0 [.ref 47, .int x, .int y, .int z] [] hp n
  refine g_iload_n (pc' := 1) dX8_dice_0 rfl rfl ?_
  refine g_iconst (pc' := 2) (v := nI 1) dX8_dice_1 (by decide) ?_
  refine g_iconst (pc' := 3) (v := nI 5) dX8_dice_2 (by decide) ?_
  refine gc_S 6 [.int x, .int (nI 1), .int (nI 5)] [] cw_X8_78 sm_X8_in dX8_dice_3 (by decide) (by decide) (Nat.le_refl _) (Nat.le_refl _) (Nat.le_of_ble_eq_true rfl) rfl (Nat.le_of_ble_eq_true rfl) (c_in ⟨rfl, ?_⟩)
  show G yX8_dice cX8_dice 4 (some .int) (rmD 1) none Q 0 0 6 [.ref 47, .int x, .int y, .int z] [.int (nI (bI (inB 1 5 x)))] hp n
  cases e1 : inB 1 5 x with
  | false =>
    refine g_if_eqN (tgt := 28) (pc' := 9) dX8_dice_6 (by decide) (by first | omega | decide) (fun z1 => ?_) (fun z1 => ?_)
    · exact out (by rw [e1]; rfl)
    · exact absurd rfl z1
  | true =>
    refine g_if_eqN (tgt := 28) (pc' := 9) dX8_dice_6 (by decide) (by first | omega | decide) (fun z1 => ?_) (fun z1 => ?_)
    · exact absurd z1 (by decide)
    · refine g_iload_n (pc' := 10) dX8_dice_9 rfl rfl ?_
      refine g_iconst (pc' := 11) (v := nI 2) dX8_dice_10 (by decide) ?_
      refine g_bipush (pc' := 13) (v := nI 6) dX8_dice_11 (by decide) ?_
      refine gc_S 16 [.int y, .int (nI 2), .int (nI 6)] [] cw_X8_78 sm_X8_in dX8_dice_13 (by decide) (by decide) (Nat.le_refl _) (Nat.le_refl _) (Nat.le_of_ble_eq_true rfl) rfl (Nat.le_of_ble_eq_true rfl) (c_in ⟨rfl, ?_⟩)
      show G yX8_dice cX8_dice 4 (some .int) (rmD 1) none Q 0 0 16 [.ref 47, .int x, .int y, .int z] [.int (nI (bI (inB 2 6 y)))] hp n
      cases e2 : inB 2 6 y with
      | false =>
        refine g_if_eqN (tgt := 28) (pc' := 19) dX8_dice_16 (by decide) (by first | omega | decide) (fun z2 => ?_) (fun z2 => ?_)
        · exact out (by rw [e1, e2]; rfl)
        · exact absurd rfl z2
      | true =>
        refine g_if_eqN (tgt := 28) (pc' := 19) dX8_dice_16 (by decide) (by first | omega | decide) (fun z2 => ?_) (fun z2 => ?_)
        · exact absurd z2 (by decide)
        · refine g_iload_n (pc' := 20) dX8_dice_19 rfl rfl ?_
          refine g_iconst (pc' := 21) (v := nI 1) dX8_dice_20 (by decide) ?_
          refine g_iconst (pc' := 22) (v := nI 3) dX8_dice_21 (by decide) ?_
          refine gc_S 25 [.int z, .int (nI 1), .int (nI 3)] [] cw_X8_78 sm_X8_in dX8_dice_22 (by decide) (by decide) (Nat.le_refl _) (Nat.le_refl _) (Nat.le_of_ble_eq_true rfl) rfl (Nat.le_of_ble_eq_true rfl) (c_in ⟨rfl, ?_⟩)
          show G yX8_dice cX8_dice 4 (some .int) (rmD 1) none Q 0 0 25 [.ref 47, .int x, .int y, .int z] [.int (nI (bI (inB 1 3 z)))] hp n
          cases e3 : inB 1 3 z with
          | false =>
            refine g_if_neN (tgt := 31) (pc' := 28) dX8_dice_25 (by decide) (by first | omega | decide) (fun z3 => ?_) (fun z3 => ?_)
            · exact absurd rfl z3
            · exact out (by rw [e1, e2, e3]; rfl)
          | true =>
            refine g_if_neN (tgt := 31) (pc' := 28) dX8_dice_25 (by decide) (by first | omega | decide) (fun z3 => ?_) (fun z3 => ?_)
            · refine g_aload_n (pc' := 32) dX8_dice_31 rfl rfl ?_
              refine g_get (pc' := 35) fl_X8_82 dX8_dice_32 (by omega) (by first | assumption | exact va_up_self _ _ _ | exact (va_up_ne _ _ (by decide)).trans (by assumption) | exact (va_up_ne _ _ (by decide)).trans (va_up_self _ _ _) | exact (va_up_ne _ _ (by decide)).trans ((va_up_ne _ _ (by decide)).trans (by assumption)) | exact (va_up_ne _ _ (by decide)).trans ((va_up_ne _ _ (by decide)).trans (va_up_self _ _ _)) | exact (va_up_ne _ _ (by decide)).trans ((va_up_ne _ _ (by decide)).trans ((va_up_ne _ _ (by decide)).trans (by assumption))) | exact (va_up_ne _ _ (by decide)).trans ((va_up_ne _ _ (by decide)).trans ((va_up_ne _ _ (by decide)).trans ((va_up_ne _ _ (by decide)).trans (by assumption)))) | exact rfl) (by first | assumption | rfl | exact (List.getElem?_set_ne (by decide)).trans (by assumption) | exact List.getElem?_set_self (by omega)) ?_
              cases bg with
              | true =>
                refine g_if_eqN (tgt := 41) (pc' := 38) dX8_dice_35 (by decide) (by first | omega | decide) (fun z4 => ?_) (fun z4 => ?_)
                · exact absurd z4 (by decide)
                · refine g_bipush (pc' := 40) (v := -4) dX8_dice_38 (by decide) ?_
                  exact g_iret dX8_dice_40 rfl (Nat.le_refl _) (Nat.le_refl _) (hq1 (by rw [e1, e2, e3]; rfl) rfl)
              | false =>
                refine g_if_eqN (tgt := 41) (pc' := 38) dX8_dice_35 (by decide) (by first | omega | decide) (fun z4 => ?_) (fun z4 => ?_)
                · obtain ⟨D', a1, a2, rfl⟩ := inB_t (by decide) (by decide) e1
                  obtain ⟨S', a3, a4, rfl⟩ := inB_t (by decide) (by decide) e2
                  obtain ⟨T', a5, a6, rfl⟩ := inB_t (by decide) (by decide) e3
                  refine g_aload_n (pc' := 42) dX8_dice_41 rfl rfl ?_
                  refine g_iload_n (pc' := 43) dX8_dice_42 rfl rfl ?_
                  refine g_put (pc' := 46) fl_X8_7 ft_8_0 dX8_dice_43 (by omega) (by first | assumption | exact va_up_self _ _ _ | exact (va_up_ne _ _ (by decide)).trans (by assumption) | exact (va_up_ne _ _ (by decide)).trans (va_up_self _ _ _) | exact (va_up_ne _ _ (by decide)).trans ((va_up_ne _ _ (by decide)).trans (by assumption)) | exact (va_up_ne _ _ (by decide)).trans ((va_up_ne _ _ (by decide)).trans (va_up_self _ _ _)) | exact (va_up_ne _ _ (by decide)).trans ((va_up_ne _ _ (by decide)).trans ((va_up_ne _ _ (by decide)).trans (by assumption))) | exact (va_up_ne _ _ (by decide)).trans ((va_up_ne _ _ (by decide)).trans ((va_up_ne _ _ (by decide)).trans ((va_up_ne _ _ (by decide)).trans (by assumption)))) | exact rfl) (by first | exact Nat.le_of_ble_eq_true rfl | omega | (simp only [List.length_set]; omega)) rfl rfl ?_
                  refine g_aload_n (pc' := 47) dX8_dice_46 rfl rfl ?_
                  refine g_iload_n (pc' := 48) dX8_dice_47 rfl rfl ?_
                  refine g_put (pc' := 51) fl_X8_13 ft_8_1 dX8_dice_48 (by omega) (by first | assumption | exact va_up_self _ _ _ | exact (va_up_ne _ _ (by decide)).trans (by assumption) | exact (va_up_ne _ _ (by decide)).trans (va_up_self _ _ _) | exact (va_up_ne _ _ (by decide)).trans ((va_up_ne _ _ (by decide)).trans (by assumption)) | exact (va_up_ne _ _ (by decide)).trans ((va_up_ne _ _ (by decide)).trans (va_up_self _ _ _)) | exact (va_up_ne _ _ (by decide)).trans ((va_up_ne _ _ (by decide)).trans ((va_up_ne _ _ (by decide)).trans (by assumption))) | exact (va_up_ne _ _ (by decide)).trans ((va_up_ne _ _ (by decide)).trans ((va_up_ne _ _ (by decide)).trans ((va_up_ne _ _ (by decide)).trans (by assumption)))) | exact rfl) (by first | exact Nat.le_of_ble_eq_true rfl | omega | (simp only [List.length_set]; omega)) rfl rfl ?_
                  rw [up_up]
                  refine g_aload_n (pc' := 52) dX8_dice_51 rfl rfl ?_
                  refine g_iload_n (pc' := 53) dX8_dice_52 rfl rfl ?_
                  refine g_put (pc' := 56) fl_X8_16 ft_8_2 dX8_dice_53 (by omega) (by first | assumption | exact va_up_self _ _ _ | exact (va_up_ne _ _ (by decide)).trans (by assumption) | exact (va_up_ne _ _ (by decide)).trans (va_up_self _ _ _) | exact (va_up_ne _ _ (by decide)).trans ((va_up_ne _ _ (by decide)).trans (by assumption)) | exact (va_up_ne _ _ (by decide)).trans ((va_up_ne _ _ (by decide)).trans (va_up_self _ _ _)) | exact (va_up_ne _ _ (by decide)).trans ((va_up_ne _ _ (by decide)).trans ((va_up_ne _ _ (by decide)).trans (by assumption))) | exact (va_up_ne _ _ (by decide)).trans ((va_up_ne _ _ (by decide)).trans ((va_up_ne _ _ (by decide)).trans ((va_up_ne _ _ (by decide)).trans (by assumption)))) | exact rfl) (by first | exact Nat.le_of_ble_eq_true rfl | omega | (simp only [List.length_set]; omega)) rfl rfl ?_
                  rw [up_up]
                  refine g_iconst (pc' := 57) (v := nI 1) dX8_dice_56 (by decide) ?_
                  refine g_iret dX8_dice_57 rfl (Nat.le_refl _) (Nat.le_refl _) (hq2 rfl D' S' T' rfl rfl rfl ⟨a1, a2⟩ ⟨a3, a4⟩ ⟨a5, a6⟩ _ ⟨⟨a3, a4, a1, a2, a5, a6, hR, hRV⟩, ⟨x8, x23, x31, rfl, (fun q => by cases q)⟩, MA_of hA (fun i q1 q2 => va_up_ne _ _ (by omega)), MX_of hX (fun i q1 q2 q3 q4 q5 => va_up_ne _ _ (by omega)) (MS_59 M _).1 (MS_59 M _).2, ?_⟩ (fun i hi => va_up_ne _ _ (by omega)))
                  obtain ⟨ffl, c56, hffl⟩ := hF9
                  exact ⟨ffl, (va_up_ne _ _ (by decide)).trans c56, hffl⟩
                · exact absurd rfl z4
            · exact absurd z3 (by decide)
