/-! the reference: unit, worth, worthOf, luck, slip, filled, bestRow -/
theorem c_unit {hp : AH} {n D S T R s sm h k : Nat} {kd nn pp fl : Nat → Nat} {bg it tt : Bool} {lu sl : Int64} {Q : Option Value → AH → Nat → Prop} (hn : 64 ≤ n) (M : MS hp D S T R kd nn pp bg it tt s sm h k fl lu sl) (G0 : bg = true → WG D S T R it tt s h k) (hq : Q (some (.long (if bg then lN (uhN D S T R it s k) else -4))) hp n) : CT yX8_unit cX8_unit 1 (some .long) (rmD 3) [.ref 47] hp n Q := by
  obtain ⟨-, ⟨x8, x23, x31, c47, hb⟩, -⟩ := id M
  show G yX8_unit cX8_unit 1 (some .long) (rmD 3) none Q 0 0 0 [.ref 47] [] hp n
  refine g_aload_n (pc' := 1) dX8_unit_0 rfl rfl ?_
  refine g_get (pc' := 4) fl_X8_82 dX8_unit_1 (by omega) (by first | assumption | exact va_up_self _ _ _ | exact (va_up_ne _ _ (by decide)).trans (by assumption) | exact (va_up_ne _ _ (by decide)).trans (va_up_self _ _ _) | exact (va_up_ne _ _ (by decide)).trans ((va_up_ne _ _ (by decide)).trans (by assumption)) | exact (va_up_ne _ _ (by decide)).trans ((va_up_ne _ _ (by decide)).trans (va_up_self _ _ _)) | exact (va_up_ne _ _ (by decide)).trans ((va_up_ne _ _ (by decide)).trans ((va_up_ne _ _ (by decide)).trans (by assumption))) | exact (va_up_ne _ _ (by decide)).trans ((va_up_ne _ _ (by decide)).trans ((va_up_ne _ _ (by decide)).trans ((va_up_ne _ _ (by decide)).trans (by assumption)))) | exact rfl) (by first | assumption | rfl | exact (List.getElem?_set_ne (by decide)).trans (by assumption) | exact List.getElem?_set_self (by omega)) ?_
  cases bg with
  | false =>
    refine g_if_eqN (tgt := 14) (pc' := 7) dX8_unit_4 (by decide) (by first | omega | decide) (fun z1 => ?_) (fun z1 => ?_)
    · refine g_ldc2 (pc' := 17) dX8_unit_14 kl_X8_198 ?_
      exact g_lret dX8_unit_17 rfl (Nat.le_refl _) (Nat.le_refl _) hq
    · exact absurd rfl z1
  | true =>
    obtain ⟨x0, B⟩ := MS_B M
    refine g_if_eqN (tgt := 14) (pc' := 7) dX8_unit_4 (by decide) (by first | omega | decide) (fun z1 => ?_) (fun z1 => ?_)
    · exact absurd z1 (by decide)
    · refine g_aload_n (pc' := 8) dX8_unit_7 rfl rfl ?_
      refine gc_V 11 47 [] [] cw_X8_172 im_X8_unitHere se_X8_unitHere dX8_unit_8 (by decide) (by decide) (Nat.le_refl _) (Nat.le_refl _) (Nat.le_of_ble_eq_true rfl) rfl (Nat.le_of_ble_eq_true rfl) (by omega) (by first | assumption | exact va_up_self _ _ _ | exact (va_up_ne _ _ (by decide)).trans (by assumption) | exact (va_up_ne _ _ (by decide)).trans (va_up_self _ _ _) | exact (va_up_ne _ _ (by decide)).trans ((va_up_ne _ _ (by decide)).trans (by assumption)) | exact (va_up_ne _ _ (by decide)).trans ((va_up_ne _ _ (by decide)).trans (va_up_self _ _ _)) | exact (va_up_ne _ _ (by decide)).trans ((va_up_ne _ _ (by decide)).trans ((va_up_ne _ _ (by decide)).trans (by assumption))) | exact (va_up_ne _ _ (by decide)).trans ((va_up_ne _ _ (by decide)).trans ((va_up_ne _ _ (by decide)).trans ((va_up_ne _ _ (by decide)).trans (by assumption)))) | exact rfl) rfl rfl (c_unitHere (tt := tt) (h := h) hn B rfl rfl rfl (G0 rfl) ⟨rfl, ?_⟩)
      refine g_goto (tgt := 17) dX8_unit_11 (by decide) ?_
      exact g_lret dX8_unit_17 rfl (Nat.le_refl _) (Nat.le_refl _) hq
theorem c_worth {hp : AH} {n D S T R s sm h k : Nat} {kd nn pp fl : Nat → Nat} {bg it tt : Bool} {lu sl : Int64} {Q : Option Value → AH → Nat → Prop} (hn : 64 ≤ n) (M : MS hp D S T R kd nn pp bg it tt s sm h k fl lu sl) (G0 : bg = true → WG D S T R it tt s h k) (hq : ∀ hp' : AH, MS hp' D S T R kd nn pp bg it tt s sm h k fl lu sl → FRm hp hp' → Q (some (.long (if bg then lN (whN D S T R (Pf kd nn pp S) it tt s h k) else -4))) hp' n) : CT yX8_worth cX8_worth 1 (some .long) (rmD 6) [.ref 47] hp n Q := by
  obtain ⟨-, ⟨x8, x23, x31, c47, hb⟩, -⟩ := id M
  show G yX8_worth cX8_worth 1 (some .long) (rmD 6) none Q 0 0 0 [.ref 47] [] hp n
  refine g_aload_n (pc' := 1) dX8_worth_0 rfl rfl ?_
  refine g_get (pc' := 4) fl_X8_82 dX8_worth_1 (by omega) (by first | assumption | exact va_up_self _ _ _ | exact (va_up_ne _ _ (by decide)).trans (by assumption) | exact (va_up_ne _ _ (by decide)).trans (va_up_self _ _ _) | exact (va_up_ne _ _ (by decide)).trans ((va_up_ne _ _ (by decide)).trans (by assumption)) | exact (va_up_ne _ _ (by decide)).trans ((va_up_ne _ _ (by decide)).trans (va_up_self _ _ _)) | exact (va_up_ne _ _ (by decide)).trans ((va_up_ne _ _ (by decide)).trans ((va_up_ne _ _ (by decide)).trans (by assumption))) | exact (va_up_ne _ _ (by decide)).trans ((va_up_ne _ _ (by decide)).trans ((va_up_ne _ _ (by decide)).trans ((va_up_ne _ _ (by decide)).trans (by assumption)))) | exact rfl) (by first | assumption | rfl | exact (List.getElem?_set_ne (by decide)).trans (by assumption) | exact List.getElem?_set_self (by omega)) ?_
  cases bg with
  | false =>
    refine g_if_eqN (tgt := 14) (pc' := 7) dX8_worth_4 (by decide) (by first | omega | decide) (fun z1 => ?_) (fun z1 => ?_)
    · refine g_ldc2 (pc' := 17) dX8_worth_14 kl_X8_198 ?_
      exact g_lret dX8_worth_17 rfl (Nat.le_refl _) (Nat.le_refl _) (hq hp M FRm.rf)
    · exact absurd rfl z1
  | true =>
    obtain ⟨x0, B⟩ := MS_B M
    refine g_if_eqN (tgt := 14) (pc' := 7) dX8_worth_4 (by decide) (by first | omega | decide) (fun z1 => ?_) (fun z1 => ?_)
    · exact absurd z1 (by decide)
    · refine g_aload_n (pc' := 8) dX8_worth_7 rfl rfl ?_
      refine gc_V 11 47 [] [] cw_X8_168 im_X8_worthHere se_X8_worthHere dX8_worth_8 (by decide) (by decide) (Nat.le_refl _) (Nat.le_refl _) (Nat.le_of_ble_eq_true rfl) rfl (Nat.le_of_ble_eq_true rfl) (by omega) (by first | assumption | exact va_up_self _ _ _ | exact (va_up_ne _ _ (by decide)).trans (by assumption) | exact (va_up_ne _ _ (by decide)).trans (va_up_self _ _ _) | exact (va_up_ne _ _ (by decide)).trans ((va_up_ne _ _ (by decide)).trans (by assumption)) | exact (va_up_ne _ _ (by decide)).trans ((va_up_ne _ _ (by decide)).trans (va_up_self _ _ _)) | exact (va_up_ne _ _ (by decide)).trans ((va_up_ne _ _ (by decide)).trans ((va_up_ne _ _ (by decide)).trans (by assumption))) | exact (va_up_ne _ _ (by decide)).trans ((va_up_ne _ _ (by decide)).trans ((va_up_ne _ _ (by decide)).trans ((va_up_ne _ _ (by decide)).trans (by assumption)))) | exact rfl) rfl rfl (c_worthHere hn B rfl rfl rfl rfl rfl (G0 rfl) (fun hp' S1 => ⟨rfl, ?_⟩))
      refine g_goto (tgt := 17) dX8_worth_11 (by decide) ?_
      exact g_lret dX8_worth_17 rfl (Nat.le_refl _) (Nat.le_refl _) (hq hp' (MS_S M S1) (SCr_FR S1))
theorem c_worthOf {hp : AH} {n D S T R s sm h k : Nat} {kd nn pp fl : Nat → Nat} {bg it tt : Bool} {lu sl : Int64} {x : Int32} {Q : Option Value → AH → Nat → Prop} (hn : 64 ≤ n) (M : MS hp D S T R kd nn pp bg it tt s sm h k fl lu sl) (hk31 : k < 2 ^ 31) (G0 : bg = true → WG D S T R it tt s h k)
    (hq0 : mhB bg it tt k = false → Q (some (.long (-4))) hp n)
    (hq1 : mhB bg it tt k = true → helN D S h x = none → Q (some (.long (-3))) hp n)
    (hq2 : mhB bg it tt k = true → ∀ g, helN D S h x = some g → ∀ hp' : AH, MS hp' D S T R kd nn pp bg it tt s sm h k fl lu sl → FRm hp hp' → Q (some (.long (lN (hv D S (vl D S (gd D S T R (Pf kd nn pp S) s) (k - 1)) g)))) hp' n) : CT yX8_worthOf cX8_worthOf 3 (some .long) (rmD 5) [.ref 47, .int x] hp n Q := by
  obtain ⟨⟨h2, h6, hD1, hD, hT1, hT3, hR, hRV⟩, ⟨x8, x23, x31, c47, hb⟩, -⟩ := id M
  obtain ⟨hN, hN1⟩ := nh_le h2 h6 hD
  show G yX8_worthOf cX8_worthOf 3 (some .long) (rmD 5) none Q 0 0 0 [.ref 47, .int x, uu] [] hp n
  refine g_aload_n (pc' := 1) dX8_worthOf_0 rfl rfl ?_
  refine gc_V 4 47 [] [] cw_X8_192 im_X8_mayHold se_X8_mayHold dX8_worthOf_1 (by decide) (by decide) (Nat.le_refl _) (Nat.le_refl _) (Nat.le_of_ble_eq_true rfl) rfl (Nat.le_of_ble_eq_true rfl) (by omega) (by first | assumption | exact va_up_self _ _ _ | exact (va_up_ne _ _ (by decide)).trans (by assumption) | exact (va_up_ne _ _ (by decide)).trans (va_up_self _ _ _) | exact (va_up_ne _ _ (by decide)).trans ((va_up_ne _ _ (by decide)).trans (by assumption)) | exact (va_up_ne _ _ (by decide)).trans ((va_up_ne _ _ (by decide)).trans (va_up_self _ _ _)) | exact (va_up_ne _ _ (by decide)).trans ((va_up_ne _ _ (by decide)).trans ((va_up_ne _ _ (by decide)).trans (by assumption))) | exact (va_up_ne _ _ (by decide)).trans ((va_up_ne _ _ (by decide)).trans ((va_up_ne _ _ (by decide)).trans ((va_up_ne _ _ (by decide)).trans (by assumption)))) | exact rfl) rfl rfl (c_mayHold (D := D) (S := S) (T := T) (R := R) (bg := bg) (it := it) (tt := tt) (k := k) hn c47 mo_MF rfl rfl rfl rfl hk31 ⟨rfl, ?_⟩)
  cases hm : mhB bg it tt k with
  | false =>
    refine g_if_neN (tgt := 11) (pc' := 7) dX8_worthOf_4 (by decide) (by first | omega | decide) (fun z1 => ?_) (fun z1 => ?_)
    · exact absurd rfl z1
    · refine g_ldc2 (pc' := 10) dX8_worthOf_7 kl_X8_198 ?_
      exact g_lret dX8_worthOf_10 rfl (Nat.le_refl _) (Nat.le_refl _) (hq0 hm)
  | true =>
    have hq1' := hq1 hm
    have hq2' := hq2 hm
    clear hq1 hq2
    simp only [mhB, Bool.and_eq_true, Bool.not_eq_true', decide_eq_true_eq] at hm
    obtain ⟨⟨⟨rfl, rfl⟩, rfl⟩, hk0⟩ := hm
    have G1 := G0 rfl
    obtain ⟨i1, i2, i3, -, i5⟩ := G1.2.1 rfl
    obtain ⟨x0, B⟩ := MS_B M
    have c47' := B.1
    refine g_if_neN (tgt := 11) (pc' := 7) dX8_worthOf_4 (by decide) (by first | omega | decide) (fun z1 => ?_) (fun z1 => ?_)
    · refine g_aload_n (pc' := 12) dX8_worthOf_11 rfl rfl ?_
      refine g_iload_n (pc' := 13) dX8_worthOf_12 rfl rfl ?_
      refine gc_V 16 47 [.int x] [] cw_X8_195 im_X8_heldOf se_X8_heldOf dX8_worthOf_13 (by decide) (by decide) (Nat.le_refl _) (Nat.le_refl _) (Nat.le_of_ble_eq_true rfl) rfl (Nat.le_of_ble_eq_true rfl) (by omega) (by first | assumption | exact va_up_self _ _ _ | exact (va_up_ne _ _ (by decide)).trans (by assumption) | exact (va_up_ne _ _ (by decide)).trans (va_up_self _ _ _) | exact (va_up_ne _ _ (by decide)).trans ((va_up_ne _ _ (by decide)).trans (by assumption)) | exact (va_up_ne _ _ (by decide)).trans ((va_up_ne _ _ (by decide)).trans (va_up_self _ _ _)) | exact (va_up_ne _ _ (by decide)).trans ((va_up_ne _ _ (by decide)).trans ((va_up_ne _ _ (by decide)).trans (by assumption))) | exact (va_up_ne _ _ (by decide)).trans ((va_up_ne _ _ (by decide)).trans ((va_up_ne _ _ (by decide)).trans ((va_up_ne _ _ (by decide)).trans (by assumption)))) | exact rfl) rfl rfl (c_heldOf hn B rfl i2 ⟨rfl, ?_⟩)
      cases hg : helN D S h x with
      | none =>
        show G yX8_worthOf cX8_worthOf 3 (some .long) (rmD 5) none Q 0 0 16 [.ref 47, .int x, uu] [.int (-1)] hp n
        refine g_istore_n (pc' := 17) dX8_worthOf_16 rfl (by decide) ?_
        refine g_iload_n (pc' := 18) dX8_worthOf_17 rfl rfl ?_
        refine g_iconst (pc' := 19) (v := -1) dX8_worthOf_18 (by decide) ?_
        refine g_icmp_ne (tgt := 28) (pc' := 22) dX8_worthOf_19 (by decide) (fun z2 => ?_) (fun z2 => ?_)
        · exact absurd rfl z2
        · refine g_ldc2 (pc' := 25) dX8_worthOf_22 kl_X8_200 ?_
          refine g_goto (tgt := 33) dX8_worthOf_25 (by decide) ?_
          exact g_lret dX8_worthOf_33 rfl (Nat.le_refl _) (Nat.le_refl _) (hq1' hg)
      | some g =>
        obtain ⟨hgl, hgp⟩ := helN_ok h2 h6 hD hg
        show G yX8_worthOf cX8_worthOf 3 (some .long) (rmD 5) none Q 0 0 16 [.ref 47, .int x, uu] [.int (nI g)] hp n
        refine g_istore_n (pc' := 17) dX8_worthOf_16 rfl (by decide) ?_
        refine g_iload_n (pc' := 18) dX8_worthOf_17 rfl rfl ?_
        refine g_iconst (pc' := 19) (v := -1) dX8_worthOf_18 (by decide) ?_
        refine g_icmp_ne (tgt := 28) (pc' := 22) dX8_worthOf_19 (by decide) (fun z2 => ?_) (fun z2 => ?_)
        · refine g_aload_n (pc' := 29) dX8_worthOf_28 rfl rfl ?_
          refine g_iload_n (pc' := 30) dX8_worthOf_29 rfl rfl ?_
          refine gc_V 33 47 [.int (nI g)] [] cw_X8_165 im_X8_holdWorth se_X8_holdWorth dX8_worthOf_30 (by decide) (by decide) (Nat.le_refl _) (Nat.le_refl _) (Nat.le_of_ble_eq_true rfl) rfl (Nat.le_of_ble_eq_true rfl) (by omega) (by first | assumption | exact va_up_self _ _ _ | exact (va_up_ne _ _ (by decide)).trans (by assumption) | exact (va_up_ne _ _ (by decide)).trans (va_up_self _ _ _) | exact (va_up_ne _ _ (by decide)).trans ((va_up_ne _ _ (by decide)).trans (by assumption)) | exact (va_up_ne _ _ (by decide)).trans ((va_up_ne _ _ (by decide)).trans (va_up_self _ _ _)) | exact (va_up_ne _ _ (by decide)).trans ((va_up_ne _ _ (by decide)).trans ((va_up_ne _ _ (by decide)).trans (by assumption))) | exact (va_up_ne _ _ (by decide)).trans ((va_up_ne _ _ (by decide)).trans ((va_up_ne _ _ (by decide)).trans ((va_up_ne _ _ (by decide)).trans (by assumption)))) | exact rfl) rfl rfl (c_holdWorth hn B rfl rfl G1.1 i1 (by omega) i3 hgl (fun hp' S1 => ⟨rfl, ?_⟩))
          exact g_lret dX8_worthOf_33 rfl (Nat.le_refl _) (Nat.le_refl _) (hq2' g hg hp' (MS_S M S1) (SCr_FR S1))
        · exact absurd z2 (nI_nm1 (by omega))
    · exact absurd z1 (by decide)
theorem c_luck {hp : AH} {n D S T R s sm h k : Nat} {kd nn pp fl : Nat → Nat} {bg it tt : Bool} {lu sl : Int64} {Q : Option Value → AH → Nat → Prop} (hn : 64 ≤ n) (M : MS hp D S T R kd nn pp bg it tt s sm h k fl lu sl) (hq : Q (some (.long lu)) hp n) : CT yX8_luck cX8_luck 1 (some .long) (rmD 0) [.ref 47] hp n Q := by
  obtain ⟨-, ⟨x8, x23, x31, c47, hb⟩, -⟩ := id M
  show G yX8_luck cX8_luck 1 (some .long) (rmD 0) none Q 0 0 0 [.ref 47] [] hp n
  refine g_aload_n (pc' := 1) dX8_luck_0 rfl rfl ?_
  refine g_get (pc' := 4) fl_X8_159 dX8_luck_1 (by omega) (by first | assumption | exact va_up_self _ _ _ | exact (va_up_ne _ _ (by decide)).trans (by assumption) | exact (va_up_ne _ _ (by decide)).trans (va_up_self _ _ _) | exact (va_up_ne _ _ (by decide)).trans ((va_up_ne _ _ (by decide)).trans (by assumption)) | exact (va_up_ne _ _ (by decide)).trans ((va_up_ne _ _ (by decide)).trans (va_up_self _ _ _)) | exact (va_up_ne _ _ (by decide)).trans ((va_up_ne _ _ (by decide)).trans ((va_up_ne _ _ (by decide)).trans (by assumption))) | exact (va_up_ne _ _ (by decide)).trans ((va_up_ne _ _ (by decide)).trans ((va_up_ne _ _ (by decide)).trans ((va_up_ne _ _ (by decide)).trans (by assumption)))) | exact rfl) (by first | assumption | rfl | exact (List.getElem?_set_ne (by decide)).trans (by assumption) | exact List.getElem?_set_self (by omega)) ?_
  exact g_lret dX8_luck_4 rfl (Nat.le_refl _) (Nat.le_refl _) hq
theorem c_slip {hp : AH} {n D S T R s sm h k : Nat} {kd nn pp fl : Nat → Nat} {bg it tt : Bool} {lu sl : Int64} {Q : Option Value → AH → Nat → Prop} (hn : 64 ≤ n) (M : MS hp D S T R kd nn pp bg it tt s sm h k fl lu sl) (hq : Q (some (.long sl)) hp n) : CT yX8_slip cX8_slip 1 (some .long) (rmD 0) [.ref 47] hp n Q := by
  obtain ⟨-, ⟨x8, x23, x31, c47, hb⟩, -⟩ := id M
  show G yX8_slip cX8_slip 1 (some .long) (rmD 0) none Q 0 0 0 [.ref 47] [] hp n
  refine g_aload_n (pc' := 1) dX8_slip_0 rfl rfl ?_
  refine g_get (pc' := 4) fl_X8_162 dX8_slip_1 (by omega) (by first | assumption | exact va_up_self _ _ _ | exact (va_up_ne _ _ (by decide)).trans (by assumption) | exact (va_up_ne _ _ (by decide)).trans (va_up_self _ _ _) | exact (va_up_ne _ _ (by decide)).trans ((va_up_ne _ _ (by decide)).trans (by assumption)) | exact (va_up_ne _ _ (by decide)).trans ((va_up_ne _ _ (by decide)).trans (va_up_self _ _ _)) | exact (va_up_ne _ _ (by decide)).trans ((va_up_ne _ _ (by decide)).trans ((va_up_ne _ _ (by decide)).trans (by assumption))) | exact (va_up_ne _ _ (by decide)).trans ((va_up_ne _ _ (by decide)).trans ((va_up_ne _ _ (by decide)).trans ((va_up_ne _ _ (by decide)).trans (by assumption)))) | exact rfl) (by first | assumption | rfl | exact (List.getElem?_set_ne (by decide)).trans (by assumption) | exact List.getElem?_set_self (by omega)) ?_
  exact g_lret dX8_slip_4 rfl (Nat.le_refl _) (Nat.le_refl _) hq
theorem c_filled {hp : AH} {n D S T R s sm h k : Nat} {kd nn pp fl : Nat → Nat} {bg it tt : Bool} {lu sl : Int64} {x : Int32} {Q : Option Value → AH → Nat → Prop} (hn : 64 ≤ n) (M : MS hp D S T R kd nn pp bg it tt s sm h k fl lu sl)
    (hq0 : rwB R x = false → Q (some (.int (-2))) hp n) (hq1 : ∀ r, r < R → x = nI r → Q (some (.int (if bt0 s r then -1 else nI (fl r)))) hp n) : CT yX8_filled cX8_filled 2 (some .int) (rmD 1) [.ref 47, .int x] hp n Q := by
  obtain ⟨⟨h2, h6, hD1, hD, hT1, hT3, hR, hRV⟩, ⟨x8, x23, x31, c47, hb⟩, -, -, ⟨ffl, c56, hffl⟩⟩ := id M
  show G yX8_filled cX8_filled 2 (some .int) (rmD 1) none Q 0 0 0 [.ref 47, .int x] [] hp n
  refine g_iload_n (pc' := 1) dX8_filled_0 rfl rfl ?_
  refine g_iconst (pc' := 2) (v := nI 0) dX8_filled_1 (by decide) ?_
  refine g_aload_n (pc' := 3) dX8_filled_2 rfl rfl ?_
  refine g_get (pc' := 6) fl_X8_86 dX8_filled_3 (by omega) (by first | assumption | exact va_up_self _ _ _ | exact (va_up_ne _ _ (by decide)).trans (by assumption) | exact (va_up_ne _ _ (by decide)).trans (va_up_self _ _ _) | exact (va_up_ne _ _ (by decide)).trans ((va_up_ne _ _ (by decide)).trans (by assumption)) | exact (va_up_ne _ _ (by decide)).trans ((va_up_ne _ _ (by decide)).trans (va_up_self _ _ _)) | exact (va_up_ne _ _ (by decide)).trans ((va_up_ne _ _ (by decide)).trans ((va_up_ne _ _ (by decide)).trans (by assumption))) | exact (va_up_ne _ _ (by decide)).trans ((va_up_ne _ _ (by decide)).trans ((va_up_ne _ _ (by decide)).trans ((va_up_ne _ _ (by decide)).trans (by assumption)))) | exact rfl) (by first | assumption | rfl | exact (List.getElem?_set_ne (by decide)).trans (by assumption) | exact List.getElem?_set_self (by omega)) ?_
  refine g_iconst (pc' := 7) (v := nI 1) dX8_filled_6 (by decide) ?_
  refine g_isub (pc' := 8) dX8_filled_7 ?_
  refine gc_S 11 [.int x, .int (nI 0), .int (nI R - nI 1)] [] cw_X8_78 sm_X8_in dX8_filled_8 (by decide) (by decide) (Nat.le_refl _) (Nat.le_refl _) (Nat.le_of_ble_eq_true rfl) rfl (Nat.le_of_ble_eq_true rfl) (c_in ⟨rfl, ?_⟩)
  show G yX8_filled cX8_filled 2 (some .int) (rmD 1) none Q 0 0 11 [.ref 47, .int x] [.int (nI (bI (rwB R x)))] hp n
  cases hw : rwB R x with
  | false =>
    refine g_if_eqN (tgt := 23) (pc' := 14) dX8_filled_11 (by decide) (by first | omega | decide) (fun z1 => ?_) (fun z1 => ?_)
    · refine g_bipush (pc' := 25) (v := -2) dX8_filled_23 (by decide) ?_
      exact g_iret dX8_filled_25 rfl (Nat.le_refl _) (Nat.le_refl _) (hq0 hw)
    · exact absurd rfl z1
  | true =>
    obtain ⟨r, hr, rfl⟩ := rwB_t hR hw
    refine g_if_eqN (tgt := 23) (pc' := 14) dX8_filled_11 (by decide) (by first | omega | decide) (fun z1 => ?_) (fun z1 => ?_)
    · exact absurd z1 (by decide)
    · refine g_aload_n (pc' := 15) dX8_filled_14 rfl rfl ?_
      refine g_get (pc' := 18) fl_X8_44 dX8_filled_15 (by omega) (by first | assumption | exact va_up_self _ _ _ | exact (va_up_ne _ _ (by decide)).trans (by assumption) | exact (va_up_ne _ _ (by decide)).trans (va_up_self _ _ _) | exact (va_up_ne _ _ (by decide)).trans ((va_up_ne _ _ (by decide)).trans (by assumption)) | exact (va_up_ne _ _ (by decide)).trans ((va_up_ne _ _ (by decide)).trans (va_up_self _ _ _)) | exact (va_up_ne _ _ (by decide)).trans ((va_up_ne _ _ (by decide)).trans ((va_up_ne _ _ (by decide)).trans (by assumption))) | exact (va_up_ne _ _ (by decide)).trans ((va_up_ne _ _ (by decide)).trans ((va_up_ne _ _ (by decide)).trans ((va_up_ne _ _ (by decide)).trans (by assumption)))) | exact rfl) (by first | assumption | rfl | exact (List.getElem?_set_ne (by decide)).trans (by assumption) | exact List.getElem?_set_self (by omega)) ?_
      refine g_iload_n (pc' := 19) dX8_filled_18 rfl rfl ?_
      refine g_ialdV (pc' := 20) dX8_filled_19 (by omega) (by first | assumption | exact va_up_self _ _ _ | exact (va_up_ne _ _ (by decide)).trans (by assumption) | exact (va_up_ne _ _ (by decide)).trans (va_up_self _ _ _) | exact (va_up_ne _ _ (by decide)).trans ((va_up_ne _ _ (by decide)).trans (by assumption)) | exact (va_up_ne _ _ (by decide)).trans ((va_up_ne _ _ (by decide)).trans (va_up_self _ _ _)) | exact (va_up_ne _ _ (by decide)).trans ((va_up_ne _ _ (by decide)).trans ((va_up_ne _ _ (by decide)).trans (by assumption))) | exact (va_up_ne _ _ (by decide)).trans ((va_up_ne _ _ (by decide)).trans ((va_up_ne _ _ (by decide)).trans ((va_up_ne _ _ (by decide)).trans (by assumption)))) | exact rfl) ((IX_nI (by omega) (by omega))) (hffl _ (by omega)) ?_
      refine g_goto (tgt := 25) dX8_filled_20 (by decide) ?_
      exact g_iret dX8_filled_25 rfl (Nat.le_refl _) (Nat.le_refl _) (hq1 r hr rfl)
theorem c_bestRow {hp : AH} {n D S T R s sm h k : Nat} {kd nn pp fl : Nat → Nat} {bg it tt : Bool} {lu sl : Int64} {Q : Option Value → AH → Nat → Prop} (hn : 64 ≤ n) (M : MS hp D S T R kd nn pp bg it tt s sm h k fl lu sl) (hs : s < 256) (G0 : bg = true → WG D S T R it tt s h k)
    (hq0 : (bg && it && !tt) = false → Q (some (.int (-4))) hp n)
    (hq1 : (bg && it && !tt) = true → ∀ j, argF (bt0 s) (gw (Pf kd nn pp S) ((S ^ D) ^ (T * (opn s R - 1))) (Wt D S T R (Pf kd nn pp S)) s h) R = some j → ∀ hp' : AH, MS hp' D S T R kd nn pp bg it tt s sm h k fl lu sl → FRm hp hp' → Q (some (.int (nI j))) hp' n) : CT yX8_bestRow cX8_bestRow 3 (some .int) (rmD 3) [.ref 47] hp n Q := by
  obtain ⟨⟨h2, h6, hD1, hD, hT1, hT3, hR, hRV⟩, ⟨x8, x23, x31, c47, hb⟩, -⟩ := id M
  obtain ⟨hN, hN1⟩ := nh_le h2 h6 hD
  have no : (bg && it && !tt) = false → G yX8_bestRow cX8_bestRow 3 (some .int) (rmD 3) none Q 0 0 21 [.ref 47, uu, uu] [] hp n := by
    intro e
    refine g_bipush (pc' := 23) (v := -4) dX8_bestRow_21 (by decide) ?_
    exact g_iret dX8_bestRow_23 rfl (Nat.le_refl _) (Nat.le_refl _) (hq0 e)
  show G yX8_bestRow cX8_bestRow 3 (some .int) (rmD 3) none Q 0 0 0 [.ref 47, uu, uu] [] hp n
  refine g_aload_n (pc' := 1) dX8_bestRow_0 rfl rfl ?_
  refine g_get (pc' := 4) fl_X8_82 dX8_bestRow_1 (by omega) (by first | assumption | exact va_up_self _ _ _ | exact (va_up_ne _ _ (by decide)).trans (by assumption) | exact (va_up_ne _ _ (by decide)).trans (va_up_self _ _ _) | exact (va_up_ne _ _ (by decide)).trans ((va_up_ne _ _ (by decide)).trans (by assumption)) | exact (va_up_ne _ _ (by decide)).trans ((va_up_ne _ _ (by decide)).trans (va_up_self _ _ _)) | exact (va_up_ne _ _ (by decide)).trans ((va_up_ne _ _ (by decide)).trans ((va_up_ne _ _ (by decide)).trans (by assumption))) | exact (va_up_ne _ _ (by decide)).trans ((va_up_ne _ _ (by decide)).trans ((va_up_ne _ _ (by decide)).trans ((va_up_ne _ _ (by decide)).trans (by assumption)))) | exact rfl) (by first | assumption | rfl | exact (List.getElem?_set_ne (by decide)).trans (by assumption) | exact List.getElem?_set_self (by omega)) ?_
  cases bg with
  | false =>
    refine g_if_eqN (tgt := 21) (pc' := 7) dX8_bestRow_4 (by decide) (by first | omega | decide) (fun z2 => ?_) (fun z2 => ?_)
    · exact no rfl
    · exact absurd rfl z2
  | true =>
    refine g_if_eqN (tgt := 21) (pc' := 7) dX8_bestRow_4 (by decide) (by first | omega | decide) (fun z2 => ?_) (fun z2 => ?_)
    · exact absurd z2 (by decide)
    · refine g_aload_n (pc' := 8) dX8_bestRow_7 rfl rfl ?_
      refine g_get (pc' := 11) fl_X8_147 dX8_bestRow_8 (by omega) (by first | assumption | exact va_up_self _ _ _ | exact (va_up_ne _ _ (by decide)).trans (by assumption) | exact (va_up_ne _ _ (by decide)).trans (va_up_self _ _ _) | exact (va_up_ne _ _ (by decide)).trans ((va_up_ne _ _ (by decide)).trans (by assumption)) | exact (va_up_ne _ _ (by decide)).trans ((va_up_ne _ _ (by decide)).trans (va_up_self _ _ _)) | exact (va_up_ne _ _ (by decide)).trans ((va_up_ne _ _ (by decide)).trans ((va_up_ne _ _ (by decide)).trans (by assumption))) | exact (va_up_ne _ _ (by decide)).trans ((va_up_ne _ _ (by decide)).trans ((va_up_ne _ _ (by decide)).trans ((va_up_ne _ _ (by decide)).trans (by assumption)))) | exact rfl) (by first | assumption | rfl | exact (List.getElem?_set_ne (by decide)).trans (by assumption) | exact List.getElem?_set_self (by omega)) ?_
      cases it with
      | false =>
        refine g_if_eqN (tgt := 21) (pc' := 14) dX8_bestRow_11 (by decide) (by first | omega | decide) (fun z3 => ?_) (fun z3 => ?_)
        · exact no rfl
        · exact absurd rfl z3
      | true =>
        refine g_if_eqN (tgt := 21) (pc' := 14) dX8_bestRow_11 (by decide) (by first | omega | decide) (fun z3 => ?_) (fun z3 => ?_)
        · exact absurd z3 (by decide)
        · refine g_aload_n (pc' := 15) dX8_bestRow_14 rfl rfl ?_
          refine g_get (pc' := 18) fl_X8_150 dX8_bestRow_15 (by omega) (by first | assumption | exact va_up_self _ _ _ | exact (va_up_ne _ _ (by decide)).trans (by assumption) | exact (va_up_ne _ _ (by decide)).trans (va_up_self _ _ _) | exact (va_up_ne _ _ (by decide)).trans ((va_up_ne _ _ (by decide)).trans (by assumption)) | exact (va_up_ne _ _ (by decide)).trans ((va_up_ne _ _ (by decide)).trans (va_up_self _ _ _)) | exact (va_up_ne _ _ (by decide)).trans ((va_up_ne _ _ (by decide)).trans ((va_up_ne _ _ (by decide)).trans (by assumption))) | exact (va_up_ne _ _ (by decide)).trans ((va_up_ne _ _ (by decide)).trans ((va_up_ne _ _ (by decide)).trans ((va_up_ne _ _ (by decide)).trans (by assumption)))) | exact rfl) (by first | assumption | rfl | exact (List.getElem?_set_ne (by decide)).trans (by assumption) | exact List.getElem?_set_self (by omega)) ?_
          cases tt with
          | true =>
            refine g_if_eqN (tgt := 24) (pc' := 21) dX8_bestRow_18 (by decide) (by first | omega | decide) (fun z4 => ?_) (fun z4 => ?_)
            · exact absurd z4 (by decide)
            · exact no rfl
          | false =>
            refine g_if_eqN (tgt := 24) (pc' := 21) dX8_bestRow_18 (by decide) (by first | omega | decide) (fun z4 => ?_) (fun z4 => ?_)
            · have G1 := G0 rfl
              obtain ⟨i1, i2, i3, -, i5⟩ := G1.2.1 rfl
              have hz := i5 rfl
              obtain ⟨x0, B⟩ := MS_B M
              obtain ⟨c47', F, ⟨-, -, -, -, -, -, hR1, -⟩, hL, -, -, -, -, ⟨fsh, fz, ftd, fm, fpt, fsp, fw, c51, c52, c53, c54, c55, c57, c58, hTB, hTM, hpt, hpw, hw⟩, ⟨fv, c59⟩, ⟨fth, c60⟩⟩ := id B
              clear c47
              have hM := gd_le (P := Pf kd nn pp S) h2 h6 hD hT1 (fun r x hr _ _ => Pf_le hRV hr) i1 h i2 hz
              have hB := gd_room (D := D) (s := s) hT1 hR (by omega) hL i1
              have hgb : ∀ r, r < R → bt0 s r = true → gw (Pf kd nn pp S) ((S ^ D) ^ (T * (opn s R - 1))) (Wt D S T R (Pf kd nn pp S)) s h r < 2 ^ 63 := fun r hr hb => by
                have h8 := mxF_ge (f := fun r => if bt0 s r then gw (Pf kd nn pp S) ((S ^ D) ^ (T * (opn s R - 1))) (Wt D S T R (Pf kd nn pp S)) s h r else 0) hr
                simp only [hb, if_true] at h8
                have e9 : gd D S T R (Pf kd nn pp S) s h = mxF (fun r => if bt0 s r then gw (Pf kd nn pp S) ((S ^ D) ^ (T * (opn s R - 1))) (Wt D S T R (Pf kd nn pp S)) s h r else 0) R := rfl
                have h7 := Nat.le_mul_of_pos_right (210 * opn s R * (S ^ D) ^ (T * (opn s R - 1))) (pw_pos (pw_pos (show 1 ≤ S by omega) D) T)
                omega
              refine g_aload_n (pc' := 25) dX8_bestRow_24 rfl rfl ?_
              refine g_aload_n (pc' := 26) dX8_bestRow_25 rfl rfl ?_
              refine g_get (pc' := 29) fl_X8_153 dX8_bestRow_26 (by omega) (by first | assumption | exact va_up_self _ _ _ | exact (va_up_ne _ _ (by decide)).trans (by assumption) | exact (va_up_ne _ _ (by decide)).trans (va_up_self _ _ _) | exact (va_up_ne _ _ (by decide)).trans ((va_up_ne _ _ (by decide)).trans (by assumption)) | exact (va_up_ne _ _ (by decide)).trans ((va_up_ne _ _ (by decide)).trans (va_up_self _ _ _)) | exact (va_up_ne _ _ (by decide)).trans ((va_up_ne _ _ (by decide)).trans ((va_up_ne _ _ (by decide)).trans (by assumption))) | exact (va_up_ne _ _ (by decide)).trans ((va_up_ne _ _ (by decide)).trans ((va_up_ne _ _ (by decide)).trans ((va_up_ne _ _ (by decide)).trans (by assumption)))) | exact rfl) (by first | assumption | rfl | exact (List.getElem?_set_ne (by decide)).trans (by assumption) | exact List.getElem?_set_self (by omega)) ?_
              refine g_aload_n (pc' := 30) dX8_bestRow_29 rfl rfl ?_
              refine g_get (pc' := 33) fl_X8_141 dX8_bestRow_30 (by omega) (by first | assumption | exact va_up_self _ _ _ | exact (va_up_ne _ _ (by decide)).trans (by assumption) | exact (va_up_ne _ _ (by decide)).trans (va_up_self _ _ _) | exact (va_up_ne _ _ (by decide)).trans ((va_up_ne _ _ (by decide)).trans (by assumption)) | exact (va_up_ne _ _ (by decide)).trans ((va_up_ne _ _ (by decide)).trans (va_up_self _ _ _)) | exact (va_up_ne _ _ (by decide)).trans ((va_up_ne _ _ (by decide)).trans ((va_up_ne _ _ (by decide)).trans (by assumption))) | exact (va_up_ne _ _ (by decide)).trans ((va_up_ne _ _ (by decide)).trans ((va_up_ne _ _ (by decide)).trans ((va_up_ne _ _ (by decide)).trans (by assumption)))) | exact rfl) (by first | assumption | rfl | exact (List.getElem?_set_ne (by decide)).trans (by assumption) | exact List.getElem?_set_self (by omega)) ?_
              refine gc_V 36 47 [.int (nI h), .int (nI s)] [] cw_X8_120 im_X8_bestRowOf se_X8_bestRowOf dX8_bestRow_33 (by decide) (by decide) (Nat.le_refl _) (Nat.le_refl _) (Nat.le_of_ble_eq_true rfl) rfl (Nat.le_of_ble_eq_true rfl) (by omega) (by first | assumption | exact va_up_self _ _ _ | exact (va_up_ne _ _ (by decide)).trans (by assumption) | exact (va_up_ne _ _ (by decide)).trans (va_up_self _ _ _) | exact (va_up_ne _ _ (by decide)).trans ((va_up_ne _ _ (by decide)).trans (by assumption)) | exact (va_up_ne _ _ (by decide)).trans ((va_up_ne _ _ (by decide)).trans (va_up_self _ _ _)) | exact (va_up_ne _ _ (by decide)).trans ((va_up_ne _ _ (by decide)).trans ((va_up_ne _ _ (by decide)).trans (by assumption))) | exact (va_up_ne _ _ (by decide)).trans ((va_up_ne _ _ (by decide)).trans ((va_up_ne _ _ (by decide)).trans ((va_up_ne _ _ (by decide)).trans (by assumption)))) | exact rfl) rfl rfl (c_bestRowOf (P := Pf kd nn pp S) (Wt := Wt D S T R (Pf kd nn pp S)) (b := S ^ D) (x0 := x0) hn c47' F hT3 hR hs i1 rfl rfl c55 c58 (by omega) (fun r hr => hpt h r i2 hz hr) (fun r hr => by have := Pf_le (S := S) (x := h) hRV hr; omega) (fun r hr hb => hw _ (or_ltR G1.1 hr)) hgb (fun j hj => ⟨rfl, ?_⟩))
              have sp := argF_spec (bt0 s) (gw (Pf kd nn pp S) ((S ^ D) ^ (T * (opn s R - 1))) (Wt D S T R (Pf kd nn pp S)) s h) R
              rw [hj] at sp
              have hgj := hgb j sp.1 sp.2.1
              refine g_lstore_n (pc' := 37) dX8_bestRow_36 rfl (by decide) ?_
              refine g_lload_n (pc' := 38) dX8_bestRow_37 rfl rfl ?_
              refine g_lconst (pc' := 39) (v := lN 0) dX8_bestRow_38 (by decide) ?_
              refine g_lcmp (pc' := 40) dX8_bestRow_39 ?_
              refine g_if_ge (tgt := 48) (pc' := 43) dX8_bestRow_40 (by decide) (fun z5 => ?_) (fun z5 => ?_)
              · refine g_aload_n (pc' := 49) dX8_bestRow_48 rfl rfl ?_
                refine g_get (pc' := 52) fl_X8_117 dX8_bestRow_49 (by omega) (by first | assumption | exact va_up_self _ _ _ | exact (va_up_ne _ _ (by decide)).trans (by assumption) | exact (va_up_ne _ _ (by decide)).trans (va_up_self _ _ _) | exact (va_up_ne _ _ (by decide)).trans ((va_up_ne _ _ (by decide)).trans (by assumption)) | exact (va_up_ne _ _ (by decide)).trans ((va_up_ne _ _ (by decide)).trans (va_up_self _ _ _)) | exact (va_up_ne _ _ (by decide)).trans ((va_up_ne _ _ (by decide)).trans ((va_up_ne _ _ (by decide)).trans (by assumption))) | exact (va_up_ne _ _ (by decide)).trans ((va_up_ne _ _ (by decide)).trans ((va_up_ne _ _ (by decide)).trans ((va_up_ne _ _ (by decide)).trans (by assumption)))) | exact rfl) (by first | assumption | rfl | exact (List.getElem?_set_ne (by decide)).trans (by assumption) | exact List.getElem?_set_self (by omega)) ?_
                exact g_iret dX8_bestRow_52 rfl (Nat.le_refl _) (Nat.le_refl _) (hq1 rfl j hj _ (MS_u M true false sm h k lu sl (nI j)) (fun i hi => va_up_ne _ _ (by omega)))
              · exfalso
                apply z5
                rw [lg_cmp_ge, pk_lLE (by decide) hgj]
                exact Nat.zero_le _
            · exact absurd rfl z4
