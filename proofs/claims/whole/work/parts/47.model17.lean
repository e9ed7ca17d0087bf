theorem MS_59 {hp : AH} {D S T R : Nat} {kd nn pp : Nat → Nat} {bg it tt : Bool} {s sm h k : Nat} {fl : Nat → Nat} {lu sl : Int64} (M : MS hp D S T R kd nn pp bg it tt s sm h k fl lu sl) (e : AE) : (∃ f, va_up hp 47 e 59 = aJ 1386 f) ∧ ∃ f, va_up hp 47 e 60 = aJ 462 f := by
  obtain ⟨-, -, -, hX, -⟩ := M
  obtain ⟨f, e1⟩ := hX.2.2.2.2.2.2.2.1
  obtain ⟨g, e2⟩ := hX.2.2.2.2.2.2.2.2.1
  exact ⟨⟨f, (va_up_ne _ _ (by decide)).trans e1⟩, g, (va_up_ne _ _ (by decide)).trans e2⟩
/-- in a game the own cell alone is written -/
theorem MS_u {hp : AH} {D S T R : Nat} {kd nn pp : Nat → Nat} {it tt : Bool} {s sm h k : Nat} {fl : Nat → Nat} {lu sl : Int64} (M : MS hp D S T R kd nn pp true it tt s sm h k fl lu sl) (it' tt' : Bool) (sm' h' k' : Nat) (lu' sl' : Int64) (x31 : Int32) : MS (va_up hp 47 (ob 8 (mog D S T R it' tt' s sm' h' k' lu' sl' x31))) D S T R kd nn pp true it' tt' s sm' h' k' fl lu' sl' :=
  MS_w M (fun i q1 q2 q3 q4 => va_up_ne _ _ (by omega)) (va_up_self _ _ _) (MS_59 M _).1 (MS_59 M _).2
theorem c_hold {hp : AH} {n D S T R s sm h k : Nat} {kd nn pp fl : Nat → Nat} {bg it tt : Bool} {lu sl : Int64} {x : Int32} {Q : Option Value → AH → Nat → Prop} (hn : 64 ≤ n) (M : MS hp D S T R kd nn pp bg it tt s sm h k fl lu sl) (hk31 : k < 2 ^ 31) (G0 : bg = true → WG D S T R it tt s h k) (hsm : sm < 2 ^ 31)
    (hq0 : mhB bg it tt k = false → Q (some (.int (-4))) hp n)
    (hq1 : mhB bg it tt k = true → helN D S h x = none → Q (some (.int (-3))) hp n)
    (hq2 : mhB bg it tt k = true → ∀ g, helN D S h x = some g → ∀ (tt' : Bool) (h' k' : Nat), (tt', h', k') = (if sz S g = D then (false, h, k - 1) else (true, g, k)) → ∀ hp' : AH, MS hp' D S T R kd nn pp true true tt' s sm h' k' fl lu (sl + (lN (sdM D S T R kd nn pp true false s sm h k) - lN (sdM D S T R kd nn pp true tt' s sm h' k'))) → FRm hp hp' → Q (some (.int (nI (D - sz S g)))) hp' n) : CT yX8_hold cX8_hold 5 (some .int) (rmD 7) [.ref 47, .int x] hp n Q := by
  obtain ⟨⟨h2, h6, hD1, hD, hT1, hT3, hR, hRV⟩, ⟨x8, x23, x31, c47, hb⟩, -⟩ := id M
  obtain ⟨hN, hN1⟩ := nh_le h2 h6 hD
  show G yX8_hold cX8_hold 5 (some .int) (rmD 7) none Q 0 0 0 [.ref 47, .int x, uu, uu, uu] [] hp n
  refine g_aload_n (pc' := 1) dX8_hold_0 rfl rfl ?_
  refine gc_V 4 47 [] [] cw_X8_192 im_X8_mayHold se_X8_mayHold dX8_hold_1 (by decide) (by decide) (Nat.le_refl _) (Nat.le_refl _) (Nat.le_of_ble_eq_true rfl) rfl (Nat.le_of_ble_eq_true rfl) (by omega) (by first | assumption | exact va_up_self _ _ _ | exact (va_up_ne _ _ (by decide)).trans (by assumption) | exact (va_up_ne _ _ (by decide)).trans (va_up_self _ _ _) | exact (va_up_ne _ _ (by decide)).trans ((va_up_ne _ _ (by decide)).trans (by assumption)) | exact (va_up_ne _ _ (by decide)).trans ((va_up_ne _ _ (by decide)).trans (va_up_self _ _ _)) | exact (va_up_ne _ _ (by decide)).trans ((va_up_ne _ _ (by decide)).trans ((va_up_ne _ _ (by decide)).trans (by assumption))) | exact (va_up_ne _ _ (by decide)).trans ((va_up_ne _ _ (by decide)).trans ((va_up_ne _ _ (by decide)).trans ((va_up_ne _ _ (by decide)).trans (by assumption)))) | exact rfl) rfl rfl (c_mayHold (D := D) (S := S) (T := T) (R := R) (bg := bg) (it := it) (tt := tt) (k := k) hn c47 mo_MF rfl rfl rfl rfl hk31 ⟨rfl, ?_⟩)
  cases hm : mhB bg it tt k with
  | false =>
    refine g_if_neN (tgt := 10) (pc' := 7) dX8_hold_4 (by decide) (by first | omega | decide) (fun z1 => ?_) (fun z1 => ?_)
    · exact absurd rfl z1
    · refine g_bipush (pc' := 9) (v := -4) dX8_hold_7 (by decide) ?_
      exact g_iret dX8_hold_9 rfl (Nat.le_refl _) (Nat.le_refl _) (hq0 hm)
  | true =>
    have hq1' := hq1 hm
    have hq2' := hq2 hm
    clear hq1 hq2
    simp only [mhB, Bool.and_eq_true, Bool.not_eq_true', decide_eq_true_eq] at hm
    obtain ⟨⟨⟨rfl, rfl⟩, rfl⟩, hk0⟩ := hm
    have G1 := G0 rfl
    obtain ⟨i1, i2, i3, -, i5⟩ := G1.2.1 rfl
    obtain ⟨x0, B⟩ := MS_B M
    have c47' := B.1
    refine g_if_neN (tgt := 10) (pc' := 7) dX8_hold_4 (by decide) (by first | omega | decide) (fun z1 => ?_) (fun z1 => ?_)
    · refine g_aload_n (pc' := 11) dX8_hold_10 rfl rfl ?_
      refine g_iload_n (pc' := 12) dX8_hold_11 rfl rfl ?_
      refine gc_V 15 47 [.int x] [] cw_X8_195 im_X8_heldOf se_X8_heldOf dX8_hold_12 (by decide) (by decide) (Nat.le_refl _) (Nat.le_refl _) (Nat.le_of_ble_eq_true rfl) rfl (Nat.le_of_ble_eq_true rfl) (by omega) (by first | assumption | exact va_up_self _ _ _ | exact (va_up_ne _ _ (by decide)).trans (by assumption) | exact (va_up_ne _ _ (by decide)).trans (va_up_self _ _ _) | exact (va_up_ne _ _ (by decide)).trans ((va_up_ne _ _ (by decide)).trans (by assumption)) | exact (va_up_ne _ _ (by decide)).trans ((va_up_ne _ _ (by decide)).trans (va_up_self _ _ _)) | exact (va_up_ne _ _ (by decide)).trans ((va_up_ne _ _ (by decide)).trans ((va_up_ne _ _ (by decide)).trans (by assumption))) | exact (va_up_ne _ _ (by decide)).trans ((va_up_ne _ _ (by decide)).trans ((va_up_ne _ _ (by decide)).trans ((va_up_ne _ _ (by decide)).trans (by assumption)))) | exact rfl) rfl rfl (c_heldOf hn B rfl i2 ⟨rfl, ?_⟩)
      cases hg : helN D S h x with
      | none =>
        show G yX8_hold cX8_hold 5 (some .int) (rmD 7) none Q 0 0 15 [.ref 47, .int x, uu, uu, uu] [.int (-1)] hp n
        refine g_istore_n (pc' := 16) dX8_hold_15 rfl (by decide) ?_
        refine g_iload_n (pc' := 17) dX8_hold_16 rfl rfl ?_
        refine g_iconst (pc' := 18) (v := -1) dX8_hold_17 (by decide) ?_
        refine g_icmp_ne (tgt := 24) (pc' := 21) dX8_hold_18 (by decide) (fun z2 => ?_) (fun z2 => ?_)
        · exact absurd rfl z2
        · refine g_bipush (pc' := 23) (v := -3) dX8_hold_21 (by decide) ?_
          exact g_iret dX8_hold_23 rfl (Nat.le_refl _) (Nat.le_refl _) (hq1' hg)
      | some g =>
        obtain ⟨hgl, hgp⟩ := helN_ok h2 h6 hD hg
        have zg := sz_of h2 h6 hD hgl
        show G yX8_hold cX8_hold 5 (some .int) (rmD 7) none Q 0 0 15 [.ref 47, .int x, uu, uu, uu] [.int (nI g)] hp n
        refine g_istore_n (pc' := 16) dX8_hold_15 rfl (by decide) ?_
        refine g_iload_n (pc' := 17) dX8_hold_16 rfl rfl ?_
        refine g_iconst (pc' := 18) (v := -1) dX8_hold_17 (by decide) ?_
        refine g_icmp_ne (tgt := 24) (pc' := 21) dX8_hold_18 (by decide) (fun z2 => ?_) (fun z2 => ?_)
        · refine g_aload_n (pc' := 25) dX8_hold_24 rfl rfl ?_
          refine gc_V 28 47 [] [] cw_X8_178 im_X8_stand se_X8_stand dX8_hold_25 (by decide) (by decide) (Nat.le_refl _) (Nat.le_refl _) (Nat.le_of_ble_eq_true rfl) rfl (Nat.le_of_ble_eq_true rfl) (by omega) (by first | assumption | exact va_up_self _ _ _ | exact (va_up_ne _ _ (by decide)).trans (by assumption) | exact (va_up_ne _ _ (by decide)).trans (va_up_self _ _ _) | exact (va_up_ne _ _ (by decide)).trans ((va_up_ne _ _ (by decide)).trans (by assumption)) | exact (va_up_ne _ _ (by decide)).trans ((va_up_ne _ _ (by decide)).trans (va_up_self _ _ _)) | exact (va_up_ne _ _ (by decide)).trans ((va_up_ne _ _ (by decide)).trans ((va_up_ne _ _ (by decide)).trans (by assumption))) | exact (va_up_ne _ _ (by decide)).trans ((va_up_ne _ _ (by decide)).trans ((va_up_ne _ _ (by decide)).trans ((va_up_ne _ _ (by decide)).trans (by assumption)))) | exact rfl) rfl rfl (c_standM hn M G1 hsm (fun hp1 y31 M1 R1 d47 => ⟨rfl, ?_⟩))
          obtain ⟨y0, B1⟩ := MS_B M1
          obtain ⟨-, -, -, -, -, -, -, -, ⟨fsh, fz, ftd, fm, fpt, fsp, fw, c51, c52, c53, c54, c55, c57, c58, hTB, hTM, hpt, hpw, hw⟩, -, -⟩ := id B1
          have tail : ∀ (tt' : Bool) (h' k' : Nat), (tt', h', k') = (if sz S g = D then (false, h, k - 1) else (true, g, k)) → WG D S T R true tt' s h' k' → G yX8_hold cX8_hold 5 (some .int) (rmD 7) none Q 0 0 65 [.ref 47, .int x, .int (nI g), .long (lN (sdM D S T R kd nn pp true false s sm h k)), uu] [] (va_up hp1 47 (ob 8 (mog D S T R true tt' s sm h' k' lu sl y31))) n := by
            intro tt' h' k' e G2
            have M2 := MS_u M1 true tt' sm h' k' lu sl y31
            refine g_aload_n (pc' := 66) dX8_hold_65 rfl rfl ?_
            refine g_dup (pc' := 67) dX8_hold_66 rfl ?_
            refine g_get (pc' := 70) fl_X8_162 dX8_hold_67 (by omega) (by first | assumption | exact va_up_self _ _ _ | exact (va_up_ne _ _ (by decide)).trans (by assumption) | exact (va_up_ne _ _ (by decide)).trans (va_up_self _ _ _) | exact (va_up_ne _ _ (by decide)).trans ((va_up_ne _ _ (by decide)).trans (by assumption)) | exact (va_up_ne _ _ (by decide)).trans ((va_up_ne _ _ (by decide)).trans (va_up_self _ _ _)) | exact (va_up_ne _ _ (by decide)).trans ((va_up_ne _ _ (by decide)).trans ((va_up_ne _ _ (by decide)).trans (by assumption))) | exact (va_up_ne _ _ (by decide)).trans ((va_up_ne _ _ (by decide)).trans ((va_up_ne _ _ (by decide)).trans ((va_up_ne _ _ (by decide)).trans (by assumption)))) | exact rfl) (by first | assumption | rfl | exact (List.getElem?_set_ne (by decide)).trans (by assumption) | exact List.getElem?_set_self (by omega)) ?_
            refine g_lload_n (pc' := 71) dX8_hold_70 rfl rfl ?_
            refine g_aload_n (pc' := 72) dX8_hold_71 rfl rfl ?_
            refine gc_V 75 47 [] [.long (lN (sdM D S T R kd nn pp true false s sm h k)), .long sl, .ref 47] cw_X8_178 im_X8_stand se_X8_stand dX8_hold_72 (by decide) (by decide) (Nat.le_refl _) (Nat.le_refl _) (Nat.le_of_ble_eq_true rfl) rfl (Nat.le_of_ble_eq_true rfl) (by omega) (by first | assumption | exact va_up_self _ _ _ | exact (va_up_ne _ _ (by decide)).trans (by assumption) | exact (va_up_ne _ _ (by decide)).trans (va_up_self _ _ _) | exact (va_up_ne _ _ (by decide)).trans ((va_up_ne _ _ (by decide)).trans (by assumption)) | exact (va_up_ne _ _ (by decide)).trans ((va_up_ne _ _ (by decide)).trans (va_up_self _ _ _)) | exact (va_up_ne _ _ (by decide)).trans ((va_up_ne _ _ (by decide)).trans ((va_up_ne _ _ (by decide)).trans (by assumption))) | exact (va_up_ne _ _ (by decide)).trans ((va_up_ne _ _ (by decide)).trans ((va_up_ne _ _ (by decide)).trans ((va_up_ne _ _ (by decide)).trans (by assumption)))) | exact rfl) rfl rfl (c_standM hn M2 G2 hsm (fun hp2 w31 M3 R3 g47 => ⟨rfl, ?_⟩))
            obtain ⟨y1, B3⟩ := MS_B M3
            obtain ⟨-, -, -, -, -, -, -, -, ⟨fsh2, fz2, ftd2, fm2, fpt2, fsp2, fw2, e51, e52, e53, e54, e55, e57, e58, hTB2, -, -, -, -⟩, -, -⟩ := id B3
            refine g_lsub (pc' := 76) dX8_hold_75 ?_
            first | refine g_laddN (pc' := 77) dX8_hold_76 ?_ | refine g_ladd (pc' := 77) dX8_hold_76 ?_
            refine g_put (pc' := 80) fl_X8_162 ft_8_22 dX8_hold_77 (by omega) (by first | assumption | exact va_up_self _ _ _ | exact (va_up_ne _ _ (by decide)).trans (by assumption) | exact (va_up_ne _ _ (by decide)).trans (va_up_self _ _ _) | exact (va_up_ne _ _ (by decide)).trans ((va_up_ne _ _ (by decide)).trans (by assumption)) | exact (va_up_ne _ _ (by decide)).trans ((va_up_ne _ _ (by decide)).trans (va_up_self _ _ _)) | exact (va_up_ne _ _ (by decide)).trans ((va_up_ne _ _ (by decide)).trans ((va_up_ne _ _ (by decide)).trans (by assumption))) | exact (va_up_ne _ _ (by decide)).trans ((va_up_ne _ _ (by decide)).trans ((va_up_ne _ _ (by decide)).trans ((va_up_ne _ _ (by decide)).trans (by assumption)))) | exact rfl) (by first | exact Nat.le_of_ble_eq_true rfl | omega | (simp only [List.length_set]; omega)) rfl rfl ?_
            refine g_aload_n (pc' := 81) dX8_hold_80 rfl rfl ?_
            refine g_get (pc' := 84) fl_X8_7 dX8_hold_81 (by omega) (by first | assumption | exact va_up_self _ _ _ | exact (va_up_ne _ _ (by decide)).trans (by assumption) | exact (va_up_ne _ _ (by decide)).trans (va_up_self _ _ _) | exact (va_up_ne _ _ (by decide)).trans ((va_up_ne _ _ (by decide)).trans (by assumption)) | exact (va_up_ne _ _ (by decide)).trans ((va_up_ne _ _ (by decide)).trans (va_up_self _ _ _)) | exact (va_up_ne _ _ (by decide)).trans ((va_up_ne _ _ (by decide)).trans ((va_up_ne _ _ (by decide)).trans (by assumption))) | exact (va_up_ne _ _ (by decide)).trans ((va_up_ne _ _ (by decide)).trans ((va_up_ne _ _ (by decide)).trans ((va_up_ne _ _ (by decide)).trans (by assumption)))) | exact rfl) (by first | assumption | rfl | exact (List.getElem?_set_ne (by decide)).trans (by assumption) | exact List.getElem?_set_self (by omega)) ?_
            refine g_aload_n (pc' := 85) dX8_hold_84 rfl rfl ?_
            refine g_get (pc' := 88) fl_X8_32 dX8_hold_85 (by omega) (by first | assumption | exact va_up_self _ _ _ | exact (va_up_ne _ _ (by decide)).trans (by assumption) | exact (va_up_ne _ _ (by decide)).trans (va_up_self _ _ _) | exact (va_up_ne _ _ (by decide)).trans ((va_up_ne _ _ (by decide)).trans (by assumption)) | exact (va_up_ne _ _ (by decide)).trans ((va_up_ne _ _ (by decide)).trans (va_up_self _ _ _)) | exact (va_up_ne _ _ (by decide)).trans ((va_up_ne _ _ (by decide)).trans ((va_up_ne _ _ (by decide)).trans (by assumption))) | exact (va_up_ne _ _ (by decide)).trans ((va_up_ne _ _ (by decide)).trans ((va_up_ne _ _ (by decide)).trans ((va_up_ne _ _ (by decide)).trans (by assumption)))) | exact rfl) (by first | assumption | rfl | exact (List.getElem?_set_ne (by decide)).trans (by assumption) | exact List.getElem?_set_self (by omega)) ?_
            refine g_iload_n (pc' := 89) dX8_hold_88 rfl rfl ?_
            refine g_ialdV (pc' := 90) dX8_hold_89 (by omega) (by first | assumption | exact va_up_self _ _ _ | exact (va_up_ne _ _ (by decide)).trans (by assumption) | exact (va_up_ne _ _ (by decide)).trans (va_up_self _ _ _) | exact (va_up_ne _ _ (by decide)).trans ((va_up_ne _ _ (by decide)).trans (by assumption)) | exact (va_up_ne _ _ (by decide)).trans ((va_up_ne _ _ (by decide)).trans (va_up_self _ _ _)) | exact (va_up_ne _ _ (by decide)).trans ((va_up_ne _ _ (by decide)).trans ((va_up_ne _ _ (by decide)).trans (by assumption))) | exact (va_up_ne _ _ (by decide)).trans ((va_up_ne _ _ (by decide)).trans ((va_up_ne _ _ (by decide)).trans ((va_up_ne _ _ (by decide)).trans (by assumption)))) | exact rfl) ((IX_nI (by omega) (by omega))) (hTB2.2.1 _ hgl) ?_
            first | refine g_isubN (pc' := 91) dX8_hold_90 (by omega) ?_ | refine g_isub (pc' := 91) dX8_hold_90 ?_
            refine g_iret dX8_hold_91 rfl (Nat.le_refl _) (Nat.le_refl _) (hq2' g hg tt' h' k' e _ (MS_u M3 true tt' sm h' k' lu _ w31) (fun i hi => ?_))
            rw [va_up_ne _ _ (by omega), R3 i hi, va_up_ne _ _ (by omega), R1 i hi]
          refine g_lstore_n (pc' := 29) dX8_hold_28 rfl (by decide) ?_
          refine g_aload_n (pc' := 30) dX8_hold_29 rfl rfl ?_
          refine g_get (pc' := 33) fl_X8_32 dX8_hold_30 (by omega) (by first | assumption | exact va_up_self _ _ _ | exact (va_up_ne _ _ (by decide)).trans (by assumption) | exact (va_up_ne _ _ (by decide)).trans (va_up_self _ _ _) | exact (va_up_ne _ _ (by decide)).trans ((va_up_ne _ _ (by decide)).trans (by assumption)) | exact (va_up_ne _ _ (by decide)).trans ((va_up_ne _ _ (by decide)).trans (va_up_self _ _ _)) | exact (va_up_ne _ _ (by decide)).trans ((va_up_ne _ _ (by decide)).trans ((va_up_ne _ _ (by decide)).trans (by assumption))) | exact (va_up_ne _ _ (by decide)).trans ((va_up_ne _ _ (by decide)).trans ((va_up_ne _ _ (by decide)).trans ((va_up_ne _ _ (by decide)).trans (by assumption)))) | exact rfl) (by first | assumption | rfl | exact (List.getElem?_set_ne (by decide)).trans (by assumption) | exact List.getElem?_set_self (by omega)) ?_
          refine g_iload_n (pc' := 34) dX8_hold_33 rfl rfl ?_
          refine g_ialdV (pc' := 35) dX8_hold_34 (by omega) (by first | assumption | exact va_up_self _ _ _ | exact (va_up_ne _ _ (by decide)).trans (by assumption) | exact (va_up_ne _ _ (by decide)).trans (va_up_self _ _ _) | exact (va_up_ne _ _ (by decide)).trans ((va_up_ne _ _ (by decide)).trans (by assumption)) | exact (va_up_ne _ _ (by decide)).trans ((va_up_ne _ _ (by decide)).trans (va_up_self _ _ _)) | exact (va_up_ne _ _ (by decide)).trans ((va_up_ne _ _ (by decide)).trans ((va_up_ne _ _ (by decide)).trans (by assumption))) | exact (va_up_ne _ _ (by decide)).trans ((va_up_ne _ _ (by decide)).trans ((va_up_ne _ _ (by decide)).trans ((va_up_ne _ _ (by decide)).trans (by assumption)))) | exact rfl) ((IX_nI (by omega) (by omega))) (hTB.2.1 _ hgl) ?_
          refine g_aload_n (pc' := 36) dX8_hold_35 rfl rfl ?_
          refine g_get (pc' := 39) fl_X8_7 dX8_hold_36 (by omega) (by first | assumption | exact va_up_self _ _ _ | exact (va_up_ne _ _ (by decide)).trans (by assumption) | exact (va_up_ne _ _ (by decide)).trans (va_up_self _ _ _) | exact (va_up_ne _ _ (by decide)).trans ((va_up_ne _ _ (by decide)).trans (by assumption)) | exact (va_up_ne _ _ (by decide)).trans ((va_up_ne _ _ (by decide)).trans (va_up_self _ _ _)) | exact (va_up_ne _ _ (by decide)).trans ((va_up_ne _ _ (by decide)).trans ((va_up_ne _ _ (by decide)).trans (by assumption))) | exact (va_up_ne _ _ (by decide)).trans ((va_up_ne _ _ (by decide)).trans ((va_up_ne _ _ (by decide)).trans ((va_up_ne _ _ (by decide)).trans (by assumption)))) | exact rfl) (by first | assumption | rfl | exact (List.getElem?_set_ne (by decide)).trans (by assumption) | exact List.getElem?_set_self (by omega)) ?_
          refine g_icmp_neN (tgt := 55) (pc' := 42) dX8_hold_39 (by decide) (by first | omega | decide) (by first | omega | decide) (fun z3 => ?_) (fun z3 => ?_)
          · refine g_aload_n (pc' := 56) dX8_hold_55 rfl rfl ?_
            refine g_iconst (pc' := 57) (v := nI 1) dX8_hold_56 (by decide) ?_
            refine g_put (pc' := 60) fl_X8_150 ft_8_18 dX8_hold_57 (by omega) (by first | assumption | exact va_up_self _ _ _ | exact (va_up_ne _ _ (by decide)).trans (by assumption) | exact (va_up_ne _ _ (by decide)).trans (va_up_self _ _ _) | exact (va_up_ne _ _ (by decide)).trans ((va_up_ne _ _ (by decide)).trans (by assumption)) | exact (va_up_ne _ _ (by decide)).trans ((va_up_ne _ _ (by decide)).trans (va_up_self _ _ _)) | exact (va_up_ne _ _ (by decide)).trans ((va_up_ne _ _ (by decide)).trans ((va_up_ne _ _ (by decide)).trans (by assumption))) | exact (va_up_ne _ _ (by decide)).trans ((va_up_ne _ _ (by decide)).trans ((va_up_ne _ _ (by decide)).trans ((va_up_ne _ _ (by decide)).trans (by assumption)))) | exact rfl) (by first | exact Nat.le_of_ble_eq_true rfl | omega | (simp only [List.length_set]; omega)) rfl rfl ?_
            refine g_aload_n (pc' := 61) dX8_hold_60 rfl rfl ?_
            refine g_iload_n (pc' := 62) dX8_hold_61 rfl rfl ?_
            refine g_put (pc' := 65) fl_X8_153 ft_8_19 dX8_hold_62 (by omega) (by first | assumption | exact va_up_self _ _ _ | exact (va_up_ne _ _ (by decide)).trans (by assumption) | exact (va_up_ne _ _ (by decide)).trans (va_up_self _ _ _) | exact (va_up_ne _ _ (by decide)).trans ((va_up_ne _ _ (by decide)).trans (by assumption)) | exact (va_up_ne _ _ (by decide)).trans ((va_up_ne _ _ (by decide)).trans (va_up_self _ _ _)) | exact (va_up_ne _ _ (by decide)).trans ((va_up_ne _ _ (by decide)).trans ((va_up_ne _ _ (by decide)).trans (by assumption))) | exact (va_up_ne _ _ (by decide)).trans ((va_up_ne _ _ (by decide)).trans ((va_up_ne _ _ (by decide)).trans ((va_up_ne _ _ (by decide)).trans (by assumption)))) | exact rfl) (by first | exact Nat.le_of_ble_eq_true rfl | omega | (simp only [List.length_set]; omega)) rfl rfl ?_
            rw [up_up]
            exact tail true g k (by rw [if_neg z3]) ⟨G1.1, fun _ => ⟨i1, hgl, i3, fun _ => by omega, (fun q => by cases q)⟩, (fun q => by cases q)⟩
          · refine g_aload_n (pc' := 43) dX8_hold_42 rfl rfl ?_
            refine g_dup (pc' := 44) dX8_hold_43 rfl ?_
            refine g_get (pc' := 47) fl_X8_156 dX8_hold_44 (by omega) (by first | assumption | exact va_up_self _ _ _ | exact (va_up_ne _ _ (by decide)).trans (by assumption) | exact (va_up_ne _ _ (by decide)).trans (va_up_self _ _ _) | exact (va_up_ne _ _ (by decide)).trans ((va_up_ne _ _ (by decide)).trans (by assumption)) | exact (va_up_ne _ _ (by decide)).trans ((va_up_ne _ _ (by decide)).trans (va_up_self _ _ _)) | exact (va_up_ne _ _ (by decide)).trans ((va_up_ne _ _ (by decide)).trans ((va_up_ne _ _ (by decide)).trans (by assumption))) | exact (va_up_ne _ _ (by decide)).trans ((va_up_ne _ _ (by decide)).trans ((va_up_ne _ _ (by decide)).trans ((va_up_ne _ _ (by decide)).trans (by assumption)))) | exact rfl) (by first | assumption | rfl | exact (List.getElem?_set_ne (by decide)).trans (by assumption) | exact List.getElem?_set_self (by omega)) ?_
            refine g_iconst (pc' := 48) (v := nI 1) dX8_hold_47 (by decide) ?_
            first | refine g_isubN (pc' := 49) dX8_hold_48 (by omega) ?_ | refine g_isub (pc' := 49) dX8_hold_48 ?_
            refine g_put (pc' := 52) fl_X8_156 ft_8_20 dX8_hold_49 (by omega) (by first | assumption | exact va_up_self _ _ _ | exact (va_up_ne _ _ (by decide)).trans (by assumption) | exact (va_up_ne _ _ (by decide)).trans (va_up_self _ _ _) | exact (va_up_ne _ _ (by decide)).trans ((va_up_ne _ _ (by decide)).trans (by assumption)) | exact (va_up_ne _ _ (by decide)).trans ((va_up_ne _ _ (by decide)).trans (va_up_self _ _ _)) | exact (va_up_ne _ _ (by decide)).trans ((va_up_ne _ _ (by decide)).trans ((va_up_ne _ _ (by decide)).trans (by assumption))) | exact (va_up_ne _ _ (by decide)).trans ((va_up_ne _ _ (by decide)).trans ((va_up_ne _ _ (by decide)).trans ((va_up_ne _ _ (by decide)).trans (by assumption)))) | exact rfl) (by first | exact Nat.le_of_ble_eq_true rfl | omega | (simp only [List.length_set]; omega)) rfl rfl ?_
            refine g_goto (tgt := 65) dX8_hold_52 (by decide) ?_
            exact tail false h (k - 1) (by rw [if_pos z3]) ⟨G1.1, fun _ => ⟨i1, i2, by omega, (fun q => by cases q), fun _ => i5 rfl⟩, (fun q => by cases q)⟩
        · exact absurd z2 (nI_nm1 (by omega))
    · exact absurd z1 (by decide)
