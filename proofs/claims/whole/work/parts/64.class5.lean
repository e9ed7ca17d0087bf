/-! THE CLASS: Heaps, built -/
theorem c_addSmallerDie {hp : AH} {n D S i a w : Nat} {ft fz fl fm : Nat → Int32} {Q : Option Value → AH → Nat → Prop} (hn : 64 ≤ n) (h2 : 2 ≤ S) (h6 : S ≤ 6) (hi : i ≤ 4) (hD : D ≤ 5) (hiD : i < D) (ha : a = if i = 0 then 0 else nh S (i - 1)) (hT : TH S (nh S (i + 1)) ft fz fl) (hm1 : ∀ g s, g < a → s < S → fm (6 * g + s) = nI (nx S g s)) (hm2 : ∀ g s, a ≤ g → g < nh S i → s < S → f1 S g ≤ s + 1 → fm (6 * g + s) = nI (nx S g s))
    (hq : ∀ fm' : Nat → Int32, (∀ g s, g < nh S i → s < S → fm' (6 * g + s) = nI (nx S g s)) → Q none (hH hp D S (nh S (i + 1)) w ft fz fl fm') n) : CT yX2_addSmallerDie cX2_addSmallerDie 7 none (rmD 1) [.ref 5, .int (nI a), .int (nI (nh S i))] (hH hp D S (nh S (i + 1)) w ft fz fl fm) n Q := by
  obtain ⟨hN, hN1⟩ := nh_le h2 h6 (show i ≤ 5 by omega)
  obtain ⟨hN', hN1'⟩ := nh_le h2 h6 (show i + 1 ≤ 5 by omega)
  have hmm := nh_mono h2 h6 (show i + 1 ≤ 5 by omega) (Nat.le_refl 5)
  have hm0 := nh_lt h2 h6 (show i < i + 1 by omega) (by omega)
  have ha2 : a ≤ nh S i := by
    rw [ha]
    split
    · omega
    · exact nh_mono h2 h6 (by omega) (by omega)
  have hsz : ∀ h, a ≤ h → h < nh S i → sz S h = i := fun h q1 q2 => by
    have z1 := sz_of h2 h6 (show i ≤ 5 by omega) q2
    by_cases e : i = 0
    · omega
    · rw [ha, if_neg e] at q1
      have := (sz_iff h2 h6 (d := i - 1) (h := h) (by omega) (by omega)).mp
      omega
  show G yX2_addSmallerDie cX2_addSmallerDie 7 none (rmD 1) none Q 0 0 0 [.ref 5, .int (nI a), .int (nI (nh S i)), uu, uu, uu, uu] [] (hH hp D S (nh S (i + 1)) w ft fz fl fm) n
  refine g_iload_n (pc' := 1) dX2_addSmallerDie_0 rfl rfl ?_
  refine g_istore_n (pc' := 2) dX2_addSmallerDie_1 rfl (by decide) ?_
  have outer : ∀ k h fm, h + k = nh S i → a ≤ h → (∀ g s, g < h → s < S → fm (6 * g + s) = nI (nx S g s)) → (∀ g s, a ≤ g → g < nh S i → s < S → f1 S g ≤ s + 1 → fm (6 * g + s) = nI (nx S g s)) → G yX2_addSmallerDie cX2_addSmallerDie 7 none (rmD 1) none Q 0 0 2 [.ref 5, .int (nI a), .int (nI (nh S i)), .int (nI h), uu, uu, uu] [] (hH hp D S (nh S (i + 1)) w ft fz fl fm) n := by
    intro k
    induction k with
    | zero =>
      intro h fm hk hah m1 m2
      refine g_iload_n (pc' := 3) dX2_addSmallerDie_2 rfl rfl ?_
      refine g_iload_n (pc' := 4) dX2_addSmallerDie_3 rfl rfl ?_
      refine g_icmp_geN (tgt := 76) (pc' := 7) dX2_addSmallerDie_4 (by decide) (by first | omega | decide) (by first | omega | decide) (fun z1 => ?_) (fun z1 => ?_)
      · exact g_vret dX2_addSmallerDie_76 rfl (Nat.le_refl _) (Nat.le_refl _) (hq fm (fun g s q1 => m1 g s (by omega)))
      · omega
    | succ k ih =>
      intro h fm hk hah m1 m2
      have hh5 : h < nh S 5 := by omega
      have zh := hsz h hah (by omega)
      have htd : td S h < 2 ^ 31 := td_lt h2 h6 hh5
      refine g_iload_n (pc' := 3) dX2_addSmallerDie_2 rfl rfl ?_
      refine g_iload_n (pc' := 4) dX2_addSmallerDie_3 rfl rfl ?_
      refine g_icmp_geN (tgt := 76) (pc' := 7) dX2_addSmallerDie_4 (by decide) (by first | omega | decide) (by first | omega | decide) (fun z1 => ?_) (fun z1 => ?_)
      · omega
      · refine g_aload_n (pc' := 8) dX2_addSmallerDie_7 rfl rfl ?_
        refine g_get (pc' := 11) fl_X2_9 dX2_addSmallerDie_8 (by omega) (by first | assumption | exact va_up_self _ _ _ | exact (va_up_ne _ _ (by first | decide | omega)).trans (by assumption) | exact (va_up_ne _ _ (by first | decide | omega)).trans (va_up_self _ _ _) | exact (va_up_ne _ _ (by first | decide | omega)).trans ((va_up_ne _ _ (by first | decide | omega)).trans (by assumption)) | exact (va_up_ne _ _ (by first | decide | omega)).trans ((va_up_ne _ _ (by first | decide | omega)).trans (va_up_self _ _ _)) | exact (va_up_ne _ _ (by first | decide | omega)).trans ((va_up_ne _ _ (by first | decide | omega)).trans ((va_up_ne _ _ (by first | decide | omega)).trans (by assumption))) | exact (va_up_ne _ _ (by first | decide | omega)).trans ((va_up_ne _ _ (by first | decide | omega)).trans ((va_up_ne _ _ (by first | decide | omega)).trans ((va_up_ne _ _ (by first | decide | omega)).trans (by assumption)))) | exact rfl) (by first | assumption | rfl | exact (List.getElem?_set_ne (by decide)).trans (by assumption) | exact List.getElem?_set_self (by omega)) ?_
        refine g_iload_n (pc' := 12) dX2_addSmallerDie_11 rfl rfl ?_
        refine g_ialdV (pc' := 13) dX2_addSmallerDie_12 (by omega) (by first | assumption | exact va_up_self _ _ _ | exact (va_up_ne _ _ (by first | decide | omega)).trans (by assumption) | exact (va_up_ne _ _ (by first | decide | omega)).trans (va_up_self _ _ _) | exact (va_up_ne _ _ (by first | decide | omega)).trans ((va_up_ne _ _ (by first | decide | omega)).trans (by assumption)) | exact (va_up_ne _ _ (by first | decide | omega)).trans ((va_up_ne _ _ (by first | decide | omega)).trans (va_up_self _ _ _)) | exact (va_up_ne _ _ (by first | decide | omega)).trans ((va_up_ne _ _ (by first | decide | omega)).trans ((va_up_ne _ _ (by first | decide | omega)).trans (by assumption))) | exact (va_up_ne _ _ (by first | decide | omega)).trans ((va_up_ne _ _ (by first | decide | omega)).trans ((va_up_ne _ _ (by first | decide | omega)).trans ((va_up_ne _ _ (by first | decide | omega)).trans (by assumption)))) | exact rfl) ((IX_nI (by omega) (by omega))) (hT.1 _ (by omega)) ?_
        refine g_bipush (pc' := 15) (v := nI 10) dX2_addSmallerDie_13 (by decide) ?_
        first | refine g_iremN (pc' := 16) dX2_addSmallerDie_15 (by omega) (by omega) (by omega) ?_ | refine g_irem (pc' := 16) dX2_addSmallerDie_15 (by decide) ?_
        refine g_istore (pc' := 18) dX2_addSmallerDie_16 (by decide) ?_
        refine g_iconst (pc' := 19) (v := nI 1) dX2_addSmallerDie_18 (by decide) ?_
        refine g_istore (pc' := 21) dX2_addSmallerDie_19 (by decide) ?_
        have inner : ∀ k2 sd fm, 1 ≤ sd → (sd + k2 = lst S h ∨ (lst S h = 0 ∧ k2 = 0 ∧ sd = 1)) → (∀ g s, g < h → s < S → fm (6 * g + s) = nI (nx S g s)) → (∀ g s, a ≤ g → g < nh S i → s < S → f1 S g ≤ s + 1 → fm (6 * g + s) = nI (nx S g s)) → (∀ s, s + 1 < sd → fm (6 * h + s) = nI (nx S h s)) → G yX2_addSmallerDie cX2_addSmallerDie 7 none (rmD 1) none Q 0 0 21 [.ref 5, .int (nI a), .int (nI (nh S i)), .int (nI h), .int (nI (lst S h)), .int (nI sd), uu] [] (hH hp D S (nh S (i + 1)) w ft fz fl fm) n := by
          intro k2
          induction k2 with
          | zero =>
            intro sd fm hsd hk2 m1 m2 m3
            have hl : lst S h ≤ S := (okP_at h2 h6 hh5).1
            refine g_iload (pc' := 23) dX2_addSmallerDie_21 rfl ?_
            refine g_iload (pc' := 25) dX2_addSmallerDie_23 rfl ?_
            refine g_icmp_geN (tgt := 70) (pc' := 28) dX2_addSmallerDie_25 (by decide) (by first | omega | decide) (by first | omega | decide) (fun z2 => ?_) (fun z2 => ?_)
            · first | refine g_iincN (z := 1) (pc' := 73) dX2_addSmallerDie_70 rfl rfl (by decide) ?_ | refine g_iinc (pc' := 73) dX2_addSmallerDie_70 rfl rfl (by decide) ?_
              refine g_goto (tgt := 2) dX2_addSmallerDie_73 (by decide) ?_
              refine g_fg (by repeat (first | exact trivial | refine ⟨Or.inr rfl, ?_⟩ | refine ⟨Or.inl rfl, ?_⟩)) (ih (h + 1) fm (by omega) (by omega) (fun g s q1 q2 => ?_) m2)
              rcases Nat.lt_or_ge g h with q | q
              · exact m1 g s q q2
              · have e : g = h := by omega
                subst e
                rcases Nat.lt_or_ge (s + 1) (f1 S g) with r | r
                · have ef : f1 S g = max 1 (lst S g) := rfl
                  exact m3 s (by omega)
                · exact m2 g s hah (by omega) q2 r
            · omega
          | succ k2 ih2 =>
            intro sd fm hsd hk2 m1 m2 m3
            have h1 : 1 ≤ h := by
              rcases Nat.eq_zero_or_pos h with q | q
              · rw [q] at hk2
                have : lst S 0 = 0 := by unfold lst; rw [td_0]
                omega
              · exact q
            obtain ⟨a1, a2, a3, a4, a5, a6, a7, a8⟩ := okW_at h2 h6 hh5 h1
            have hi1 : 1 ≤ i := by omega
            have ea : a = nh S (i - 1) := by rw [ha, if_neg (by omega)]
            have hw : wlT S h < a := by
              rw [ea]
              exact (sz_iff h2 h6 (by omega) (by omega)).mp (by omega)
            obtain ⟨n3, n4, n5, n6⟩ := nx_ok (h := wlT S h) (s := sd - 1) h2 h6 (Nat.le_refl 5) (by omega) (by omega) (by omega)
            have hah2 : nx S (wlT S h) (sd - 1) < nh S i := (sz_iff h2 h6 (by omega) n4).mp (by omega)
            have hah1 : a ≤ nx S (wlT S h) (sd - 1) := by
              rcases Nat.lt_or_ge (nx S (wlT S h) (sd - 1)) a with q | q
              · rw [ea] at q
                have := (sz_iff h2 h6 (d := i - 1) (by omega) n4).mpr q
                omega
              · exact q
            obtain ⟨b1, b2, -, -, -, -, b7, b8⟩ := okW_at h2 h6 n4 (by omega)
            have hlst : lst S (nx S (wlT S h) (sd - 1)) ≤ lst S h := by
              rcases Nat.lt_or_ge (lst S h) (lst S (nx S (wlT S h) (sd - 1))) with q | q
              · have e1 := b7 (lst S (nx S (wlT S h) (sd - 1)) - 1) (by omega)
                rw [if_pos rfl] at e1
                have e2 := n6 (lst S (nx S (wlT S h) (sd - 1)) - 1) (by omega)
                rw [if_neg (by omega)] at e2
                have e3 := a7 (lst S (nx S (wlT S h) (sd - 1)) - 1) (by omega)
                rw [a8 _ (by omega) (by omega)] at e3
                omega
              · exact q
            have hcm := nx_comm (h := wlT S h) (a := sd - 1) (b := lst S h - 1) h2 h6 (by omega) (by omega) (by omega) (by omega)
            rw [a6] at hcm
            have ef : f1 S (nx S (wlT S h) (sd - 1)) = max 1 (lst S (nx S (wlT S h) (sd - 1))) := rfl
            refine g_iload (pc' := 23) dX2_addSmallerDie_21 rfl ?_
            refine g_iload (pc' := 25) dX2_addSmallerDie_23 rfl ?_
            refine g_icmp_geN (tgt := 70) (pc' := 28) dX2_addSmallerDie_25 (by decide) (by first | omega | decide) (by first | omega | decide) (fun z2 => ?_) (fun z2 => ?_)
            · omega
            · refine g_aload_n (pc' := 29) dX2_addSmallerDie_28 rfl rfl ?_
              refine g_aload_n (pc' := 30) dX2_addSmallerDie_29 rfl rfl ?_
              refine g_get (pc' := 33) fl_X2_18 dX2_addSmallerDie_30 (by omega) (by first | assumption | exact va_up_self _ _ _ | exact (va_up_ne _ _ (by first | decide | omega)).trans (by assumption) | exact (va_up_ne _ _ (by first | decide | omega)).trans (va_up_self _ _ _) | exact (va_up_ne _ _ (by first | decide | omega)).trans ((va_up_ne _ _ (by first | decide | omega)).trans (by assumption)) | exact (va_up_ne _ _ (by first | decide | omega)).trans ((va_up_ne _ _ (by first | decide | omega)).trans (va_up_self _ _ _)) | exact (va_up_ne _ _ (by first | decide | omega)).trans ((va_up_ne _ _ (by first | decide | omega)).trans ((va_up_ne _ _ (by first | decide | omega)).trans (by assumption))) | exact (va_up_ne _ _ (by first | decide | omega)).trans ((va_up_ne _ _ (by first | decide | omega)).trans ((va_up_ne _ _ (by first | decide | omega)).trans ((va_up_ne _ _ (by first | decide | omega)).trans (by assumption)))) | exact rfl) (by first | assumption | rfl | exact (List.getElem?_set_ne (by decide)).trans (by assumption) | exact List.getElem?_set_self (by omega)) ?_
              refine g_iload_n (pc' := 34) dX2_addSmallerDie_33 rfl rfl ?_
              refine g_ialdV (pc' := 35) dX2_addSmallerDie_34 (by omega) (by first | assumption | exact va_up_self _ _ _ | exact (va_up_ne _ _ (by first | decide | omega)).trans (by assumption) | exact (va_up_ne _ _ (by first | decide | omega)).trans (va_up_self _ _ _) | exact (va_up_ne _ _ (by first | decide | omega)).trans ((va_up_ne _ _ (by first | decide | omega)).trans (by assumption)) | exact (va_up_ne _ _ (by first | decide | omega)).trans ((va_up_ne _ _ (by first | decide | omega)).trans (va_up_self _ _ _)) | exact (va_up_ne _ _ (by first | decide | omega)).trans ((va_up_ne _ _ (by first | decide | omega)).trans ((va_up_ne _ _ (by first | decide | omega)).trans (by assumption))) | exact (va_up_ne _ _ (by first | decide | omega)).trans ((va_up_ne _ _ (by first | decide | omega)).trans ((va_up_ne _ _ (by first | decide | omega)).trans ((va_up_ne _ _ (by first | decide | omega)).trans (by assumption)))) | exact rfl) ((IX_nI (by omega) (by omega))) (hT.2.2 _ h1 (by omega)) ?_
              refine g_iload (pc' := 37) dX2_addSmallerDie_35 rfl ?_
              refine gc_V 40 5 [.int (nI (wlT S h)), .int (nI sd)] [] cw_X2_50 im_X2_withDie se_X2_withDie dX2_addSmallerDie_37 (by decide) (by decide) (Nat.le_refl _) (Nat.le_refl _) (Nat.le_of_ble_eq_true rfl) rfl (Nat.le_of_ble_eq_true rfl) (by omega) (by first | assumption | exact va_up_self _ _ _ | exact (va_up_ne _ _ (by first | decide | omega)).trans (by assumption) | exact (va_up_ne _ _ (by first | decide | omega)).trans (va_up_self _ _ _) | exact (va_up_ne _ _ (by first | decide | omega)).trans ((va_up_ne _ _ (by first | decide | omega)).trans (by assumption)) | exact (va_up_ne _ _ (by first | decide | omega)).trans ((va_up_ne _ _ (by first | decide | omega)).trans (va_up_self _ _ _)) | exact (va_up_ne _ _ (by first | decide | omega)).trans ((va_up_ne _ _ (by first | decide | omega)).trans ((va_up_ne _ _ (by first | decide | omega)).trans (by assumption))) | exact (va_up_ne _ _ (by first | decide | omega)).trans ((va_up_ne _ _ (by first | decide | omega)).trans ((va_up_ne _ _ (by first | decide | omega)).trans ((va_up_ne _ _ (by first | decide | omega)).trans (by assumption)))) | exact rfl) rfl rfl (c_withDie (fz := fz) (fm := fm) (z := sz S (wlT S h)) (r := nx S (wlT S h) (sd - 1)) hn h6 hD rfl rfl rfl (by omega) (by omega) (hT.2.1 _ (by omega)) (by omega) hsd (by omega) (m1 _ _ (by omega) (by omega)) ⟨rfl, ?_⟩)
              show G yX2_addSmallerDie cX2_addSmallerDie 7 none (rmD 1) none Q 0 0 40 [.ref 5, .int (nI a), .int (nI (nh S i)), .int (nI h), .int (nI (lst S h)), .int (nI sd), uu] [.int (nI (nx S (wlT S h) (sd - 1)))] (hH hp D S (nh S (i + 1)) w ft fz fl fm) n
              refine g_istore (pc' := 42) dX2_addSmallerDie_40 (by decide) ?_
              refine g_aload_n (pc' := 43) dX2_addSmallerDie_42 rfl rfl ?_
              refine g_get (pc' := 46) fl_X2_21 dX2_addSmallerDie_43 (by omega) (by first | assumption | exact va_up_self _ _ _ | exact (va_up_ne _ _ (by first | decide | omega)).trans (by assumption) | exact (va_up_ne _ _ (by first | decide | omega)).trans (va_up_self _ _ _) | exact (va_up_ne _ _ (by first | decide | omega)).trans ((va_up_ne _ _ (by first | decide | omega)).trans (by assumption)) | exact (va_up_ne _ _ (by first | decide | omega)).trans ((va_up_ne _ _ (by first | decide | omega)).trans (va_up_self _ _ _)) | exact (va_up_ne _ _ (by first | decide | omega)).trans ((va_up_ne _ _ (by first | decide | omega)).trans ((va_up_ne _ _ (by first | decide | omega)).trans (by assumption))) | exact (va_up_ne _ _ (by first | decide | omega)).trans ((va_up_ne _ _ (by first | decide | omega)).trans ((va_up_ne _ _ (by first | decide | omega)).trans ((va_up_ne _ _ (by first | decide | omega)).trans (by assumption)))) | exact rfl) (by first | assumption | rfl | exact (List.getElem?_set_ne (by decide)).trans (by assumption) | exact List.getElem?_set_self (by omega)) ?_
              refine g_iload_n (pc' := 47) dX2_addSmallerDie_46 rfl rfl ?_
              refine g_bipush (pc' := 49) (v := nI 6) dX2_addSmallerDie_47 (by decide) ?_
              first | refine g_imulN (pc' := 50) dX2_addSmallerDie_49 ?_ | refine g_imul (pc' := 50) dX2_addSmallerDie_49 ?_
              refine g_iload (pc' := 52) dX2_addSmallerDie_50 rfl ?_
              first | refine g_iaddN (pc' := 53) dX2_addSmallerDie_52 ?_ | refine g_iadd (pc' := 53) dX2_addSmallerDie_52 ?_
              refine g_iconst (pc' := 54) (v := nI 1) dX2_addSmallerDie_53 (by decide) ?_
              first | refine g_isubN (pc' := 55) dX2_addSmallerDie_54 (by omega) ?_ | refine g_isub (pc' := 55) dX2_addSmallerDie_54 ?_
              refine g_aload_n (pc' := 56) dX2_addSmallerDie_55 rfl rfl ?_
              refine g_iload (pc' := 58) dX2_addSmallerDie_56 rfl ?_
              refine g_iload (pc' := 60) dX2_addSmallerDie_58 rfl ?_
              refine gc_V 63 5 [.int (nI (nx S (wlT S h) (sd - 1))), .int (nI (lst S h))] [.int (nI (h * 6 + sd - 1)), .ref 9] cw_X2_50 im_X2_withDie se_X2_withDie dX2_addSmallerDie_60 (by decide) (by decide) (Nat.le_refl _) (Nat.le_refl _) (Nat.le_of_ble_eq_true rfl) rfl (Nat.le_of_ble_eq_true rfl) (by omega) (by first | assumption | exact va_up_self _ _ _ | exact (va_up_ne _ _ (by first | decide | omega)).trans (by assumption) | exact (va_up_ne _ _ (by first | decide | omega)).trans (va_up_self _ _ _) | exact (va_up_ne _ _ (by first | decide | omega)).trans ((va_up_ne _ _ (by first | decide | omega)).trans (by assumption)) | exact (va_up_ne _ _ (by first | decide | omega)).trans ((va_up_ne _ _ (by first | decide | omega)).trans (va_up_self _ _ _)) | exact (va_up_ne _ _ (by first | decide | omega)).trans ((va_up_ne _ _ (by first | decide | omega)).trans ((va_up_ne _ _ (by first | decide | omega)).trans (by assumption))) | exact (va_up_ne _ _ (by first | decide | omega)).trans ((va_up_ne _ _ (by first | decide | omega)).trans ((va_up_ne _ _ (by first | decide | omega)).trans ((va_up_ne _ _ (by first | decide | omega)).trans (by assumption)))) | exact rfl) rfl rfl (c_withDie (fz := fz) (fm := fm) (z := i) (r := nx S h (sd - 1)) hn h6 hD rfl rfl rfl (by omega) (by omega) (by rw [hT.2.1 _ (by omega), n5]; congr 1; omega) hiD a1 a2 (by rw [m2 _ _ hah1 hah2 (by omega) (by omega), hcm]) ⟨rfl, ?_⟩)
              show G yX2_addSmallerDie cX2_addSmallerDie 7 none (rmD 1) none Q 0 0 63 [.ref 5, .int (nI a), .int (nI (nh S i)), .int (nI h), .int (nI (lst S h)), .int (nI sd), .int (nI (nx S (wlT S h) (sd - 1)))] [.int (nI (nx S h (sd - 1))), .int (nI (h * 6 + sd - 1)), .ref 9] (hH hp D S (nh S (i + 1)) w ft fz fl fm) n
              refine g_iast (pc' := 64) dX2_addSmallerDie_63 (by omega) (by first | assumption | exact va_up_self _ _ _ | exact (va_up_ne _ _ (by first | decide | omega)).trans (by assumption) | exact (va_up_ne _ _ (by first | decide | omega)).trans (va_up_self _ _ _) | exact (va_up_ne _ _ (by first | decide | omega)).trans ((va_up_ne _ _ (by first | decide | omega)).trans (by assumption)) | exact (va_up_ne _ _ (by first | decide | omega)).trans ((va_up_ne _ _ (by first | decide | omega)).trans (va_up_self _ _ _)) | exact (va_up_ne _ _ (by first | decide | omega)).trans ((va_up_ne _ _ (by first | decide | omega)).trans ((va_up_ne _ _ (by first | decide | omega)).trans (by assumption))) | exact (va_up_ne _ _ (by first | decide | omega)).trans ((va_up_ne _ _ (by first | decide | omega)).trans ((va_up_ne _ _ (by first | decide | omega)).trans ((va_up_ne _ _ (by first | decide | omega)).trans (by assumption)))) | exact rfl) ((IX_nI (by omega) (by omega))) ?_
              rw [hH_9]
              first | refine g_iincN (z := 1) (pc' := 67) dX2_addSmallerDie_64 rfl rfl (by decide) ?_ | refine g_iinc (pc' := 67) dX2_addSmallerDie_64 rfl rfl (by decide) ?_
              refine g_goto (tgt := 21) dX2_addSmallerDie_67 (by decide) ?_
              refine g_fg (by repeat (first | exact trivial | refine ⟨Or.inr rfl, ?_⟩ | refine ⟨Or.inl rfl, ?_⟩)) (ih2 (sd + 1) _ (by omega) (by omega) (fun g s q1 q2 => ?_) (fun g s q1 q2 q3 q4 => ?_) (fun s q1 => ?_))
              · rw [pk_un (by omega)]; exact m1 g s q1 q2
              · by_cases e : g = h
                · subst e
                  have ef2 : f1 S g = max 1 (lst S g) := rfl
                  rw [pk_un (by omega)]; exact m2 g s q1 q2 q3 q4
                · rw [pk_un (by omega)]; exact m2 g s q1 q2 q3 q4
              · by_cases e : s + 1 = sd
                · rw [show 6 * h + s = h * 6 + sd - 1 by omega, pk_us, show s = sd - 1 by omega]
                · rw [pk_un (by omega)]; exact m3 s (by omega)
        by_cases e : lst S h = 0
        · exact inner 0 1 fm (by omega) (Or.inr ⟨e, rfl, rfl⟩) m1 m2 (fun s q => by omega)
        · exact inner (lst S h - 1) 1 fm (by omega) (Or.inl (by omega)) m1 m2 (fun s q => by omega)
  exact outer (nh S i - a) a fm (by omega) (Nat.le_refl _) hm1 hm2
/-- the class's heaps are those of D dice with S sides -/
def HT (hp : AH) (D S : Nat) : Prop := ∃ ft fz fl fm : Nat → Int32, hp 5 = ob 2 [.ref 6, .ref 7, .ref 8, .ref 9, .int (nI D), .int (nI S), .int (nI (nh S D)), .int (nI (nh S (D - 1)))] ∧ hp 6 = aI 462 ft ∧ hp 7 = aI 462 fz ∧ hp 8 = aI 462 fl ∧ hp 9 = aI 2772 fm ∧ TH S (nh S D) ft fz fl ∧ TM S D (nh S D) fm
/-- .. or they are not made yet -/
def HX (hp : AH) : Prop := (∃ (ft fz fl fm : Nat → Int32) (x5 x6 x7 : Int32), hp 5 = ob 2 [.ref 6, .ref 7, .ref 8, .ref 9, .int (nI 0), .int x5, .int x6, .int x7] ∧ hp 6 = aI 462 ft ∧ hp 7 = aI 462 fz ∧ hp 8 = aI 462 fl ∧ hp 9 = aI 2772 fm ∧ ft 0 = nI 0 ∧ fz 0 = nI 0) ∨ ∃ d s, 1 ≤ d ∧ d ≤ 5 ∧ 2 ≤ s ∧ s ≤ 6 ∧ HT hp d s
theorem hH_of {hp : AH} {D S c w : Nat} {ft fz fl fm : Nat → Int32} (c6 : hp 6 = aI 462 ft) (c7 : hp 7 = aI 462 fz) (c8 : hp 8 = aI 462 fl) (c9 : hp 9 = aI 2772 fm) : va_up hp 5 (ob 2 [.ref 6, .ref 7, .ref 8, .ref 9, .int (nI D), .int (nI S), .int (nI c), .int (nI w)]) = hH hp D S c w ft fz fl fm := by
  funext i
  unfold hH va_up
  by_cases e9 : i = 9
  · subst e9; simp [c9]
  · by_cases e8 : i = 8
    · subst e8; simp [c8]
    · by_cases e7 : i = 7
      · subst e7; simp [c7]
      · by_cases e6 : i = 6
        · subst e6; simp [c6]
        · simp [e9, e8, e7, e6]
theorem c_build {hp : AH} {n D S : Nat} {Q : Option Value → AH → Nat → Prop} (hn : 64 ≤ n) (h2 : 2 ≤ S) (h6 : S ≤ 6) (hD1 : 1 ≤ D) (hD : D ≤ 5) (X : HX hp)
    (hq : ∀ hp' : AH, HT hp' D S → (∀ i, i < 5 ∨ 10 ≤ i → hp' i = hp i) → Q none hp' n) : CT yX2_build cX2_build 5 none (rmD 2) [.ref 5, .int (nI D), .int (nI S)] hp n Q := by
  have go : ∀ (d0 : Nat) (x5 x6 x7 : Int32) (ft fz fl fm : Nat → Int32), hp 5 = ob 2 [.ref 6, .ref 7, .ref 8, .ref 9, .int (nI d0), .int x5, .int x6, .int x7] → hp 6 = aI 462 ft → hp 7 = aI 462 fz → hp 8 = aI 462 fl → hp 9 = aI 2772 fm → ft 0 = nI 0 → fz 0 = nI 0 → G yX2_build cX2_build 5 none (rmD 2) none Q 0 0 17 [.ref 5, .int (nI D), .int (nI S), uu, uu] [] hp n := by
    intro d0 x5 x6 x7 ft fz fl fm c5 c6 c7 c8 c9 t0 z0
    refine g_aload_n (pc' := 18) dX2_build_17 rfl rfl ?_
    refine g_iload_n (pc' := 19) dX2_build_18 rfl rfl ?_
    refine g_put (pc' := 22) fl_X2_24 ft_2_4 dX2_build_19 (by omega) (by first | assumption | exact va_up_self _ _ _ | exact (va_up_ne _ _ (by first | decide | omega)).trans (by assumption) | exact (va_up_ne _ _ (by first | decide | omega)).trans (va_up_self _ _ _) | exact (va_up_ne _ _ (by first | decide | omega)).trans ((va_up_ne _ _ (by first | decide | omega)).trans (by assumption)) | exact (va_up_ne _ _ (by first | decide | omega)).trans ((va_up_ne _ _ (by first | decide | omega)).trans (va_up_self _ _ _)) | exact (va_up_ne _ _ (by first | decide | omega)).trans ((va_up_ne _ _ (by first | decide | omega)).trans ((va_up_ne _ _ (by first | decide | omega)).trans (by assumption))) | exact (va_up_ne _ _ (by first | decide | omega)).trans ((va_up_ne _ _ (by first | decide | omega)).trans ((va_up_ne _ _ (by first | decide | omega)).trans ((va_up_ne _ _ (by first | decide | omega)).trans (by assumption)))) | exact rfl) (by first | exact Nat.le_of_ble_eq_true rfl | omega | (simp only [List.length_set]; omega)) rfl rfl ?_
    refine g_aload_n (pc' := 23) dX2_build_22 rfl rfl ?_
    refine g_iload_n (pc' := 24) dX2_build_23 rfl rfl ?_
    refine g_put (pc' := 27) fl_X2_28 ft_2_5 dX2_build_24 (by omega) (by first | assumption | exact va_up_self _ _ _ | exact (va_up_ne _ _ (by first | decide | omega)).trans (by assumption) | exact (va_up_ne _ _ (by first | decide | omega)).trans (va_up_self _ _ _) | exact (va_up_ne _ _ (by first | decide | omega)).trans ((va_up_ne _ _ (by first | decide | omega)).trans (by assumption)) | exact (va_up_ne _ _ (by first | decide | omega)).trans ((va_up_ne _ _ (by first | decide | omega)).trans (va_up_self _ _ _)) | exact (va_up_ne _ _ (by first | decide | omega)).trans ((va_up_ne _ _ (by first | decide | omega)).trans ((va_up_ne _ _ (by first | decide | omega)).trans (by assumption))) | exact (va_up_ne _ _ (by first | decide | omega)).trans ((va_up_ne _ _ (by first | decide | omega)).trans ((va_up_ne _ _ (by first | decide | omega)).trans ((va_up_ne _ _ (by first | decide | omega)).trans (by assumption)))) | exact rfl) (by first | exact Nat.le_of_ble_eq_true rfl | omega | (simp only [List.length_set]; omega)) rfl rfl ?_
    rw [up_up]
    refine g_aload_n (pc' := 28) dX2_build_27 rfl rfl ?_
    refine g_iconst (pc' := 29) (v := nI 1) dX2_build_28 (by decide) ?_
    refine g_put (pc' := 32) fl_X2_31 ft_2_6 dX2_build_29 (by omega) (by first | assumption | exact va_up_self _ _ _ | exact (va_up_ne _ _ (by first | decide | omega)).trans (by assumption) | exact (va_up_ne _ _ (by first | decide | omega)).trans (va_up_self _ _ _) | exact (va_up_ne _ _ (by first | decide | omega)).trans ((va_up_ne _ _ (by first | decide | omega)).trans (by assumption)) | exact (va_up_ne _ _ (by first | decide | omega)).trans ((va_up_ne _ _ (by first | decide | omega)).trans (va_up_self _ _ _)) | exact (va_up_ne _ _ (by first | decide | omega)).trans ((va_up_ne _ _ (by first | decide | omega)).trans ((va_up_ne _ _ (by first | decide | omega)).trans (by assumption))) | exact (va_up_ne _ _ (by first | decide | omega)).trans ((va_up_ne _ _ (by first | decide | omega)).trans ((va_up_ne _ _ (by first | decide | omega)).trans ((va_up_ne _ _ (by first | decide | omega)).trans (by assumption)))) | exact rfl) (by first | exact Nat.le_of_ble_eq_true rfl | omega | (simp only [List.length_set]; omega)) rfl rfl ?_
    rw [up_up]
    refine g_aload_n (pc' := 33) dX2_build_32 rfl rfl ?_
    refine g_iconst (pc' := 34) (v := nI 0) dX2_build_33 (by decide) ?_
    refine g_put (pc' := 37) fl_X2_34 ft_2_7 dX2_build_34 (by omega) (by first | assumption | exact va_up_self _ _ _ | exact (va_up_ne _ _ (by first | decide | omega)).trans (by assumption) | exact (va_up_ne _ _ (by first | decide | omega)).trans (va_up_self _ _ _) | exact (va_up_ne _ _ (by first | decide | omega)).trans ((va_up_ne _ _ (by first | decide | omega)).trans (by assumption)) | exact (va_up_ne _ _ (by first | decide | omega)).trans ((va_up_ne _ _ (by first | decide | omega)).trans (va_up_self _ _ _)) | exact (va_up_ne _ _ (by first | decide | omega)).trans ((va_up_ne _ _ (by first | decide | omega)).trans ((va_up_ne _ _ (by first | decide | omega)).trans (by assumption))) | exact (va_up_ne _ _ (by first | decide | omega)).trans ((va_up_ne _ _ (by first | decide | omega)).trans ((va_up_ne _ _ (by first | decide | omega)).trans ((va_up_ne _ _ (by first | decide | omega)).trans (by assumption)))) | exact rfl) (by first | exact Nat.le_of_ble_eq_true rfl | omega | (simp only [List.length_set]; omega)) rfl rfl ?_
    rw [up_up]
    show G yX2_build cX2_build 5 none (rmD 2) none Q 0 0 37 [.ref 5, .int (nI D), .int (nI S), uu, uu] [] (va_up hp 5 (ob 2 [.ref 6, .ref 7, .ref 8, .ref 9, .int (nI D), .int (nI S), .int (nI 1), .int (nI 0)])) n
    rw [hH_of c6 c7 c8 c9]
    refine g_iconst (pc' := 38) (v := nI 0) dX2_build_37 (by decide) ?_
    refine g_istore_n (pc' := 39) dX2_build_38 rfl (by decide) ?_
    have loop : ∀ k i ft fz fl fm, i + k = D → TH S (nh S i) ft fz fl → (∀ g s, g < (if i = 0 then 0 else nh S (i - 1)) → s < S → fm (6 * g + s) = nI (nx S g s)) → G yX2_build cX2_build 5 none (rmD 2) none Q 0 0 39 [.ref 5, .int (nI D), .int (nI S), .int (nI i), uu] [] (hH hp D S (nh S i) (if i = 0 then 0 else nh S (i - 1)) ft fz fl fm) n := by
      intro k
      induction k with
      | zero =>
        intro i ft fz fl fm hk hT hm
        have e : i = D := by omega
        subst e
        refine g_iload_n (pc' := 40) dX2_build_39 rfl rfl ?_
        refine g_aload_n (pc' := 41) dX2_build_40 rfl rfl ?_
        refine g_get (pc' := 44) fl_X2_24 dX2_build_41 (by omega) (by first | assumption | exact va_up_self _ _ _ | exact (va_up_ne _ _ (by first | decide | omega)).trans (by assumption) | exact (va_up_ne _ _ (by first | decide | omega)).trans (va_up_self _ _ _) | exact (va_up_ne _ _ (by first | decide | omega)).trans ((va_up_ne _ _ (by first | decide | omega)).trans (by assumption)) | exact (va_up_ne _ _ (by first | decide | omega)).trans ((va_up_ne _ _ (by first | decide | omega)).trans (va_up_self _ _ _)) | exact (va_up_ne _ _ (by first | decide | omega)).trans ((va_up_ne _ _ (by first | decide | omega)).trans ((va_up_ne _ _ (by first | decide | omega)).trans (by assumption))) | exact (va_up_ne _ _ (by first | decide | omega)).trans ((va_up_ne _ _ (by first | decide | omega)).trans ((va_up_ne _ _ (by first | decide | omega)).trans ((va_up_ne _ _ (by first | decide | omega)).trans (by assumption)))) | exact rfl) (by first | assumption | rfl | exact (List.getElem?_set_ne (by decide)).trans (by assumption) | exact List.getElem?_set_self (by omega)) ?_
        refine g_icmp_geN (tgt := 85) (pc' := 47) dX2_build_44 (by decide) (by first | omega | decide) (by first | omega | decide) (fun z1 => ?_) (fun z1 => ?_)
        · rw [if_neg (by omega)] at hm ⊢
          refine g_vret dX2_build_85 rfl (Nat.le_refl _) (Nat.le_refl _) (hq _ ⟨ft, fz, fl, fm, rfl, rfl, rfl, rfl, rfl, hT, fun g s q1 q2 q3 => hm g s ?_ q3⟩ (fun j hj => ?_))
          · exact (sz_iff h2 h6 (by omega) (Nat.lt_of_lt_of_le q1 (nh_mono h2 h6 hD (Nat.le_refl 5)))).mp (by omega)
          · unfold hH
            rw [va_up_ne _ _ (by omega), va_up_ne _ _ (by omega), va_up_ne _ _ (by omega), va_up_ne _ _ (by omega), va_up_ne _ _ (by omega)]
        · omega
      | succ k ih =>
        intro i ft fz fl fm hk hT hm
        have nxt := ih (i + 1)
        rw [if_neg (show ¬ i + 1 = 0 by omega), show i + 1 - 1 = i by omega] at nxt
        generalize ha : (if i = 0 then 0 else nh S (i - 1)) = a at hm ⊢
        refine g_iload_n (pc' := 40) dX2_build_39 rfl rfl ?_
        refine g_aload_n (pc' := 41) dX2_build_40 rfl rfl ?_
        refine g_get (pc' := 44) fl_X2_24 dX2_build_41 (by omega) (by first | assumption | exact va_up_self _ _ _ | exact (va_up_ne _ _ (by first | decide | omega)).trans (by assumption) | exact (va_up_ne _ _ (by first | decide | omega)).trans (va_up_self _ _ _) | exact (va_up_ne _ _ (by first | decide | omega)).trans ((va_up_ne _ _ (by first | decide | omega)).trans (by assumption)) | exact (va_up_ne _ _ (by first | decide | omega)).trans ((va_up_ne _ _ (by first | decide | omega)).trans (va_up_self _ _ _)) | exact (va_up_ne _ _ (by first | decide | omega)).trans ((va_up_ne _ _ (by first | decide | omega)).trans ((va_up_ne _ _ (by first | decide | omega)).trans (by assumption))) | exact (va_up_ne _ _ (by first | decide | omega)).trans ((va_up_ne _ _ (by first | decide | omega)).trans ((va_up_ne _ _ (by first | decide | omega)).trans ((va_up_ne _ _ (by first | decide | omega)).trans (by assumption)))) | exact rfl) (by first | assumption | rfl | exact (List.getElem?_set_ne (by decide)).trans (by assumption) | exact List.getElem?_set_self (by omega)) ?_
        refine g_icmp_geN (tgt := 85) (pc' := 47) dX2_build_44 (by decide) (by first | omega | decide) (by first | omega | decide) (fun z1 => ?_) (fun z1 => ?_)
        · omega
        · refine g_aload_n (pc' := 48) dX2_build_47 rfl rfl ?_
          refine g_get (pc' := 51) fl_X2_31 dX2_build_48 (by omega) (by first | assumption | exact va_up_self _ _ _ | exact (va_up_ne _ _ (by first | decide | omega)).trans (by assumption) | exact (va_up_ne _ _ (by first | decide | omega)).trans (va_up_self _ _ _) | exact (va_up_ne _ _ (by first | decide | omega)).trans ((va_up_ne _ _ (by first | decide | omega)).trans (by assumption)) | exact (va_up_ne _ _ (by first | decide | omega)).trans ((va_up_ne _ _ (by first | decide | omega)).trans (va_up_self _ _ _)) | exact (va_up_ne _ _ (by first | decide | omega)).trans ((va_up_ne _ _ (by first | decide | omega)).trans ((va_up_ne _ _ (by first | decide | omega)).trans (by assumption))) | exact (va_up_ne _ _ (by first | decide | omega)).trans ((va_up_ne _ _ (by first | decide | omega)).trans ((va_up_ne _ _ (by first | decide | omega)).trans ((va_up_ne _ _ (by first | decide | omega)).trans (by assumption)))) | exact rfl) (by first | assumption | rfl | exact (List.getElem?_set_ne (by decide)).trans (by assumption) | exact List.getElem?_set_self (by omega)) ?_
          refine g_istore (pc' := 53) dX2_build_51 (by decide) ?_
          refine g_aload_n (pc' := 54) dX2_build_53 rfl rfl ?_
          refine g_aload_n (pc' := 55) dX2_build_54 rfl rfl ?_
          refine g_get (pc' := 58) fl_X2_34 dX2_build_55 (by omega) (by first | assumption | exact va_up_self _ _ _ | exact (va_up_ne _ _ (by first | decide | omega)).trans (by assumption) | exact (va_up_ne _ _ (by first | decide | omega)).trans (va_up_self _ _ _) | exact (va_up_ne _ _ (by first | decide | omega)).trans ((va_up_ne _ _ (by first | decide | omega)).trans (by assumption)) | exact (va_up_ne _ _ (by first | decide | omega)).trans ((va_up_ne _ _ (by first | decide | omega)).trans (va_up_self _ _ _)) | exact (va_up_ne _ _ (by first | decide | omega)).trans ((va_up_ne _ _ (by first | decide | omega)).trans ((va_up_ne _ _ (by first | decide | omega)).trans (by assumption))) | exact (va_up_ne _ _ (by first | decide | omega)).trans ((va_up_ne _ _ (by first | decide | omega)).trans ((va_up_ne _ _ (by first | decide | omega)).trans ((va_up_ne _ _ (by first | decide | omega)).trans (by assumption)))) | exact rfl) (by first | assumption | rfl | exact (List.getElem?_set_ne (by decide)).trans (by assumption) | exact List.getElem?_set_self (by omega)) ?_
          refine g_iload (pc' := 60) dX2_build_58 rfl ?_
          refine gc_V 63 5 [.int (nI a), .int (nI (nh S i))] [] cw_X2_37 im_X2_addLargestDie se_X2_addLargestDie dX2_build_60 (by decide) (by decide) (Nat.le_refl _) (Nat.le_refl _) (Nat.le_of_ble_eq_true rfl) rfl (Nat.le_of_ble_eq_true rfl) (by omega) (by first | assumption | exact va_up_self _ _ _ | exact (va_up_ne _ _ (by first | decide | omega)).trans (by assumption) | exact (va_up_ne _ _ (by first | decide | omega)).trans (va_up_self _ _ _) | exact (va_up_ne _ _ (by first | decide | omega)).trans ((va_up_ne _ _ (by first | decide | omega)).trans (by assumption)) | exact (va_up_ne _ _ (by first | decide | omega)).trans ((va_up_ne _ _ (by first | decide | omega)).trans (va_up_self _ _ _)) | exact (va_up_ne _ _ (by first | decide | omega)).trans ((va_up_ne _ _ (by first | decide | omega)).trans ((va_up_ne _ _ (by first | decide | omega)).trans (by assumption))) | exact (va_up_ne _ _ (by first | decide | omega)).trans ((va_up_ne _ _ (by first | decide | omega)).trans ((va_up_ne _ _ (by first | decide | omega)).trans ((va_up_ne _ _ (by first | decide | omega)).trans (by assumption)))) | exact rfl) rfl rfl (c_addLargestDie hn h2 h6 (by omega) ha.symm hT (fun ft' fz' fl' fm' hT' m1 m2 => ⟨rfl, ?_⟩))
          refine g_aload_n (pc' := 64) dX2_build_63 rfl rfl ?_
          refine g_aload_n (pc' := 65) dX2_build_64 rfl rfl ?_
          refine g_get (pc' := 68) fl_X2_34 dX2_build_65 (by omega) (by first | assumption | exact va_up_self _ _ _ | exact (va_up_ne _ _ (by first | decide | omega)).trans (by assumption) | exact (va_up_ne _ _ (by first | decide | omega)).trans (va_up_self _ _ _) | exact (va_up_ne _ _ (by first | decide | omega)).trans ((va_up_ne _ _ (by first | decide | omega)).trans (by assumption)) | exact (va_up_ne _ _ (by first | decide | omega)).trans ((va_up_ne _ _ (by first | decide | omega)).trans (va_up_self _ _ _)) | exact (va_up_ne _ _ (by first | decide | omega)).trans ((va_up_ne _ _ (by first | decide | omega)).trans ((va_up_ne _ _ (by first | decide | omega)).trans (by assumption))) | exact (va_up_ne _ _ (by first | decide | omega)).trans ((va_up_ne _ _ (by first | decide | omega)).trans ((va_up_ne _ _ (by first | decide | omega)).trans ((va_up_ne _ _ (by first | decide | omega)).trans (by assumption)))) | exact rfl) (by first | assumption | rfl | exact (List.getElem?_set_ne (by decide)).trans (by assumption) | exact List.getElem?_set_self (by omega)) ?_
          refine g_iload (pc' := 70) dX2_build_68 rfl ?_
          refine gc_V 73 5 [.int (nI a), .int (nI (nh S i))] [] cw_X2_41 im_X2_addSmallerDie se_X2_addSmallerDie dX2_build_70 (by decide) (by decide) (Nat.le_refl _) (Nat.le_refl _) (Nat.le_of_ble_eq_true rfl) rfl (Nat.le_of_ble_eq_true rfl) (by omega) (by first | assumption | exact va_up_self _ _ _ | exact (va_up_ne _ _ (by first | decide | omega)).trans (by assumption) | exact (va_up_ne _ _ (by first | decide | omega)).trans (va_up_self _ _ _) | exact (va_up_ne _ _ (by first | decide | omega)).trans ((va_up_ne _ _ (by first | decide | omega)).trans (by assumption)) | exact (va_up_ne _ _ (by first | decide | omega)).trans ((va_up_ne _ _ (by first | decide | omega)).trans (va_up_self _ _ _)) | exact (va_up_ne _ _ (by first | decide | omega)).trans ((va_up_ne _ _ (by first | decide | omega)).trans ((va_up_ne _ _ (by first | decide | omega)).trans (by assumption))) | exact (va_up_ne _ _ (by first | decide | omega)).trans ((va_up_ne _ _ (by first | decide | omega)).trans ((va_up_ne _ _ (by first | decide | omega)).trans ((va_up_ne _ _ (by first | decide | omega)).trans (by assumption)))) | exact rfl) rfl rfl (c_addSmallerDie hn h2 h6 (by omega) hD (by omega) ha.symm hT' (fun g s q1 q2 => by rw [m1 _ (by omega)]; exact hm g s q1 q2) m2 (fun fm2 m3 => ⟨rfl, ?_⟩))
          refine g_aload_n (pc' := 74) dX2_build_73 rfl rfl ?_
          refine g_iload (pc' := 76) dX2_build_74 rfl ?_
          refine g_put (pc' := 79) fl_X2_34 ft_2_7 dX2_build_76 (by omega) (by first | assumption | exact va_up_self _ _ _ | exact (va_up_ne _ _ (by first | decide | omega)).trans (by assumption) | exact (va_up_ne _ _ (by first | decide | omega)).trans (va_up_self _ _ _) | exact (va_up_ne _ _ (by first | decide | omega)).trans ((va_up_ne _ _ (by first | decide | omega)).trans (by assumption)) | exact (va_up_ne _ _ (by first | decide | omega)).trans ((va_up_ne _ _ (by first | decide | omega)).trans (va_up_self _ _ _)) | exact (va_up_ne _ _ (by first | decide | omega)).trans ((va_up_ne _ _ (by first | decide | omega)).trans ((va_up_ne _ _ (by first | decide | omega)).trans (by assumption))) | exact (va_up_ne _ _ (by first | decide | omega)).trans ((va_up_ne _ _ (by first | decide | omega)).trans ((va_up_ne _ _ (by first | decide | omega)).trans ((va_up_ne _ _ (by first | decide | omega)).trans (by assumption)))) | exact rfl) (by first | exact Nat.le_of_ble_eq_true rfl | omega | (simp only [List.length_set]; omega)) rfl rfl ?_
          rw [hH_w]
          first | refine g_iincN (z := 1) (pc' := 82) dX2_build_79 rfl rfl (by decide) ?_ | refine g_iinc (pc' := 82) dX2_build_79 rfl rfl (by decide) ?_
          refine g_goto (tgt := 39) dX2_build_82 (by decide) ?_
          exact g_fg (by repeat (first | exact trivial | refine ⟨Or.inr rfl, ?_⟩ | refine ⟨Or.inl rfl, ?_⟩)) (nxt ft' fz' fl' fm2 (by omega) hT' m3)
    have := loop D 0 ft fz fl fm (by omega) ⟨fun h hh => ?_, fun h hh => ?_, fun h q1 q2 => ?_⟩ (fun g s q => absurd q (Nat.not_lt_zero g))
    · rw [nh_S0, if_pos rfl] at this
      exact this
    · rw [nh_S0] at hh
      rw [show h = 0 by omega, td_0]; exact t0
    · rw [nh_S0] at hh
      rw [show h = 0 by omega, sz_0]; exact z0
    · rw [nh_S0] at q2
      omega
  show G yX2_build cX2_build 5 none (rmD 2) none Q 0 0 0 [.ref 5, .int (nI D), .int (nI S), uu, uu] [] hp n
  rcases X with ⟨ft, fz, fl, fm, x5, x6, x7, c5, c6, c7, c8, c9, t0, z0⟩ | ⟨d, s, d1, d5, s2, s6, HT0⟩
  · refine g_aload_n (pc' := 1) dX2_build_0 rfl rfl ?_
    refine g_get (pc' := 4) fl_X2_24 dX2_build_1 (by omega) (by first | assumption | exact va_up_self _ _ _ | exact (va_up_ne _ _ (by first | decide | omega)).trans (by assumption) | exact (va_up_ne _ _ (by first | decide | omega)).trans (va_up_self _ _ _) | exact (va_up_ne _ _ (by first | decide | omega)).trans ((va_up_ne _ _ (by first | decide | omega)).trans (by assumption)) | exact (va_up_ne _ _ (by first | decide | omega)).trans ((va_up_ne _ _ (by first | decide | omega)).trans (va_up_self _ _ _)) | exact (va_up_ne _ _ (by first | decide | omega)).trans ((va_up_ne _ _ (by first | decide | omega)).trans ((va_up_ne _ _ (by first | decide | omega)).trans (by assumption))) | exact (va_up_ne _ _ (by first | decide | omega)).trans ((va_up_ne _ _ (by first | decide | omega)).trans ((va_up_ne _ _ (by first | decide | omega)).trans ((va_up_ne _ _ (by first | decide | omega)).trans (by assumption)))) | exact rfl) (by first | assumption | rfl | exact (List.getElem?_set_ne (by decide)).trans (by assumption) | exact List.getElem?_set_self (by omega)) ?_
    refine g_iload_n (pc' := 5) dX2_build_4 rfl rfl ?_
    refine g_icmp_neN (tgt := 17) (pc' := 8) dX2_build_5 (by decide) (by first | omega | decide) (by first | omega | decide) (fun z1 => ?_) (fun z1 => ?_)
    · exact go 0 x5 x6 x7 ft fz fl fm c5 c6 c7 c8 c9 t0 z0
    · omega
  · obtain ⟨ft, fz, fl, fm, c5, c6, c7, c8, c9, hT, hm⟩ := id HT0
    have n1 := (nh_le s2 s6 d5).2
    have go' := go d (nI s) (nI (nh s d)) (nI (nh s (d - 1))) ft fz fl fm c5 c6 c7 c8 c9 (by rw [hT.1 0 n1, td_0]) (by rw [hT.2.1 0 n1, sz_0])
    refine g_aload_n (pc' := 1) dX2_build_0 rfl rfl ?_
    refine g_get (pc' := 4) fl_X2_24 dX2_build_1 (by omega) (by first | assumption | exact va_up_self _ _ _ | exact (va_up_ne _ _ (by first | decide | omega)).trans (by assumption) | exact (va_up_ne _ _ (by first | decide | omega)).trans (va_up_self _ _ _) | exact (va_up_ne _ _ (by first | decide | omega)).trans ((va_up_ne _ _ (by first | decide | omega)).trans (by assumption)) | exact (va_up_ne _ _ (by first | decide | omega)).trans ((va_up_ne _ _ (by first | decide | omega)).trans (va_up_self _ _ _)) | exact (va_up_ne _ _ (by first | decide | omega)).trans ((va_up_ne _ _ (by first | decide | omega)).trans ((va_up_ne _ _ (by first | decide | omega)).trans (by assumption))) | exact (va_up_ne _ _ (by first | decide | omega)).trans ((va_up_ne _ _ (by first | decide | omega)).trans ((va_up_ne _ _ (by first | decide | omega)).trans ((va_up_ne _ _ (by first | decide | omega)).trans (by assumption)))) | exact rfl) (by first | assumption | rfl | exact (List.getElem?_set_ne (by decide)).trans (by assumption) | exact List.getElem?_set_self (by omega)) ?_
    refine g_iload_n (pc' := 5) dX2_build_4 rfl rfl ?_
    refine g_icmp_neN (tgt := 17) (pc' := 8) dX2_build_5 (by decide) (by first | omega | decide) (by first | omega | decide) (fun z1 => ?_) (fun z1 => ?_)
    · exact go'
    · refine g_aload_n (pc' := 9) dX2_build_8 rfl rfl ?_
      refine g_get (pc' := 12) fl_X2_28 dX2_build_9 (by omega) (by first | assumption | exact va_up_self _ _ _ | exact (va_up_ne _ _ (by first | decide | omega)).trans (by assumption) | exact (va_up_ne _ _ (by first | decide | omega)).trans (va_up_self _ _ _) | exact (va_up_ne _ _ (by first | decide | omega)).trans ((va_up_ne _ _ (by first | decide | omega)).trans (by assumption)) | exact (va_up_ne _ _ (by first | decide | omega)).trans ((va_up_ne _ _ (by first | decide | omega)).trans (va_up_self _ _ _)) | exact (va_up_ne _ _ (by first | decide | omega)).trans ((va_up_ne _ _ (by first | decide | omega)).trans ((va_up_ne _ _ (by first | decide | omega)).trans (by assumption))) | exact (va_up_ne _ _ (by first | decide | omega)).trans ((va_up_ne _ _ (by first | decide | omega)).trans ((va_up_ne _ _ (by first | decide | omega)).trans ((va_up_ne _ _ (by first | decide | omega)).trans (by assumption)))) | exact rfl) (by first | assumption | rfl | exact (List.getElem?_set_ne (by decide)).trans (by assumption) | exact List.getElem?_set_self (by omega)) ?_
      refine g_iload_n (pc' := 13) dX2_build_12 rfl rfl ?_
      refine g_icmp_neN (tgt := 17) (pc' := 16) dX2_build_13 (by decide) (by first | omega | decide) (by first | omega | decide) (fun z2 => ?_) (fun z2 => ?_)
      · exact go'
      · subst z1 z2
        exact g_vret dX2_build_16 rfl (Nat.le_refl _) (Nat.le_refl _) (hq hp HT0 (fun _ _ => rfl))
