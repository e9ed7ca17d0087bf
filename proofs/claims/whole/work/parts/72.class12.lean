/-! THE CLASS: Chances, what sheets can add -/
abbrev coF (v6 v7 : Value) : List Value := [.ref 4, .ref 30, .ref 25, .ref 26, .ref 27, .ref 28, v6, v7]
theorem c_leastOfRow {hp : AH} {n D S T R r : Nat} {P : Nat → Nat → Nat} {v6 v7 : Value} {Q : Option Value → AH → Nat → Prop} (hn : 64 ≤ n) (N : GN D S T R) (A : GA hp D S T R P) (hP : ∀ r h, r < R → P r h ≤ 210) (c24 : hp 24 = ob 0 (coF v6 v7)) (hr : r < R) (hq : Q (some (.int (nI (rlN D S P r)))) hp n) : CT yX0_leastOfRow cX0_leastOfRow 5 (some .int) (rmD 1) [.ref 24, .int (nI r)] hp n Q := by
  obtain ⟨h2, h6, hD1, hD, hT1, hT3, hR1, hR, hL⟩ := id N
  obtain ⟨hT, c4, ⟨fp, c10, hfp⟩, -, -⟩ := id A
  obtain ⟨ft, fz, fl, fm, c5, -⟩ := id hT
  have hw1 := wh_pos N
  have hN := (nh_le h2 h6 hD).1
  have hwa := wh_add h2 h6 hD
  have hpb : ∀ i, P r (nh S (D - 1) + i) ≤ 210 := fun i => hP r _ hr
  have hmn : ∀ k, mnF (fun i => P r (nh S (D - 1) + i)) k ≤ 210 := fun k => Nat.le_trans (mnF_le _ (Nat.zero_le k)) (hpb 0)
  have hc0 := gn_cell N hr (show 0 < wh S D by omega)
  have e0 := hfp r 0 hr (by omega)
  rw [Nat.add_zero, Nat.add_zero] at e0
  rw [Nat.add_zero] at hc0
  show G yX0_leastOfRow cX0_leastOfRow 5 (some .int) (rmD 1) none Q 0 0 0 [.ref 24, .int (nI r), uu, uu, uu] [] hp n
  refine g_aload_n (pc' := 1) dX0_leastOfRow_0 rfl rfl ?_
  refine g_get (pc' := 4) fl_X0_32 dX0_leastOfRow_1 (by omega) (by first | assumption | exact va_up_self _ _ _ | exact (va_up_ne _ _ (by first | decide | omega)).trans (by assumption) | exact (va_up_ne _ _ (by first | decide | omega)).trans (va_up_self _ _ _) | exact (va_up_ne _ _ (by first | decide | omega)).trans ((va_up_ne _ _ (by first | decide | omega)).trans (by assumption)) | exact (va_up_ne _ _ (by first | decide | omega)).trans ((va_up_ne _ _ (by first | decide | omega)).trans (va_up_self _ _ _)) | exact (va_up_ne _ _ (by first | decide | omega)).trans ((va_up_ne _ _ (by first | decide | omega)).trans ((va_up_ne _ _ (by first | decide | omega)).trans (by assumption))) | exact (va_up_ne _ _ (by first | decide | omega)).trans ((va_up_ne _ _ (by first | decide | omega)).trans ((va_up_ne _ _ (by first | decide | omega)).trans ((va_up_ne _ _ (by first | decide | omega)).trans (by assumption)))) | exact rfl) (by first | assumption | rfl | exact (List.getElem?_set_ne (by decide)).trans (by assumption) | exact List.getElem?_set_self (by omega)) ?_
  refine g_getN (pc' := 7) fn_X0_94 dX0_leastOfRow_4 (by omega) (by first | assumption | exact va_up_self _ _ _ | exact (va_up_ne _ _ (by first | decide | omega)).trans (by assumption) | exact (va_up_ne _ _ (by first | decide | omega)).trans (va_up_self _ _ _) | exact (va_up_ne _ _ (by first | decide | omega)).trans ((va_up_ne _ _ (by first | decide | omega)).trans (by assumption)) | exact (va_up_ne _ _ (by first | decide | omega)).trans ((va_up_ne _ _ (by first | decide | omega)).trans (va_up_self _ _ _)) | exact (va_up_ne _ _ (by first | decide | omega)).trans ((va_up_ne _ _ (by first | decide | omega)).trans ((va_up_ne _ _ (by first | decide | omega)).trans (by assumption))) | exact (va_up_ne _ _ (by first | decide | omega)).trans ((va_up_ne _ _ (by first | decide | omega)).trans ((va_up_ne _ _ (by first | decide | omega)).trans ((va_up_ne _ _ (by first | decide | omega)).trans (by assumption)))) | exact rfl) (by first | assumption | rfl | exact (List.getElem?_set_ne (by decide)).trans (by assumption) | exact List.getElem?_set_self (by omega)) ?_
  refine gc_V 10 5 [] [] cw_X0_98 im_X2_wholeCount se_X2_wholeCount dX0_leastOfRow_7 (by decide) (by decide) (Nat.le_refl _) (Nat.le_refl _) (Nat.le_of_ble_eq_true rfl) rfl (Nat.le_of_ble_eq_true rfl) (by omega) (by first | assumption | exact va_up_self _ _ _ | exact (va_up_ne _ _ (by first | decide | omega)).trans (by assumption) | exact (va_up_ne _ _ (by first | decide | omega)).trans (va_up_self _ _ _) | exact (va_up_ne _ _ (by first | decide | omega)).trans ((va_up_ne _ _ (by first | decide | omega)).trans (by assumption)) | exact (va_up_ne _ _ (by first | decide | omega)).trans ((va_up_ne _ _ (by first | decide | omega)).trans (va_up_self _ _ _)) | exact (va_up_ne _ _ (by first | decide | omega)).trans ((va_up_ne _ _ (by first | decide | omega)).trans ((va_up_ne _ _ (by first | decide | omega)).trans (by assumption))) | exact (va_up_ne _ _ (by first | decide | omega)).trans ((va_up_ne _ _ (by first | decide | omega)).trans ((va_up_ne _ _ (by first | decide | omega)).trans ((va_up_ne _ _ (by first | decide | omega)).trans (by assumption)))) | exact rfl) rfl rfl (c_wholeCount hn h2 h6 hD hT ⟨rfl, ?_⟩)
  show G yX0_leastOfRow cX0_leastOfRow 5 (some .int) (rmD 1) none Q 0 0 10 [.ref 24, .int (nI r), uu, uu, uu] [.int (nI (wh S D))] hp n
  refine g_istore_n (pc' := 11) dX0_leastOfRow_10 rfl (by decide) ?_
  refine g_aload_n (pc' := 12) dX0_leastOfRow_11 rfl rfl ?_
  refine g_get (pc' := 15) fl_X0_32 dX0_leastOfRow_12 (by omega) (by first | assumption | exact va_up_self _ _ _ | exact (va_up_ne _ _ (by first | decide | omega)).trans (by assumption) | exact (va_up_ne _ _ (by first | decide | omega)).trans (va_up_self _ _ _) | exact (va_up_ne _ _ (by first | decide | omega)).trans ((va_up_ne _ _ (by first | decide | omega)).trans (by assumption)) | exact (va_up_ne _ _ (by first | decide | omega)).trans ((va_up_ne _ _ (by first | decide | omega)).trans (va_up_self _ _ _)) | exact (va_up_ne _ _ (by first | decide | omega)).trans ((va_up_ne _ _ (by first | decide | omega)).trans ((va_up_ne _ _ (by first | decide | omega)).trans (by assumption))) | exact (va_up_ne _ _ (by first | decide | omega)).trans ((va_up_ne _ _ (by first | decide | omega)).trans ((va_up_ne _ _ (by first | decide | omega)).trans ((va_up_ne _ _ (by first | decide | omega)).trans (by assumption)))) | exact rfl) (by first | assumption | rfl | exact (List.getElem?_set_ne (by decide)).trans (by assumption) | exact List.getElem?_set_self (by omega)) ?_
  refine g_getN (pc' := 18) fn_X0_103 dX0_leastOfRow_15 (by omega) (by first | assumption | exact va_up_self _ _ _ | exact (va_up_ne _ _ (by first | decide | omega)).trans (by assumption) | exact (va_up_ne _ _ (by first | decide | omega)).trans (va_up_self _ _ _) | exact (va_up_ne _ _ (by first | decide | omega)).trans ((va_up_ne _ _ (by first | decide | omega)).trans (by assumption)) | exact (va_up_ne _ _ (by first | decide | omega)).trans ((va_up_ne _ _ (by first | decide | omega)).trans (va_up_self _ _ _)) | exact (va_up_ne _ _ (by first | decide | omega)).trans ((va_up_ne _ _ (by first | decide | omega)).trans ((va_up_ne _ _ (by first | decide | omega)).trans (by assumption))) | exact (va_up_ne _ _ (by first | decide | omega)).trans ((va_up_ne _ _ (by first | decide | omega)).trans ((va_up_ne _ _ (by first | decide | omega)).trans ((va_up_ne _ _ (by first | decide | omega)).trans (by assumption)))) | exact rfl) (by first | assumption | rfl | exact (List.getElem?_set_ne (by decide)).trans (by assumption) | exact List.getElem?_set_self (by omega)) ?_
  refine g_iload_n (pc' := 19) dX0_leastOfRow_18 rfl rfl ?_
  refine g_iload_n (pc' := 20) dX0_leastOfRow_19 rfl rfl ?_
  first | refine g_imulN (pc' := 21) dX0_leastOfRow_20 ?_ | refine g_imul (pc' := 21) dX0_leastOfRow_20 ?_
  refine g_atIN (pc' := 24) cw_X0_106 dX0_leastOfRow_21 (by decide) (by decide) (Nat.le_refl _) (Nat.le_refl _) (Nat.le_of_ble_eq_true rfl) (by omega) (by first | assumption | exact va_up_self _ _ _ | exact (va_up_ne _ _ (by first | decide | omega)).trans (by assumption) | exact (va_up_ne _ _ (by first | decide | omega)).trans (va_up_self _ _ _) | exact (va_up_ne _ _ (by first | decide | omega)).trans ((va_up_ne _ _ (by first | decide | omega)).trans (by assumption)) | exact (va_up_ne _ _ (by first | decide | omega)).trans ((va_up_ne _ _ (by first | decide | omega)).trans (va_up_self _ _ _)) | exact (va_up_ne _ _ (by first | decide | omega)).trans ((va_up_ne _ _ (by first | decide | omega)).trans ((va_up_ne _ _ (by first | decide | omega)).trans (by assumption))) | exact (va_up_ne _ _ (by first | decide | omega)).trans ((va_up_ne _ _ (by first | decide | omega)).trans ((va_up_ne _ _ (by first | decide | omega)).trans ((va_up_ne _ _ (by first | decide | omega)).trans (by assumption)))) | exact rfl) (by decide) ((IX_nI (by omega) (by omega))) (e0) ?_
  refine g_istore_n (pc' := 25) dX0_leastOfRow_24 rfl (by decide) ?_
  refine g_iconst (pc' := 26) (v := nI 1) dX0_leastOfRow_25 (by decide) ?_
  refine g_istore (pc' := 28) dX0_leastOfRow_26 (by decide) ?_
  have loop : ∀ k i, i + 1 + k = wh S D → G yX0_leastOfRow cX0_leastOfRow 5 (some .int) (rmD 1) none Q 0 0 28 [.ref 24, .int (nI r), .int (nI (wh S D)), .int (nI (mnF (fun i => P r (nh S (D - 1) + i)) i)), .int (nI (i + 1))] [] hp n := by
    intro k
    induction k with
    | zero =>
      intro i hi
      refine g_iload (pc' := 30) dX0_leastOfRow_28 rfl ?_
      refine g_iload_n (pc' := 31) dX0_leastOfRow_30 rfl rfl ?_
      refine g_icmp_geN (tgt := 61) (pc' := 34) dX0_leastOfRow_31 (by decide) (by first | omega | decide) (by first | omega | decide) (fun z1 => ?_) (fun z1 => ?_)
      · refine g_iload_n (pc' := 62) dX0_leastOfRow_61 rfl rfl ?_
        have e : i = wh S D - 1 := by omega
        subst e
        exact g_iret dX0_leastOfRow_62 rfl (Nat.le_refl _) (Nat.le_refl _) hq
      · omega
    | succ k ih =>
      intro i hi
      have hc := gn_cell N hr (show i + 1 < wh S D by omega)
      have b1 := hmn i
      have b2 := hpb (i + 1)
      refine g_iload (pc' := 30) dX0_leastOfRow_28 rfl ?_
      refine g_iload_n (pc' := 31) dX0_leastOfRow_30 rfl rfl ?_
      refine g_icmp_geN (tgt := 61) (pc' := 34) dX0_leastOfRow_31 (by decide) (by first | omega | decide) (by first | omega | decide) (fun z1 => ?_) (fun z1 => ?_)
      · omega
      · refine g_iload_n (pc' := 35) dX0_leastOfRow_34 rfl rfl ?_
        refine g_aload_n (pc' := 36) dX0_leastOfRow_35 rfl rfl ?_
        refine g_get (pc' := 39) fl_X0_32 dX0_leastOfRow_36 (by omega) (by first | assumption | exact va_up_self _ _ _ | exact (va_up_ne _ _ (by first | decide | omega)).trans (by assumption) | exact (va_up_ne _ _ (by first | decide | omega)).trans (va_up_self _ _ _) | exact (va_up_ne _ _ (by first | decide | omega)).trans ((va_up_ne _ _ (by first | decide | omega)).trans (by assumption)) | exact (va_up_ne _ _ (by first | decide | omega)).trans ((va_up_ne _ _ (by first | decide | omega)).trans (va_up_self _ _ _)) | exact (va_up_ne _ _ (by first | decide | omega)).trans ((va_up_ne _ _ (by first | decide | omega)).trans ((va_up_ne _ _ (by first | decide | omega)).trans (by assumption))) | exact (va_up_ne _ _ (by first | decide | omega)).trans ((va_up_ne _ _ (by first | decide | omega)).trans ((va_up_ne _ _ (by first | decide | omega)).trans ((va_up_ne _ _ (by first | decide | omega)).trans (by assumption)))) | exact rfl) (by first | assumption | rfl | exact (List.getElem?_set_ne (by decide)).trans (by assumption) | exact List.getElem?_set_self (by omega)) ?_
        refine g_getN (pc' := 42) fn_X0_103 dX0_leastOfRow_39 (by omega) (by first | assumption | exact va_up_self _ _ _ | exact (va_up_ne _ _ (by first | decide | omega)).trans (by assumption) | exact (va_up_ne _ _ (by first | decide | omega)).trans (va_up_self _ _ _) | exact (va_up_ne _ _ (by first | decide | omega)).trans ((va_up_ne _ _ (by first | decide | omega)).trans (by assumption)) | exact (va_up_ne _ _ (by first | decide | omega)).trans ((va_up_ne _ _ (by first | decide | omega)).trans (va_up_self _ _ _)) | exact (va_up_ne _ _ (by first | decide | omega)).trans ((va_up_ne _ _ (by first | decide | omega)).trans ((va_up_ne _ _ (by first | decide | omega)).trans (by assumption))) | exact (va_up_ne _ _ (by first | decide | omega)).trans ((va_up_ne _ _ (by first | decide | omega)).trans ((va_up_ne _ _ (by first | decide | omega)).trans ((va_up_ne _ _ (by first | decide | omega)).trans (by assumption)))) | exact rfl) (by first | assumption | rfl | exact (List.getElem?_set_ne (by decide)).trans (by assumption) | exact List.getElem?_set_self (by omega)) ?_
        refine g_iload_n (pc' := 43) dX0_leastOfRow_42 rfl rfl ?_
        refine g_iload_n (pc' := 44) dX0_leastOfRow_43 rfl rfl ?_
        first | refine g_imulN (pc' := 45) dX0_leastOfRow_44 ?_ | refine g_imul (pc' := 45) dX0_leastOfRow_44 ?_
        refine g_iload (pc' := 47) dX0_leastOfRow_45 rfl ?_
        first | refine g_iaddN (pc' := 48) dX0_leastOfRow_47 ?_ | refine g_iadd (pc' := 48) dX0_leastOfRow_47 ?_
        refine g_atIN (pc' := 51) cw_X0_106 dX0_leastOfRow_48 (by decide) (by decide) (Nat.le_refl _) (Nat.le_refl _) (Nat.le_of_ble_eq_true rfl) (by omega) (by first | assumption | exact va_up_self _ _ _ | exact (va_up_ne _ _ (by first | decide | omega)).trans (by assumption) | exact (va_up_ne _ _ (by first | decide | omega)).trans (va_up_self _ _ _) | exact (va_up_ne _ _ (by first | decide | omega)).trans ((va_up_ne _ _ (by first | decide | omega)).trans (by assumption)) | exact (va_up_ne _ _ (by first | decide | omega)).trans ((va_up_ne _ _ (by first | decide | omega)).trans (va_up_self _ _ _)) | exact (va_up_ne _ _ (by first | decide | omega)).trans ((va_up_ne _ _ (by first | decide | omega)).trans ((va_up_ne _ _ (by first | decide | omega)).trans (by assumption))) | exact (va_up_ne _ _ (by first | decide | omega)).trans ((va_up_ne _ _ (by first | decide | omega)).trans ((va_up_ne _ _ (by first | decide | omega)).trans ((va_up_ne _ _ (by first | decide | omega)).trans (by assumption)))) | exact rfl) (by decide) ((IX_nI (by omega) (by omega))) (hfp r (i + 1) hr (by omega)) ?_
        refine g_mminN (pc' := 54) mm_X0_110 dX0_leastOfRow_51 (by decide) (Nat.le_of_ble_eq_true rfl) (Nat.le_refl _) (Nat.le_refl _) (by omega) (by omega) ?_
        refine g_istore_n (pc' := 55) dX0_leastOfRow_54 rfl (by decide) ?_
        first | refine g_iincN (z := 1) (pc' := 58) dX0_leastOfRow_55 rfl rfl (by decide) ?_ | refine g_iinc (pc' := 58) dX0_leastOfRow_55 rfl rfl (by decide) ?_
        refine g_goto (tgt := 28) dX0_leastOfRow_58 (by decide) ?_
        exact ih (i + 1) (by omega)
  exact loop (wh S D - 1) 0 (by omega)
theorem c_mostOfRow {hp : AH} {n D S T R r : Nat} {P : Nat → Nat → Nat} {v6 v7 : Value} {Q : Option Value → AH → Nat → Prop} (hn : 64 ≤ n) (N : GN D S T R) (A : GA hp D S T R P) (hP : ∀ r h, r < R → P r h ≤ 210) (c24 : hp 24 = ob 0 (coF v6 v7)) (hr : r < R) (hq : Q (some (.int (nI (rmN D S P r)))) hp n) : CT yX0_mostOfRow cX0_mostOfRow 5 (some .int) (rmD 1) [.ref 24, .int (nI r)] hp n Q := by
  obtain ⟨h2, h6, hD1, hD, hT1, hT3, hR1, hR, hL⟩ := id N
  obtain ⟨hT, c4, ⟨fp, c10, hfp⟩, -, -⟩ := id A
  obtain ⟨ft, fz, fl, fm, c5, -⟩ := id hT
  have hN := (nh_le h2 h6 hD).1
  have hwa := wh_add h2 h6 hD
  have hpb : ∀ i, P r (nh S (D - 1) + i) ≤ 210 := fun i => hP r _ hr
  have hmx : ∀ k, mxF (fun i => P r (nh S (D - 1) + i)) k ≤ 210 := fun k => mxF_le (fun i _ => hpb i)
  show G yX0_mostOfRow cX0_mostOfRow 5 (some .int) (rmD 1) none Q 0 0 0 [.ref 24, .int (nI r), uu, uu, uu] [] hp n
  refine g_aload_n (pc' := 1) dX0_mostOfRow_0 rfl rfl ?_
  refine g_get (pc' := 4) fl_X0_32 dX0_mostOfRow_1 (by omega) (by first | assumption | exact va_up_self _ _ _ | exact (va_up_ne _ _ (by first | decide | omega)).trans (by assumption) | exact (va_up_ne _ _ (by first | decide | omega)).trans (va_up_self _ _ _) | exact (va_up_ne _ _ (by first | decide | omega)).trans ((va_up_ne _ _ (by first | decide | omega)).trans (by assumption)) | exact (va_up_ne _ _ (by first | decide | omega)).trans ((va_up_ne _ _ (by first | decide | omega)).trans (va_up_self _ _ _)) | exact (va_up_ne _ _ (by first | decide | omega)).trans ((va_up_ne _ _ (by first | decide | omega)).trans ((va_up_ne _ _ (by first | decide | omega)).trans (by assumption))) | exact (va_up_ne _ _ (by first | decide | omega)).trans ((va_up_ne _ _ (by first | decide | omega)).trans ((va_up_ne _ _ (by first | decide | omega)).trans ((va_up_ne _ _ (by first | decide | omega)).trans (by assumption)))) | exact rfl) (by first | assumption | rfl | exact (List.getElem?_set_ne (by decide)).trans (by assumption) | exact List.getElem?_set_self (by omega)) ?_
  refine g_getN (pc' := 7) fn_X0_94 dX0_mostOfRow_4 (by omega) (by first | assumption | exact va_up_self _ _ _ | exact (va_up_ne _ _ (by first | decide | omega)).trans (by assumption) | exact (va_up_ne _ _ (by first | decide | omega)).trans (va_up_self _ _ _) | exact (va_up_ne _ _ (by first | decide | omega)).trans ((va_up_ne _ _ (by first | decide | omega)).trans (by assumption)) | exact (va_up_ne _ _ (by first | decide | omega)).trans ((va_up_ne _ _ (by first | decide | omega)).trans (va_up_self _ _ _)) | exact (va_up_ne _ _ (by first | decide | omega)).trans ((va_up_ne _ _ (by first | decide | omega)).trans ((va_up_ne _ _ (by first | decide | omega)).trans (by assumption))) | exact (va_up_ne _ _ (by first | decide | omega)).trans ((va_up_ne _ _ (by first | decide | omega)).trans ((va_up_ne _ _ (by first | decide | omega)).trans ((va_up_ne _ _ (by first | decide | omega)).trans (by assumption)))) | exact rfl) (by first | assumption | rfl | exact (List.getElem?_set_ne (by decide)).trans (by assumption) | exact List.getElem?_set_self (by omega)) ?_
  refine gc_V 10 5 [] [] cw_X0_98 im_X2_wholeCount se_X2_wholeCount dX0_mostOfRow_7 (by decide) (by decide) (Nat.le_refl _) (Nat.le_refl _) (Nat.le_of_ble_eq_true rfl) rfl (Nat.le_of_ble_eq_true rfl) (by omega) (by first | assumption | exact va_up_self _ _ _ | exact (va_up_ne _ _ (by first | decide | omega)).trans (by assumption) | exact (va_up_ne _ _ (by first | decide | omega)).trans (va_up_self _ _ _) | exact (va_up_ne _ _ (by first | decide | omega)).trans ((va_up_ne _ _ (by first | decide | omega)).trans (by assumption)) | exact (va_up_ne _ _ (by first | decide | omega)).trans ((va_up_ne _ _ (by first | decide | omega)).trans (va_up_self _ _ _)) | exact (va_up_ne _ _ (by first | decide | omega)).trans ((va_up_ne _ _ (by first | decide | omega)).trans ((va_up_ne _ _ (by first | decide | omega)).trans (by assumption))) | exact (va_up_ne _ _ (by first | decide | omega)).trans ((va_up_ne _ _ (by first | decide | omega)).trans ((va_up_ne _ _ (by first | decide | omega)).trans ((va_up_ne _ _ (by first | decide | omega)).trans (by assumption)))) | exact rfl) rfl rfl (c_wholeCount hn h2 h6 hD hT ⟨rfl, ?_⟩)
  show G yX0_mostOfRow cX0_mostOfRow 5 (some .int) (rmD 1) none Q 0 0 10 [.ref 24, .int (nI r), uu, uu, uu] [.int (nI (wh S D))] hp n
  refine g_istore_n (pc' := 11) dX0_mostOfRow_10 rfl (by decide) ?_
  refine g_iconst (pc' := 12) (v := nI 0) dX0_mostOfRow_11 (by decide) ?_
  refine g_istore_n (pc' := 13) dX0_mostOfRow_12 rfl (by decide) ?_
  refine g_iconst (pc' := 14) (v := nI 0) dX0_mostOfRow_13 (by decide) ?_
  refine g_istore (pc' := 16) dX0_mostOfRow_14 (by decide) ?_
  have loop : ∀ k i, i + k = wh S D → G yX0_mostOfRow cX0_mostOfRow 5 (some .int) (rmD 1) none Q 0 0 16 [.ref 24, .int (nI r), .int (nI (wh S D)), .int (nI (mxF (fun i => P r (nh S (D - 1) + i)) i)), .int (nI i)] [] hp n := by
    intro k
    induction k with
    | zero =>
      intro i hi
      refine g_iload (pc' := 18) dX0_mostOfRow_16 rfl ?_
      refine g_iload_n (pc' := 19) dX0_mostOfRow_18 rfl rfl ?_
      refine g_icmp_geN (tgt := 49) (pc' := 22) dX0_mostOfRow_19 (by decide) (by first | omega | decide) (by first | omega | decide) (fun z1 => ?_) (fun z1 => ?_)
      · refine g_iload_n (pc' := 50) dX0_mostOfRow_49 rfl rfl ?_
        have e : i = wh S D := by omega
        subst e
        exact g_iret dX0_mostOfRow_50 rfl (Nat.le_refl _) (Nat.le_refl _) hq
      · omega
    | succ k ih =>
      intro i hi
      have hc := gn_cell N hr (show i < wh S D by omega)
      have b1 := hmx i
      have b2 := hpb i
      refine g_iload (pc' := 18) dX0_mostOfRow_16 rfl ?_
      refine g_iload_n (pc' := 19) dX0_mostOfRow_18 rfl rfl ?_
      refine g_icmp_geN (tgt := 49) (pc' := 22) dX0_mostOfRow_19 (by decide) (by first | omega | decide) (by first | omega | decide) (fun z1 => ?_) (fun z1 => ?_)
      · omega
      · refine g_iload_n (pc' := 23) dX0_mostOfRow_22 rfl rfl ?_
        refine g_aload_n (pc' := 24) dX0_mostOfRow_23 rfl rfl ?_
        refine g_get (pc' := 27) fl_X0_32 dX0_mostOfRow_24 (by omega) (by first | assumption | exact va_up_self _ _ _ | exact (va_up_ne _ _ (by first | decide | omega)).trans (by assumption) | exact (va_up_ne _ _ (by first | decide | omega)).trans (va_up_self _ _ _) | exact (va_up_ne _ _ (by first | decide | omega)).trans ((va_up_ne _ _ (by first | decide | omega)).trans (by assumption)) | exact (va_up_ne _ _ (by first | decide | omega)).trans ((va_up_ne _ _ (by first | decide | omega)).trans (va_up_self _ _ _)) | exact (va_up_ne _ _ (by first | decide | omega)).trans ((va_up_ne _ _ (by first | decide | omega)).trans ((va_up_ne _ _ (by first | decide | omega)).trans (by assumption))) | exact (va_up_ne _ _ (by first | decide | omega)).trans ((va_up_ne _ _ (by first | decide | omega)).trans ((va_up_ne _ _ (by first | decide | omega)).trans ((va_up_ne _ _ (by first | decide | omega)).trans (by assumption)))) | exact rfl) (by first | assumption | rfl | exact (List.getElem?_set_ne (by decide)).trans (by assumption) | exact List.getElem?_set_self (by omega)) ?_
        refine g_getN (pc' := 30) fn_X0_103 dX0_mostOfRow_27 (by omega) (by first | assumption | exact va_up_self _ _ _ | exact (va_up_ne _ _ (by first | decide | omega)).trans (by assumption) | exact (va_up_ne _ _ (by first | decide | omega)).trans (va_up_self _ _ _) | exact (va_up_ne _ _ (by first | decide | omega)).trans ((va_up_ne _ _ (by first | decide | omega)).trans (by assumption)) | exact (va_up_ne _ _ (by first | decide | omega)).trans ((va_up_ne _ _ (by first | decide | omega)).trans (va_up_self _ _ _)) | exact (va_up_ne _ _ (by first | decide | omega)).trans ((va_up_ne _ _ (by first | decide | omega)).trans ((va_up_ne _ _ (by first | decide | omega)).trans (by assumption))) | exact (va_up_ne _ _ (by first | decide | omega)).trans ((va_up_ne _ _ (by first | decide | omega)).trans ((va_up_ne _ _ (by first | decide | omega)).trans ((va_up_ne _ _ (by first | decide | omega)).trans (by assumption)))) | exact rfl) (by first | assumption | rfl | exact (List.getElem?_set_ne (by decide)).trans (by assumption) | exact List.getElem?_set_self (by omega)) ?_
        refine g_iload_n (pc' := 31) dX0_mostOfRow_30 rfl rfl ?_
        refine g_iload_n (pc' := 32) dX0_mostOfRow_31 rfl rfl ?_
        first | refine g_imulN (pc' := 33) dX0_mostOfRow_32 ?_ | refine g_imul (pc' := 33) dX0_mostOfRow_32 ?_
        refine g_iload (pc' := 35) dX0_mostOfRow_33 rfl ?_
        first | refine g_iaddN (pc' := 36) dX0_mostOfRow_35 ?_ | refine g_iadd (pc' := 36) dX0_mostOfRow_35 ?_
        refine g_atIN (pc' := 39) cw_X0_106 dX0_mostOfRow_36 (by decide) (by decide) (Nat.le_refl _) (Nat.le_refl _) (Nat.le_of_ble_eq_true rfl) (by omega) (by first | assumption | exact va_up_self _ _ _ | exact (va_up_ne _ _ (by first | decide | omega)).trans (by assumption) | exact (va_up_ne _ _ (by first | decide | omega)).trans (va_up_self _ _ _) | exact (va_up_ne _ _ (by first | decide | omega)).trans ((va_up_ne _ _ (by first | decide | omega)).trans (by assumption)) | exact (va_up_ne _ _ (by first | decide | omega)).trans ((va_up_ne _ _ (by first | decide | omega)).trans (va_up_self _ _ _)) | exact (va_up_ne _ _ (by first | decide | omega)).trans ((va_up_ne _ _ (by first | decide | omega)).trans ((va_up_ne _ _ (by first | decide | omega)).trans (by assumption))) | exact (va_up_ne _ _ (by first | decide | omega)).trans ((va_up_ne _ _ (by first | decide | omega)).trans ((va_up_ne _ _ (by first | decide | omega)).trans ((va_up_ne _ _ (by first | decide | omega)).trans (by assumption)))) | exact rfl) (by decide) ((IX_nI (by omega) (by omega))) (hfp r i hr (by omega)) ?_
        refine g_mmaxN (pc' := 42) mm_X0_64 dX0_mostOfRow_39 (by decide) (Nat.le_of_ble_eq_true rfl) (Nat.le_refl _) (Nat.le_refl _) (by omega) (by omega) ?_
        refine g_istore_n (pc' := 43) dX0_mostOfRow_42 rfl (by decide) ?_
        first | refine g_iincN (z := 1) (pc' := 46) dX0_mostOfRow_43 rfl rfl (by decide) ?_ | refine g_iinc (pc' := 46) dX0_mostOfRow_43 rfl rfl (by decide) ?_
        refine g_goto (tgt := 16) dX0_mostOfRow_46 (by decide) ?_
        exact ih (i + 1) (by omega)
  exact loop (wh S D) 0 (by omega)
def hM (hp : AH) (fl fm fs : Nat → Int32) : AH := va_up (va_up (va_up hp 25 (aI 256 fl)) 26 (aI 256 fm)) 27 (aI 256 fs)
section HM
variable {hp : AH} {fl fm fs : Nat → Int32}
theorem hM_25 (g : Nat → Int32) : va_up (hM hp fl fm fs) 25 (aI 256 g) = hM hp g fm fs := by
  funext i
  by_cases h : i = 25 <;> simp [hM, va_up, h]
theorem hM_26 (g : Nat → Int32) : va_up (hM hp fl fm fs) 26 (aI 256 g) = hM hp fl g fs := by
  funext i
  by_cases h : i = 26 <;> simp [hM, va_up, h]
theorem hM_27 (g : Nat → Int32) : va_up (hM hp fl fm fs) 27 (aI 256 g) = hM hp fl fm g := by
  funext i
  by_cases h : i = 27 <;> simp [hM, va_up, h]
theorem hM_ne {i : Nat} (h : i < 25 ∨ 28 ≤ i) : hM hp fl fm fs i = hp i := by
  unfold hM
  rw [va_up_ne _ _ (by omega), va_up_ne _ _ (by omega), va_up_ne _ _ (by omega)]
theorem hM_of (c25 : hp 25 = aI 256 fl) (c26 : hp 26 = aI 256 fm) (c27 : hp 27 = aI 256 fs) : hM hp fl fm fs = hp := by
  funext i
  unfold hM va_up
  by_cases e7 : i = 27
  · subst e7; simp [c27]
  · by_cases e6 : i = 26
    · subst e6; simp [c26]
    · by_cases e5 : i = 25
      · subst e5; simp [c25]
      · simp [e7, e6, e5]
end HM
/-- sheets are measured: those that stand ahead of c -/
def MZ (D S R : Nat) (P : Nat → Nat → Nat) (fl fm fs : Nat → Int32) (c : Nat) : Prop := ∀ k, k < c → fl (2 ^ R - 1 - k) = nI (lsN D S R P (2 ^ R - 1 - k)) ∧ fm (2 ^ R - 1 - k) = nI (msN D S R P (2 ^ R - 1 - k)) ∧ fs (2 ^ R - 1 - k) = nI (smF (wcN D S R P) k)
theorem c_measureSheets {hp : AH} {n D S T R : Nat} {P : Nat → Nat → Nat} {v6 v7 : Value} {fl fm fs : Nat → Int32} {Q : Option Value → AH → Nat → Prop} (hn : 64 ≤ n) (N : GN D S T R) (A : GA hp D S T R P) (hP : ∀ r h, r < R → P r h ≤ 210) (c24 : hp 24 = ob 0 (coF v6 v7)) (c25 : hp 25 = aI 256 fl) (c26 : hp 26 = aI 256 fm) (c27 : hp 27 = aI 256 fs)
    (hq : ∀ fl fm fs : Nat → Int32, MZ D S R P fl fm fs (2 ^ R) → Q (some (.int (nI (ttN D S R P)))) (hM hp fl fm fs) n) : CT yX0_measureSheets cX0_measureSheets 10 (some .int) (rmD 2) [.ref 24] hp n Q := by
  obtain ⟨h2, h6, hD1, hD, hT1, hT3, hR1, hR, hL⟩ := id N
  obtain ⟨hT, c4, -⟩ := id A
  have hp8 : 2 ^ R ≤ 2 ^ 8 := Nat.pow_le_pow_right (by decide) hR
  have hp1 : 2 ^ 1 ≤ 2 ^ R := Nat.pow_le_pow_right (by decide) hR1
  have d24 : ∀ fl fm fs, hM hp fl fm fs 24 = ob 0 (coF v6 v7) := fun fl fm fs => (hM_ne (by omega)).trans c24
  have d4 : ∀ fl fm fs, hM hp fl fm fs 4 = ob 1 (goF T R) := fun fl fm fs => (hM_ne (by omega)).trans c4
  have dA : ∀ fl fm fs, GA (hM hp fl fm fs) D S T R P := fun fl fm fs => GA_of (fun i q1 q2 => hM_ne (by omega)) A
  show G yX0_measureSheets cX0_measureSheets 10 (some .int) (rmD 2) none Q 0 0 0 [.ref 24, uu, uu, uu, uu, uu, uu, uu, uu, uu] [] hp n
  refine g_aload_n (pc' := 1) dX0_measureSheets_0 rfl rfl ?_
  refine g_get (pc' := 4) fl_X0_32 dX0_measureSheets_1 (by omega) (by first | assumption | exact va_up_self _ _ _ | exact (va_up_ne _ _ (by first | decide | omega)).trans (by assumption) | exact (va_up_ne _ _ (by first | decide | omega)).trans (va_up_self _ _ _) | exact (va_up_ne _ _ (by first | decide | omega)).trans ((va_up_ne _ _ (by first | decide | omega)).trans (by assumption)) | exact (va_up_ne _ _ (by first | decide | omega)).trans ((va_up_ne _ _ (by first | decide | omega)).trans (va_up_self _ _ _)) | exact (va_up_ne _ _ (by first | decide | omega)).trans ((va_up_ne _ _ (by first | decide | omega)).trans ((va_up_ne _ _ (by first | decide | omega)).trans (by assumption))) | exact (va_up_ne _ _ (by first | decide | omega)).trans ((va_up_ne _ _ (by first | decide | omega)).trans ((va_up_ne _ _ (by first | decide | omega)).trans ((va_up_ne _ _ (by first | decide | omega)).trans (by assumption)))) | exact rfl) (by first | assumption | rfl | exact (List.getElem?_set_ne (by decide)).trans (by assumption) | exact List.getElem?_set_self (by omega)) ?_
  refine gc_V 7 4 [] [] cw_X0_78 im_X1_fullSheet se_X1_fullSheet dX0_measureSheets_4 (by decide) (by decide) (Nat.le_refl _) (Nat.le_refl _) (Nat.le_of_ble_eq_true rfl) rfl (Nat.le_of_ble_eq_true rfl) (by omega) (by first | assumption | exact va_up_self _ _ _ | exact (va_up_ne _ _ (by first | decide | omega)).trans (by assumption) | exact (va_up_ne _ _ (by first | decide | omega)).trans (va_up_self _ _ _) | exact (va_up_ne _ _ (by first | decide | omega)).trans ((va_up_ne _ _ (by first | decide | omega)).trans (by assumption)) | exact (va_up_ne _ _ (by first | decide | omega)).trans ((va_up_ne _ _ (by first | decide | omega)).trans (va_up_self _ _ _)) | exact (va_up_ne _ _ (by first | decide | omega)).trans ((va_up_ne _ _ (by first | decide | omega)).trans ((va_up_ne _ _ (by first | decide | omega)).trans (by assumption))) | exact (va_up_ne _ _ (by first | decide | omega)).trans ((va_up_ne _ _ (by first | decide | omega)).trans ((va_up_ne _ _ (by first | decide | omega)).trans ((va_up_ne _ _ (by first | decide | omega)).trans (by assumption)))) | exact rfl) rfl rfl (c_fullSheet hn hR c4 ⟨rfl, ?_⟩)
  show G yX0_measureSheets cX0_measureSheets 10 (some .int) (rmD 2) none Q 0 0 7 [.ref 24, uu, uu, uu, uu, uu, uu, uu, uu, uu] [.int (nI (2 ^ R - 1))] hp n
  rw [← hM_of c25 c26 c27]
  have b24 := d24 fl fm fs
  have b25 : hM hp fl fm fs 25 = aI 256 fl := rfl
  refine g_istore_n (pc' := 8) dX0_measureSheets_7 rfl (by decide) ?_
  refine g_aload_n (pc' := 9) dX0_measureSheets_8 rfl rfl ?_
  refine g_get (pc' := 12) fl_X0_9 dX0_measureSheets_9 (by omega) (by first | assumption | exact va_up_self _ _ _ | exact (va_up_ne _ _ (by first | decide | omega)).trans (by assumption) | exact (va_up_ne _ _ (by first | decide | omega)).trans (va_up_self _ _ _) | exact (va_up_ne _ _ (by first | decide | omega)).trans ((va_up_ne _ _ (by first | decide | omega)).trans (by assumption)) | exact (va_up_ne _ _ (by first | decide | omega)).trans ((va_up_ne _ _ (by first | decide | omega)).trans (va_up_self _ _ _)) | exact (va_up_ne _ _ (by first | decide | omega)).trans ((va_up_ne _ _ (by first | decide | omega)).trans ((va_up_ne _ _ (by first | decide | omega)).trans (by assumption))) | exact (va_up_ne _ _ (by first | decide | omega)).trans ((va_up_ne _ _ (by first | decide | omega)).trans ((va_up_ne _ _ (by first | decide | omega)).trans ((va_up_ne _ _ (by first | decide | omega)).trans (by assumption)))) | exact rfl) (by first | assumption | rfl | exact (List.getElem?_set_ne (by decide)).trans (by assumption) | exact List.getElem?_set_self (by omega)) ?_
  refine g_iload_n (pc' := 13) dX0_measureSheets_12 rfl rfl ?_
  refine g_iconst (pc' := 14) (v := nI 0) dX0_measureSheets_13 (by decide) ?_
  refine g_iast (pc' := 15) dX0_measureSheets_14 (by omega) (by first | assumption | exact va_up_self _ _ _ | exact (va_up_ne _ _ (by first | decide | omega)).trans (by assumption) | exact (va_up_ne _ _ (by first | decide | omega)).trans (va_up_self _ _ _) | exact (va_up_ne _ _ (by first | decide | omega)).trans ((va_up_ne _ _ (by first | decide | omega)).trans (by assumption)) | exact (va_up_ne _ _ (by first | decide | omega)).trans ((va_up_ne _ _ (by first | decide | omega)).trans (va_up_self _ _ _)) | exact (va_up_ne _ _ (by first | decide | omega)).trans ((va_up_ne _ _ (by first | decide | omega)).trans ((va_up_ne _ _ (by first | decide | omega)).trans (by assumption))) | exact (va_up_ne _ _ (by first | decide | omega)).trans ((va_up_ne _ _ (by first | decide | omega)).trans ((va_up_ne _ _ (by first | decide | omega)).trans ((va_up_ne _ _ (by first | decide | omega)).trans (by assumption)))) | exact rfl) ((IX_nI (by omega) (by omega))) ?_
  rw [hM_25]
  have b24 := d24 (upd fl (2 ^ R - 1) (nI 0)) fm fs
  refine g_aload_n (pc' := 16) dX0_measureSheets_15 rfl rfl ?_
  refine g_get (pc' := 19) fl_X0_15 dX0_measureSheets_16 (by omega) (by first | assumption | exact va_up_self _ _ _ | exact (va_up_ne _ _ (by first | decide | omega)).trans (by assumption) | exact (va_up_ne _ _ (by first | decide | omega)).trans (va_up_self _ _ _) | exact (va_up_ne _ _ (by first | decide | omega)).trans ((va_up_ne _ _ (by first | decide | omega)).trans (by assumption)) | exact (va_up_ne _ _ (by first | decide | omega)).trans ((va_up_ne _ _ (by first | decide | omega)).trans (va_up_self _ _ _)) | exact (va_up_ne _ _ (by first | decide | omega)).trans ((va_up_ne _ _ (by first | decide | omega)).trans ((va_up_ne _ _ (by first | decide | omega)).trans (by assumption))) | exact (va_up_ne _ _ (by first | decide | omega)).trans ((va_up_ne _ _ (by first | decide | omega)).trans ((va_up_ne _ _ (by first | decide | omega)).trans ((va_up_ne _ _ (by first | decide | omega)).trans (by assumption)))) | exact rfl) (by first | assumption | rfl | exact (List.getElem?_set_ne (by decide)).trans (by assumption) | exact List.getElem?_set_self (by omega)) ?_
  refine g_iload_n (pc' := 20) dX0_measureSheets_19 rfl rfl ?_
  refine g_iconst (pc' := 21) (v := nI 0) dX0_measureSheets_20 (by decide) ?_
  refine g_iast (pc' := 22) dX0_measureSheets_21 (by omega) (by first | assumption | exact va_up_self _ _ _ | exact (va_up_ne _ _ (by first | decide | omega)).trans (by assumption) | exact (va_up_ne _ _ (by first | decide | omega)).trans (va_up_self _ _ _) | exact (va_up_ne _ _ (by first | decide | omega)).trans ((va_up_ne _ _ (by first | decide | omega)).trans (by assumption)) | exact (va_up_ne _ _ (by first | decide | omega)).trans ((va_up_ne _ _ (by first | decide | omega)).trans (va_up_self _ _ _)) | exact (va_up_ne _ _ (by first | decide | omega)).trans ((va_up_ne _ _ (by first | decide | omega)).trans ((va_up_ne _ _ (by first | decide | omega)).trans (by assumption))) | exact (va_up_ne _ _ (by first | decide | omega)).trans ((va_up_ne _ _ (by first | decide | omega)).trans ((va_up_ne _ _ (by first | decide | omega)).trans ((va_up_ne _ _ (by first | decide | omega)).trans (by assumption)))) | exact rfl) ((IX_nI (by omega) (by omega))) ?_
  rw [hM_26]
  have b24 := d24 (upd fl (2 ^ R - 1) (nI 0)) (upd fm (2 ^ R - 1) (nI 0)) fs
  refine g_aload_n (pc' := 23) dX0_measureSheets_22 rfl rfl ?_
  refine g_get (pc' := 26) fl_X0_18 dX0_measureSheets_23 (by omega) (by first | assumption | exact va_up_self _ _ _ | exact (va_up_ne _ _ (by first | decide | omega)).trans (by assumption) | exact (va_up_ne _ _ (by first | decide | omega)).trans (va_up_self _ _ _) | exact (va_up_ne _ _ (by first | decide | omega)).trans ((va_up_ne _ _ (by first | decide | omega)).trans (by assumption)) | exact (va_up_ne _ _ (by first | decide | omega)).trans ((va_up_ne _ _ (by first | decide | omega)).trans (va_up_self _ _ _)) | exact (va_up_ne _ _ (by first | decide | omega)).trans ((va_up_ne _ _ (by first | decide | omega)).trans ((va_up_ne _ _ (by first | decide | omega)).trans (by assumption))) | exact (va_up_ne _ _ (by first | decide | omega)).trans ((va_up_ne _ _ (by first | decide | omega)).trans ((va_up_ne _ _ (by first | decide | omega)).trans ((va_up_ne _ _ (by first | decide | omega)).trans (by assumption)))) | exact rfl) (by first | assumption | rfl | exact (List.getElem?_set_ne (by decide)).trans (by assumption) | exact List.getElem?_set_self (by omega)) ?_
  refine g_iload_n (pc' := 27) dX0_measureSheets_26 rfl rfl ?_
  refine g_iconst (pc' := 28) (v := nI 0) dX0_measureSheets_27 (by decide) ?_
  refine g_iast (pc' := 29) dX0_measureSheets_28 (by omega) (by first | assumption | exact va_up_self _ _ _ | exact (va_up_ne _ _ (by first | decide | omega)).trans (by assumption) | exact (va_up_ne _ _ (by first | decide | omega)).trans (va_up_self _ _ _) | exact (va_up_ne _ _ (by first | decide | omega)).trans ((va_up_ne _ _ (by first | decide | omega)).trans (by assumption)) | exact (va_up_ne _ _ (by first | decide | omega)).trans ((va_up_ne _ _ (by first | decide | omega)).trans (va_up_self _ _ _)) | exact (va_up_ne _ _ (by first | decide | omega)).trans ((va_up_ne _ _ (by first | decide | omega)).trans ((va_up_ne _ _ (by first | decide | omega)).trans (by assumption))) | exact (va_up_ne _ _ (by first | decide | omega)).trans ((va_up_ne _ _ (by first | decide | omega)).trans ((va_up_ne _ _ (by first | decide | omega)).trans ((va_up_ne _ _ (by first | decide | omega)).trans (by assumption)))) | exact rfl) ((IX_nI (by omega) (by omega))) ?_
  rw [hM_27]
  refine g_iconst (pc' := 30) (v := nI 0) dX0_measureSheets_29 (by decide) ?_
  refine g_istore_n (pc' := 31) dX0_measureSheets_30 rfl (by decide) ?_
  refine g_iconst (pc' := 32) (v := nI 0) dX0_measureSheets_31 (by decide) ?_
  refine g_istore_n (pc' := 33) dX0_measureSheets_32 rfl (by decide) ?_
  have outer : ∀ k r fl fm fs, r + k = R → MZ D S R P fl fm fs (2 ^ r) → G yX0_measureSheets cX0_measureSheets 10 (some .int) (rmD 2) none Q 0 0 33 [.ref 24, .int (nI (2 ^ R - 1)), .int (nI (smF (wcN D S R P) (2 ^ r))), .int (nI r), uu, uu, uu, uu, uu, uu] [] (hM hp fl fm fs) n := by
    intro k
    induction k with
    | zero =>
      intro r fl fm fs hr hZ
      have e : r = R := by omega
      subst e
      have b24 := d24 fl fm fs
      have b4 := d4 fl fm fs
      refine g_iload_n (pc' := 34) dX0_measureSheets_33 rfl rfl ?_
      refine g_aload_n (pc' := 35) dX0_measureSheets_34 rfl rfl ?_
      refine g_get (pc' := 38) fl_X0_32 dX0_measureSheets_35 (by omega) (by first | assumption | exact va_up_self _ _ _ | exact (va_up_ne _ _ (by first | decide | omega)).trans (by assumption) | exact (va_up_ne _ _ (by first | decide | omega)).trans (va_up_self _ _ _) | exact (va_up_ne _ _ (by first | decide | omega)).trans ((va_up_ne _ _ (by first | decide | omega)).trans (by assumption)) | exact (va_up_ne _ _ (by first | decide | omega)).trans ((va_up_ne _ _ (by first | decide | omega)).trans (va_up_self _ _ _)) | exact (va_up_ne _ _ (by first | decide | omega)).trans ((va_up_ne _ _ (by first | decide | omega)).trans ((va_up_ne _ _ (by first | decide | omega)).trans (by assumption))) | exact (va_up_ne _ _ (by first | decide | omega)).trans ((va_up_ne _ _ (by first | decide | omega)).trans ((va_up_ne _ _ (by first | decide | omega)).trans ((va_up_ne _ _ (by first | decide | omega)).trans (by assumption)))) | exact rfl) (by first | assumption | rfl | exact (List.getElem?_set_ne (by decide)).trans (by assumption) | exact List.getElem?_set_self (by omega)) ?_
      refine g_getN (pc' := 41) fn_X0_83 dX0_measureSheets_38 (by omega) (by first | assumption | exact va_up_self _ _ _ | exact (va_up_ne _ _ (by first | decide | omega)).trans (by assumption) | exact (va_up_ne _ _ (by first | decide | omega)).trans (va_up_self _ _ _) | exact (va_up_ne _ _ (by first | decide | omega)).trans ((va_up_ne _ _ (by first | decide | omega)).trans (by assumption)) | exact (va_up_ne _ _ (by first | decide | omega)).trans ((va_up_ne _ _ (by first | decide | omega)).trans (va_up_self _ _ _)) | exact (va_up_ne _ _ (by first | decide | omega)).trans ((va_up_ne _ _ (by first | decide | omega)).trans ((va_up_ne _ _ (by first | decide | omega)).trans (by assumption))) | exact (va_up_ne _ _ (by first | decide | omega)).trans ((va_up_ne _ _ (by first | decide | omega)).trans ((va_up_ne _ _ (by first | decide | omega)).trans ((va_up_ne _ _ (by first | decide | omega)).trans (by assumption)))) | exact rfl) (by first | assumption | rfl | exact (List.getElem?_set_ne (by decide)).trans (by assumption) | exact List.getElem?_set_self (by omega)) ?_
      refine g_icmp_geN (tgt := 158) (pc' := 44) dX0_measureSheets_41 (by decide) (by first | omega | decide) (by first | omega | decide) (fun z1 => ?_) (fun z1 => ?_)
      · refine g_iload_n (pc' := 159) dX0_measureSheets_158 rfl rfl ?_
        exact g_iret dX0_measureSheets_159 rfl (Nat.le_refl _) (Nat.le_refl _) (hq fl fm fs hZ)
      · omega
    | succ k ih =>
      intro r fl fm fs hr hZ
      have b24 := d24 fl fm fs
      have b4 := d4 fl fm fs
      have hr7 : 2 ^ r ≤ 2 ^ 7 := Nat.pow_le_pow_right (by decide) (by omega)
      have hrR : 2 ^ (r + 1) ≤ 2 ^ R := Nat.pow_le_pow_right (by decide) (by omega)
      have hr2 : 2 ^ (r + 1) = 2 ^ r + 2 ^ r := by rw [Nat.pow_succ]; omega
      refine g_iload_n (pc' := 34) dX0_measureSheets_33 rfl rfl ?_
      refine g_aload_n (pc' := 35) dX0_measureSheets_34 rfl rfl ?_
      refine g_get (pc' := 38) fl_X0_32 dX0_measureSheets_35 (by omega) (by first | assumption | exact va_up_self _ _ _ | exact (va_up_ne _ _ (by first | decide | omega)).trans (by assumption) | exact (va_up_ne _ _ (by first | decide | omega)).trans (va_up_self _ _ _) | exact (va_up_ne _ _ (by first | decide | omega)).trans ((va_up_ne _ _ (by first | decide | omega)).trans (by assumption)) | exact (va_up_ne _ _ (by first | decide | omega)).trans ((va_up_ne _ _ (by first | decide | omega)).trans (va_up_self _ _ _)) | exact (va_up_ne _ _ (by first | decide | omega)).trans ((va_up_ne _ _ (by first | decide | omega)).trans ((va_up_ne _ _ (by first | decide | omega)).trans (by assumption))) | exact (va_up_ne _ _ (by first | decide | omega)).trans ((va_up_ne _ _ (by first | decide | omega)).trans ((va_up_ne _ _ (by first | decide | omega)).trans ((va_up_ne _ _ (by first | decide | omega)).trans (by assumption)))) | exact rfl) (by first | assumption | rfl | exact (List.getElem?_set_ne (by decide)).trans (by assumption) | exact List.getElem?_set_self (by omega)) ?_
      refine g_getN (pc' := 41) fn_X0_83 dX0_measureSheets_38 (by omega) (by first | assumption | exact va_up_self _ _ _ | exact (va_up_ne _ _ (by first | decide | omega)).trans (by assumption) | exact (va_up_ne _ _ (by first | decide | omega)).trans (va_up_self _ _ _) | exact (va_up_ne _ _ (by first | decide | omega)).trans ((va_up_ne _ _ (by first | decide | omega)).trans (by assumption)) | exact (va_up_ne _ _ (by first | decide | omega)).trans ((va_up_ne _ _ (by first | decide | omega)).trans (va_up_self _ _ _)) | exact (va_up_ne _ _ (by first | decide | omega)).trans ((va_up_ne _ _ (by first | decide | omega)).trans ((va_up_ne _ _ (by first | decide | omega)).trans (by assumption))) | exact (va_up_ne _ _ (by first | decide | omega)).trans ((va_up_ne _ _ (by first | decide | omega)).trans ((va_up_ne _ _ (by first | decide | omega)).trans ((va_up_ne _ _ (by first | decide | omega)).trans (by assumption)))) | exact rfl) (by first | assumption | rfl | exact (List.getElem?_set_ne (by decide)).trans (by assumption) | exact List.getElem?_set_self (by omega)) ?_
      refine g_icmp_geN (tgt := 158) (pc' := 44) dX0_measureSheets_41 (by decide) (by first | omega | decide) (by first | omega | decide) (fun z1 => ?_) (fun z1 => ?_)
      · omega
      · refine g_iconst (pc' := 45) (v := nI 1) dX0_measureSheets_44 (by decide) ?_
        refine g_iload_n (pc' := 46) dX0_measureSheets_45 rfl rfl ?_
        refine g_ishl (pc' := 47) dX0_measureSheets_46 ?_
        rw [sh_l (s := 1) (r := r) (by omega) (by omega), Nat.one_mul]
        refine g_istore (pc' := 49) dX0_measureSheets_47 (by decide) ?_
        refine g_aload_n (pc' := 50) dX0_measureSheets_49 rfl rfl ?_
        refine g_iload_n (pc' := 51) dX0_measureSheets_50 rfl rfl ?_
        refine gc_V 54 24 [.int (nI r)] [] cw_X0_87 im_X0_leastOfRow se_X0_leastOfRow dX0_measureSheets_51 (by decide) (by decide) (Nat.le_refl _) (Nat.le_refl _) (Nat.le_of_ble_eq_true rfl) rfl (Nat.le_of_ble_eq_true rfl) (by omega) (by first | assumption | exact va_up_self _ _ _ | exact (va_up_ne _ _ (by first | decide | omega)).trans (by assumption) | exact (va_up_ne _ _ (by first | decide | omega)).trans (va_up_self _ _ _) | exact (va_up_ne _ _ (by first | decide | omega)).trans ((va_up_ne _ _ (by first | decide | omega)).trans (by assumption)) | exact (va_up_ne _ _ (by first | decide | omega)).trans ((va_up_ne _ _ (by first | decide | omega)).trans (va_up_self _ _ _)) | exact (va_up_ne _ _ (by first | decide | omega)).trans ((va_up_ne _ _ (by first | decide | omega)).trans ((va_up_ne _ _ (by first | decide | omega)).trans (by assumption))) | exact (va_up_ne _ _ (by first | decide | omega)).trans ((va_up_ne _ _ (by first | decide | omega)).trans ((va_up_ne _ _ (by first | decide | omega)).trans ((va_up_ne _ _ (by first | decide | omega)).trans (by assumption)))) | exact rfl) rfl rfl (c_leastOfRow hn N (dA _ _ _) hP b24 (by omega) ⟨rfl, ?_⟩)
        show G yX0_measureSheets cX0_measureSheets 10 (some .int) (rmD 2) none Q 0 0 54 [.ref 24, .int (nI (2 ^ R - 1)), .int (nI (smF (wcN D S R P) (2 ^ r))), .int (nI r), .int (nI (2 ^ r)), uu, uu, uu, uu, uu] [.int (nI (rlN D S P r))] (hM hp fl fm fs) n
        refine g_istore (pc' := 56) dX0_measureSheets_54 (by decide) ?_
        refine g_aload_n (pc' := 57) dX0_measureSheets_56 rfl rfl ?_
        refine g_iload_n (pc' := 58) dX0_measureSheets_57 rfl rfl ?_
        refine gc_V 61 24 [.int (nI r)] [] cw_X0_91 im_X0_mostOfRow se_X0_mostOfRow dX0_measureSheets_58 (by decide) (by decide) (Nat.le_refl _) (Nat.le_refl _) (Nat.le_of_ble_eq_true rfl) rfl (Nat.le_of_ble_eq_true rfl) (by omega) (by first | assumption | exact va_up_self _ _ _ | exact (va_up_ne _ _ (by first | decide | omega)).trans (by assumption) | exact (va_up_ne _ _ (by first | decide | omega)).trans (va_up_self _ _ _) | exact (va_up_ne _ _ (by first | decide | omega)).trans ((va_up_ne _ _ (by first | decide | omega)).trans (by assumption)) | exact (va_up_ne _ _ (by first | decide | omega)).trans ((va_up_ne _ _ (by first | decide | omega)).trans (va_up_self _ _ _)) | exact (va_up_ne _ _ (by first | decide | omega)).trans ((va_up_ne _ _ (by first | decide | omega)).trans ((va_up_ne _ _ (by first | decide | omega)).trans (by assumption))) | exact (va_up_ne _ _ (by first | decide | omega)).trans ((va_up_ne _ _ (by first | decide | omega)).trans ((va_up_ne _ _ (by first | decide | omega)).trans ((va_up_ne _ _ (by first | decide | omega)).trans (by assumption)))) | exact rfl) rfl rfl (c_mostOfRow hn N (dA _ _ _) hP b24 (by omega) ⟨rfl, ?_⟩)
        show G yX0_measureSheets cX0_measureSheets 10 (some .int) (rmD 2) none Q 0 0 61 [.ref 24, .int (nI (2 ^ R - 1)), .int (nI (smF (wcN D S R P) (2 ^ r))), .int (nI r), .int (nI (2 ^ r)), .int (nI (rlN D S P r)), uu, uu, uu, uu] [.int (nI (rmN D S P r))] (hM hp fl fm fs) n
        refine g_istore (pc' := 63) dX0_measureSheets_61 (by decide) ?_
        refine g_iconst (pc' := 64) (v := nI 0) dX0_measureSheets_63 (by decide) ?_
        refine g_istore (pc' := 66) dX0_measureSheets_64 (by decide) ?_
        have inner : ∀ k2 l fl fm fs, l + k2 = 2 ^ r → MZ D S R P fl fm fs (2 ^ r + l) → ∀ w8 w9, G yX0_measureSheets cX0_measureSheets 10 (some .int) (rmD 2) none Q 0 0 66 [.ref 24, .int (nI (2 ^ R - 1)), .int (nI (smF (wcN D S R P) (2 ^ r + l))), .int (nI r), .int (nI (2 ^ r)), .int (nI (rlN D S P r)), .int (nI (rmN D S P r)), .int (nI l), w8, w9] [] (hM hp fl fm fs) n := by
          intro k2
          induction k2 with
          | zero =>
            intro l fl fm fs hl hZ w8 w9
            have e : l = 2 ^ r := by omega
            refine g_iload (pc' := 68) dX0_measureSheets_66 rfl ?_
            refine g_iload (pc' := 70) dX0_measureSheets_68 rfl ?_
            refine g_icmp_geN (tgt := 152) (pc' := 73) dX0_measureSheets_70 (by decide) (by first | omega | decide) (by first | omega | decide) (fun z2 => ?_) (fun z2 => ?_)
            · first | refine g_iincN (z := 1) (pc' := 155) dX0_measureSheets_152 rfl rfl (by decide) ?_ | refine g_iinc (pc' := 155) dX0_measureSheets_152 rfl rfl (by decide) ?_
              refine g_goto (tgt := 33) dX0_measureSheets_155 (by decide) ?_
              rw [e, ← hr2] at hZ
              have := ih (r + 1) fl fm fs (by omega) hZ
              rw [show 2 ^ (r + 1) = 2 ^ r + l by omega] at this
              exact g_fg (by repeat (first | exact trivial | refine ⟨Or.inr rfl, ?_⟩ | refine ⟨Or.inl rfl, ?_⟩)) this
            · omega
          | succ k2 ih2 =>
            intro l fl fm fs hl hZ w8 w9
            obtain ⟨x1, x2, x3, x4⟩ := xo_at hR (show r < R by omega) (show l < 2 ^ r by omega)
            have hl0 := hZ l (by omega)
            have ml := ls_ms (P := P) N (2 ^ R - 1 - l)
            have mm := ms_le N hP (2 ^ R - 1 - l)
            have ml' := ls_ms (P := P) N (2 ^ R - 1 - (2 ^ r + l))
            have mm' := ms_le N hP (2 ^ R - 1 - (2 ^ r + l))
            have rm9 := rm_le (D := D) (S := S) hP (show r < R by omega)
            have rl9 := rl_rm (P := P) N r
            have sc9 := sc_le N hP (c := 2 ^ r + l) (by omega)
            have e1 : lsN D S R P (2 ^ R - 1 - (2 ^ r + l)) = lsN D S R P (2 ^ R - 1 - l) + rlN D S P r := by
              have := smF_bit (f := rlN D S P) x4 (show r < R by omega)
              rw [x3] at this
              exact this
            have e2 : msN D S R P (2 ^ R - 1 - (2 ^ r + l)) = msN D S R P (2 ^ R - 1 - l) + rmN D S P r := by
              have := smF_bit (f := rmN D S P) x4 (show r < R by omega)
              rw [x3] at this
              exact this
            have b24 := d24 fl fm fs
            refine g_iload (pc' := 68) dX0_measureSheets_66 rfl ?_
            refine g_iload (pc' := 70) dX0_measureSheets_68 rfl ?_
            refine g_icmp_geN (tgt := 152) (pc' := 73) dX0_measureSheets_70 (by decide) (by first | omega | decide) (by first | omega | decide) (fun z2 => ?_) (fun z2 => ?_)
            · omega
            · refine g_iload_n (pc' := 74) dX0_measureSheets_73 rfl rfl ?_
              refine g_iload (pc' := 76) dX0_measureSheets_74 rfl ?_
              refine g_ixor (pc' := 77) dX0_measureSheets_76 ?_
              rw [xor_n, x1]
              refine g_istore (pc' := 79) dX0_measureSheets_77 (by decide) ?_
              refine g_iload (pc' := 81) dX0_measureSheets_79 rfl ?_
              refine g_iload (pc' := 83) dX0_measureSheets_81 rfl ?_
              refine g_ixor (pc' := 84) dX0_measureSheets_83 ?_
              rw [xor_n, x2]
              refine g_istore (pc' := 86) dX0_measureSheets_84 (by decide) ?_
              refine g_aload_n (pc' := 87) dX0_measureSheets_86 rfl rfl ?_
              refine g_get (pc' := 90) fl_X0_9 dX0_measureSheets_87 (by omega) (by first | assumption | exact va_up_self _ _ _ | exact (va_up_ne _ _ (by first | decide | omega)).trans (by assumption) | exact (va_up_ne _ _ (by first | decide | omega)).trans (va_up_self _ _ _) | exact (va_up_ne _ _ (by first | decide | omega)).trans ((va_up_ne _ _ (by first | decide | omega)).trans (by assumption)) | exact (va_up_ne _ _ (by first | decide | omega)).trans ((va_up_ne _ _ (by first | decide | omega)).trans (va_up_self _ _ _)) | exact (va_up_ne _ _ (by first | decide | omega)).trans ((va_up_ne _ _ (by first | decide | omega)).trans ((va_up_ne _ _ (by first | decide | omega)).trans (by assumption))) | exact (va_up_ne _ _ (by first | decide | omega)).trans ((va_up_ne _ _ (by first | decide | omega)).trans ((va_up_ne _ _ (by first | decide | omega)).trans ((va_up_ne _ _ (by first | decide | omega)).trans (by assumption)))) | exact rfl) (by first | assumption | rfl | exact (List.getElem?_set_ne (by decide)).trans (by assumption) | exact List.getElem?_set_self (by omega)) ?_
              refine g_iload (pc' := 92) dX0_measureSheets_90 rfl ?_
              refine g_aload_n (pc' := 93) dX0_measureSheets_92 rfl rfl ?_
              refine g_get (pc' := 96) fl_X0_9 dX0_measureSheets_93 (by omega) (by first | assumption | exact va_up_self _ _ _ | exact (va_up_ne _ _ (by first | decide | omega)).trans (by assumption) | exact (va_up_ne _ _ (by first | decide | omega)).trans (va_up_self _ _ _) | exact (va_up_ne _ _ (by first | decide | omega)).trans ((va_up_ne _ _ (by first | decide | omega)).trans (by assumption)) | exact (va_up_ne _ _ (by first | decide | omega)).trans ((va_up_ne _ _ (by first | decide | omega)).trans (va_up_self _ _ _)) | exact (va_up_ne _ _ (by first | decide | omega)).trans ((va_up_ne _ _ (by first | decide | omega)).trans ((va_up_ne _ _ (by first | decide | omega)).trans (by assumption))) | exact (va_up_ne _ _ (by first | decide | omega)).trans ((va_up_ne _ _ (by first | decide | omega)).trans ((va_up_ne _ _ (by first | decide | omega)).trans ((va_up_ne _ _ (by first | decide | omega)).trans (by assumption)))) | exact rfl) (by first | assumption | rfl | exact (List.getElem?_set_ne (by decide)).trans (by assumption) | exact List.getElem?_set_self (by omega)) ?_
              refine g_iload (pc' := 98) dX0_measureSheets_96 rfl ?_
              refine g_ialdV (pc' := 99) dX0_measureSheets_98 (by omega) (by first | assumption | exact va_up_self _ _ _ | exact (va_up_ne _ _ (by first | decide | omega)).trans (by assumption) | exact (va_up_ne _ _ (by first | decide | omega)).trans (va_up_self _ _ _) | exact (va_up_ne _ _ (by first | decide | omega)).trans ((va_up_ne _ _ (by first | decide | omega)).trans (by assumption)) | exact (va_up_ne _ _ (by first | decide | omega)).trans ((va_up_ne _ _ (by first | decide | omega)).trans (va_up_self _ _ _)) | exact (va_up_ne _ _ (by first | decide | omega)).trans ((va_up_ne _ _ (by first | decide | omega)).trans ((va_up_ne _ _ (by first | decide | omega)).trans (by assumption))) | exact (va_up_ne _ _ (by first | decide | omega)).trans ((va_up_ne _ _ (by first | decide | omega)).trans ((va_up_ne _ _ (by first | decide | omega)).trans ((va_up_ne _ _ (by first | decide | omega)).trans (by assumption)))) | exact rfl) ((IX_nI (by omega) (by omega))) (hl0.1) ?_
              refine g_iload (pc' := 101) dX0_measureSheets_99 rfl ?_
              first | refine g_iaddN (pc' := 102) dX0_measureSheets_101 ?_ | refine g_iadd (pc' := 102) dX0_measureSheets_101 ?_
              refine g_iast (pc' := 103) dX0_measureSheets_102 (by omega) (by first | assumption | exact va_up_self _ _ _ | exact (va_up_ne _ _ (by first | decide | omega)).trans (by assumption) | exact (va_up_ne _ _ (by first | decide | omega)).trans (va_up_self _ _ _) | exact (va_up_ne _ _ (by first | decide | omega)).trans ((va_up_ne _ _ (by first | decide | omega)).trans (by assumption)) | exact (va_up_ne _ _ (by first | decide | omega)).trans ((va_up_ne _ _ (by first | decide | omega)).trans (va_up_self _ _ _)) | exact (va_up_ne _ _ (by first | decide | omega)).trans ((va_up_ne _ _ (by first | decide | omega)).trans ((va_up_ne _ _ (by first | decide | omega)).trans (by assumption))) | exact (va_up_ne _ _ (by first | decide | omega)).trans ((va_up_ne _ _ (by first | decide | omega)).trans ((va_up_ne _ _ (by first | decide | omega)).trans ((va_up_ne _ _ (by first | decide | omega)).trans (by assumption)))) | exact rfl) ((IX_nI (by omega) (by omega))) ?_
              rw [hM_25, ← e1]
              have b24 := d24 (upd fl (2 ^ R - 1 - (2 ^ r + l)) (nI (lsN D S R P (2 ^ R - 1 - (2 ^ r + l))))) fm fs
              refine g_aload_n (pc' := 104) dX0_measureSheets_103 rfl rfl ?_
              refine g_get (pc' := 107) fl_X0_15 dX0_measureSheets_104 (by omega) (by first | assumption | exact va_up_self _ _ _ | exact (va_up_ne _ _ (by first | decide | omega)).trans (by assumption) | exact (va_up_ne _ _ (by first | decide | omega)).trans (va_up_self _ _ _) | exact (va_up_ne _ _ (by first | decide | omega)).trans ((va_up_ne _ _ (by first | decide | omega)).trans (by assumption)) | exact (va_up_ne _ _ (by first | decide | omega)).trans ((va_up_ne _ _ (by first | decide | omega)).trans (va_up_self _ _ _)) | exact (va_up_ne _ _ (by first | decide | omega)).trans ((va_up_ne _ _ (by first | decide | omega)).trans ((va_up_ne _ _ (by first | decide | omega)).trans (by assumption))) | exact (va_up_ne _ _ (by first | decide | omega)).trans ((va_up_ne _ _ (by first | decide | omega)).trans ((va_up_ne _ _ (by first | decide | omega)).trans ((va_up_ne _ _ (by first | decide | omega)).trans (by assumption)))) | exact rfl) (by first | assumption | rfl | exact (List.getElem?_set_ne (by decide)).trans (by assumption) | exact List.getElem?_set_self (by omega)) ?_
              refine g_iload (pc' := 109) dX0_measureSheets_107 rfl ?_
              refine g_aload_n (pc' := 110) dX0_measureSheets_109 rfl rfl ?_
              refine g_get (pc' := 113) fl_X0_15 dX0_measureSheets_110 (by omega) (by first | assumption | exact va_up_self _ _ _ | exact (va_up_ne _ _ (by first | decide | omega)).trans (by assumption) | exact (va_up_ne _ _ (by first | decide | omega)).trans (va_up_self _ _ _) | exact (va_up_ne _ _ (by first | decide | omega)).trans ((va_up_ne _ _ (by first | decide | omega)).trans (by assumption)) | exact (va_up_ne _ _ (by first | decide | omega)).trans ((va_up_ne _ _ (by first | decide | omega)).trans (va_up_self _ _ _)) | exact (va_up_ne _ _ (by first | decide | omega)).trans ((va_up_ne _ _ (by first | decide | omega)).trans ((va_up_ne _ _ (by first | decide | omega)).trans (by assumption))) | exact (va_up_ne _ _ (by first | decide | omega)).trans ((va_up_ne _ _ (by first | decide | omega)).trans ((va_up_ne _ _ (by first | decide | omega)).trans ((va_up_ne _ _ (by first | decide | omega)).trans (by assumption)))) | exact rfl) (by first | assumption | rfl | exact (List.getElem?_set_ne (by decide)).trans (by assumption) | exact List.getElem?_set_self (by omega)) ?_
              refine g_iload (pc' := 115) dX0_measureSheets_113 rfl ?_
              refine g_ialdV (pc' := 116) dX0_measureSheets_115 (by omega) (by first | assumption | exact va_up_self _ _ _ | exact (va_up_ne _ _ (by first | decide | omega)).trans (by assumption) | exact (va_up_ne _ _ (by first | decide | omega)).trans (va_up_self _ _ _) | exact (va_up_ne _ _ (by first | decide | omega)).trans ((va_up_ne _ _ (by first | decide | omega)).trans (by assumption)) | exact (va_up_ne _ _ (by first | decide | omega)).trans ((va_up_ne _ _ (by first | decide | omega)).trans (va_up_self _ _ _)) | exact (va_up_ne _ _ (by first | decide | omega)).trans ((va_up_ne _ _ (by first | decide | omega)).trans ((va_up_ne _ _ (by first | decide | omega)).trans (by assumption))) | exact (va_up_ne _ _ (by first | decide | omega)).trans ((va_up_ne _ _ (by first | decide | omega)).trans ((va_up_ne _ _ (by first | decide | omega)).trans ((va_up_ne _ _ (by first | decide | omega)).trans (by assumption)))) | exact rfl) ((IX_nI (by omega) (by omega))) (hl0.2.1) ?_
              refine g_iload (pc' := 118) dX0_measureSheets_116 rfl ?_
              first | refine g_iaddN (pc' := 119) dX0_measureSheets_118 ?_ | refine g_iadd (pc' := 119) dX0_measureSheets_118 ?_
              refine g_iast (pc' := 120) dX0_measureSheets_119 (by omega) (by first | assumption | exact va_up_self _ _ _ | exact (va_up_ne _ _ (by first | decide | omega)).trans (by assumption) | exact (va_up_ne _ _ (by first | decide | omega)).trans (va_up_self _ _ _) | exact (va_up_ne _ _ (by first | decide | omega)).trans ((va_up_ne _ _ (by first | decide | omega)).trans (by assumption)) | exact (va_up_ne _ _ (by first | decide | omega)).trans ((va_up_ne _ _ (by first | decide | omega)).trans (va_up_self _ _ _)) | exact (va_up_ne _ _ (by first | decide | omega)).trans ((va_up_ne _ _ (by first | decide | omega)).trans ((va_up_ne _ _ (by first | decide | omega)).trans (by assumption))) | exact (va_up_ne _ _ (by first | decide | omega)).trans ((va_up_ne _ _ (by first | decide | omega)).trans ((va_up_ne _ _ (by first | decide | omega)).trans ((va_up_ne _ _ (by first | decide | omega)).trans (by assumption)))) | exact rfl) ((IX_nI (by omega) (by omega))) ?_
              rw [hM_26, ← e2]
              have b24 := d24 (upd fl (2 ^ R - 1 - (2 ^ r + l)) (nI (lsN D S R P (2 ^ R - 1 - (2 ^ r + l))))) (upd fm (2 ^ R - 1 - (2 ^ r + l)) (nI (msN D S R P (2 ^ R - 1 - (2 ^ r + l))))) fs
              refine g_aload_n (pc' := 121) dX0_measureSheets_120 rfl rfl ?_
              refine g_get (pc' := 124) fl_X0_18 dX0_measureSheets_121 (by omega) (by first | assumption | exact va_up_self _ _ _ | exact (va_up_ne _ _ (by first | decide | omega)).trans (by assumption) | exact (va_up_ne _ _ (by first | decide | omega)).trans (va_up_self _ _ _) | exact (va_up_ne _ _ (by first | decide | omega)).trans ((va_up_ne _ _ (by first | decide | omega)).trans (by assumption)) | exact (va_up_ne _ _ (by first | decide | omega)).trans ((va_up_ne _ _ (by first | decide | omega)).trans (va_up_self _ _ _)) | exact (va_up_ne _ _ (by first | decide | omega)).trans ((va_up_ne _ _ (by first | decide | omega)).trans ((va_up_ne _ _ (by first | decide | omega)).trans (by assumption))) | exact (va_up_ne _ _ (by first | decide | omega)).trans ((va_up_ne _ _ (by first | decide | omega)).trans ((va_up_ne _ _ (by first | decide | omega)).trans ((va_up_ne _ _ (by first | decide | omega)).trans (by assumption)))) | exact rfl) (by first | assumption | rfl | exact (List.getElem?_set_ne (by decide)).trans (by assumption) | exact List.getElem?_set_self (by omega)) ?_
              refine g_iload (pc' := 126) dX0_measureSheets_124 rfl ?_
              refine g_iload_n (pc' := 127) dX0_measureSheets_126 rfl rfl ?_
              refine g_iast (pc' := 128) dX0_measureSheets_127 (by omega) (by first | assumption | exact va_up_self _ _ _ | exact (va_up_ne _ _ (by first | decide | omega)).trans (by assumption) | exact (va_up_ne _ _ (by first | decide | omega)).trans (va_up_self _ _ _) | exact (va_up_ne _ _ (by first | decide | omega)).trans ((va_up_ne _ _ (by first | decide | omega)).trans (by assumption)) | exact (va_up_ne _ _ (by first | decide | omega)).trans ((va_up_ne _ _ (by first | decide | omega)).trans (va_up_self _ _ _)) | exact (va_up_ne _ _ (by first | decide | omega)).trans ((va_up_ne _ _ (by first | decide | omega)).trans ((va_up_ne _ _ (by first | decide | omega)).trans (by assumption))) | exact (va_up_ne _ _ (by first | decide | omega)).trans ((va_up_ne _ _ (by first | decide | omega)).trans ((va_up_ne _ _ (by first | decide | omega)).trans ((va_up_ne _ _ (by first | decide | omega)).trans (by assumption)))) | exact rfl) ((IX_nI (by omega) (by omega))) ?_
              rw [hM_27]
              have b24 := d24 (upd fl (2 ^ R - 1 - (2 ^ r + l)) (nI (lsN D S R P (2 ^ R - 1 - (2 ^ r + l))))) (upd fm (2 ^ R - 1 - (2 ^ r + l)) (nI (msN D S R P (2 ^ R - 1 - (2 ^ r + l))))) (upd fs (2 ^ R - 1 - (2 ^ r + l)) (nI (smF (wcN D S R P) (2 ^ r + l))))
              refine g_iload_n (pc' := 129) dX0_measureSheets_128 rfl rfl ?_
              refine g_aload_n (pc' := 130) dX0_measureSheets_129 rfl rfl ?_
              refine g_get (pc' := 133) fl_X0_15 dX0_measureSheets_130 (by omega) (by first | assumption | exact va_up_self _ _ _ | exact (va_up_ne _ _ (by first | decide | omega)).trans (by assumption) | exact (va_up_ne _ _ (by first | decide | omega)).trans (va_up_self _ _ _) | exact (va_up_ne _ _ (by first | decide | omega)).trans ((va_up_ne _ _ (by first | decide | omega)).trans (by assumption)) | exact (va_up_ne _ _ (by first | decide | omega)).trans ((va_up_ne _ _ (by first | decide | omega)).trans (va_up_self _ _ _)) | exact (va_up_ne _ _ (by first | decide | omega)).trans ((va_up_ne _ _ (by first | decide | omega)).trans ((va_up_ne _ _ (by first | decide | omega)).trans (by assumption))) | exact (va_up_ne _ _ (by first | decide | omega)).trans ((va_up_ne _ _ (by first | decide | omega)).trans ((va_up_ne _ _ (by first | decide | omega)).trans ((va_up_ne _ _ (by first | decide | omega)).trans (by assumption)))) | exact rfl) (by first | assumption | rfl | exact (List.getElem?_set_ne (by decide)).trans (by assumption) | exact List.getElem?_set_self (by omega)) ?_
              refine g_iload (pc' := 135) dX0_measureSheets_133 rfl ?_
              refine g_ialdV (pc' := 136) dX0_measureSheets_135 (by omega) (by first | assumption | exact va_up_self _ _ _ | exact (va_up_ne _ _ (by first | decide | omega)).trans (by assumption) | exact (va_up_ne _ _ (by first | decide | omega)).trans (va_up_self _ _ _) | exact (va_up_ne _ _ (by first | decide | omega)).trans ((va_up_ne _ _ (by first | decide | omega)).trans (by assumption)) | exact (va_up_ne _ _ (by first | decide | omega)).trans ((va_up_ne _ _ (by first | decide | omega)).trans (va_up_self _ _ _)) | exact (va_up_ne _ _ (by first | decide | omega)).trans ((va_up_ne _ _ (by first | decide | omega)).trans ((va_up_ne _ _ (by first | decide | omega)).trans (by assumption))) | exact (va_up_ne _ _ (by first | decide | omega)).trans ((va_up_ne _ _ (by first | decide | omega)).trans ((va_up_ne _ _ (by first | decide | omega)).trans ((va_up_ne _ _ (by first | decide | omega)).trans (by assumption)))) | exact rfl) ((IX_nI (by omega) (by omega))) (pk_us) ?_
              refine g_aload_n (pc' := 137) dX0_measureSheets_136 rfl rfl ?_
              refine g_get (pc' := 140) fl_X0_9 dX0_measureSheets_137 (by omega) (by first | assumption | exact va_up_self _ _ _ | exact (va_up_ne _ _ (by first | decide | omega)).trans (by assumption) | exact (va_up_ne _ _ (by first | decide | omega)).trans (va_up_self _ _ _) | exact (va_up_ne _ _ (by first | decide | omega)).trans ((va_up_ne _ _ (by first | decide | omega)).trans (by assumption)) | exact (va_up_ne _ _ (by first | decide | omega)).trans ((va_up_ne _ _ (by first | decide | omega)).trans (va_up_self _ _ _)) | exact (va_up_ne _ _ (by first | decide | omega)).trans ((va_up_ne _ _ (by first | decide | omega)).trans ((va_up_ne _ _ (by first | decide | omega)).trans (by assumption))) | exact (va_up_ne _ _ (by first | decide | omega)).trans ((va_up_ne _ _ (by first | decide | omega)).trans ((va_up_ne _ _ (by first | decide | omega)).trans ((va_up_ne _ _ (by first | decide | omega)).trans (by assumption)))) | exact rfl) (by first | assumption | rfl | exact (List.getElem?_set_ne (by decide)).trans (by assumption) | exact List.getElem?_set_self (by omega)) ?_
              refine g_iload (pc' := 142) dX0_measureSheets_140 rfl ?_
              refine g_ialdV (pc' := 143) dX0_measureSheets_142 (by omega) (by first | assumption | exact va_up_self _ _ _ | exact (va_up_ne _ _ (by first | decide | omega)).trans (by assumption) | exact (va_up_ne _ _ (by first | decide | omega)).trans (va_up_self _ _ _) | exact (va_up_ne _ _ (by first | decide | omega)).trans ((va_up_ne _ _ (by first | decide | omega)).trans (by assumption)) | exact (va_up_ne _ _ (by first | decide | omega)).trans ((va_up_ne _ _ (by first | decide | omega)).trans (va_up_self _ _ _)) | exact (va_up_ne _ _ (by first | decide | omega)).trans ((va_up_ne _ _ (by first | decide | omega)).trans ((va_up_ne _ _ (by first | decide | omega)).trans (by assumption))) | exact (va_up_ne _ _ (by first | decide | omega)).trans ((va_up_ne _ _ (by first | decide | omega)).trans ((va_up_ne _ _ (by first | decide | omega)).trans ((va_up_ne _ _ (by first | decide | omega)).trans (by assumption)))) | exact rfl) ((IX_nI (by omega) (by omega))) (pk_us) ?_
              first | refine g_isubN (pc' := 144) dX0_measureSheets_143 (by omega) ?_ | refine g_isub (pc' := 144) dX0_measureSheets_143 ?_
              first | refine g_iaddN (pc' := 145) dX0_measureSheets_144 ?_ | refine g_iadd (pc' := 145) dX0_measureSheets_144 ?_
              refine g_istore_n (pc' := 146) dX0_measureSheets_145 rfl (by decide) ?_
              first | refine g_iincN (z := 1) (pc' := 149) dX0_measureSheets_146 rfl rfl (by decide) ?_ | refine g_iinc (pc' := 149) dX0_measureSheets_146 rfl rfl (by decide) ?_
              refine g_goto (tgt := 66) dX0_measureSheets_149 (by decide) ?_
              have nxt := ih2 (l + 1) (upd fl (2 ^ R - 1 - (2 ^ r + l)) (nI (lsN D S R P (2 ^ R - 1 - (2 ^ r + l))))) (upd fm (2 ^ R - 1 - (2 ^ r + l)) (nI (msN D S R P (2 ^ R - 1 - (2 ^ r + l))))) (upd fs (2 ^ R - 1 - (2 ^ r + l)) (nI (smF (wcN D S R P) (2 ^ r + l)))) (by omega) (fun k hk => ?_) (.int (nI (2 ^ R - 1 - l))) (.int (nI (2 ^ R - 1 - (2 ^ r + l))))
              · exact nxt
              · by_cases e : k = 2 ^ r + l
                · rw [e, pk_us, pk_us, pk_us]
                  exact ⟨rfl, rfl, rfl⟩
                · rw [pk_un (by omega), pk_un (by omega), pk_un (by omega)]
                  exact hZ k (by omega)
        exact inner (2 ^ r) 0 fl fm fs (by omega) hZ uu uu
  have fz : ∀ h : opn (2 ^ R - 1) R = 0, MZ D S R P (upd fl (2 ^ R - 1) (nI 0)) (upd fm (2 ^ R - 1) (nI 0)) (upd fs (2 ^ R - 1) (nI 0)) 1 := fun h k hk => by
    have e : k = 0 := by omega
    subst e
    rw [Nat.sub_zero, pk_us, pk_us, pk_us, show lsN D S R P (2 ^ R - 1) = 0 from smF_zero h, show msN D S R P (2 ^ R - 1) = 0 from smF_zero h]
    exact ⟨rfl, rfl, rfl⟩
  have w0 : smF (wcN D S R P) (2 ^ 0) = 0 := by
    show 0 + wcN D S R P 0 = 0
    unfold wcN
    rw [Nat.sub_zero, show lsN D S R P (2 ^ R - 1) = 0 from smF_zero (opn_full R), show msN D S R P (2 ^ R - 1) = 0 from smF_zero (opn_full R)]
  have := outer R 0 _ _ _ (by omega) (fz (opn_full R))
  rw [w0] at this
  exact g_fg (by repeat (first | exact trivial | refine ⟨Or.inr rfl, ?_⟩ | refine ⟨Or.inl rfl, ?_⟩)) this
