/-! THE CLASS: Heaps, its methods -/
/-- the cells of Heaps -/
def hH (hp : AH) (D S c w : Nat) (ft fz fl fm : Nat → Int32) : AH := va_up (va_up (va_up (va_up (va_up hp 5 (ob 2 [.ref 6, .ref 7, .ref 8, .ref 9, .int (nI D), .int (nI S), .int (nI c), .int (nI w)])) 6 (aI 462 ft)) 7 (aI 462 fz)) 8 (aI 462 fl)) 9 (aI 2772 fm)
section HH
variable {hp : AH} {D S c w : Nat} {ft fz fl fm : Nat → Int32}
theorem hH_c (c' : Nat) : va_up (hH hp D S c w ft fz fl fm) 5 (ob 2 ([.ref 6, .ref 7, .ref 8, .ref 9, .int (nI D), .int (nI S), .int (nI c), .int (nI w)].set 6 (.int (nI c')))) = hH hp D S c' w ft fz fl fm := by
  funext i
  by_cases h : i = 5 <;> simp [hH, va_up, h]
theorem hH_w (w' : Nat) : va_up (hH hp D S c w ft fz fl fm) 5 (ob 2 ([.ref 6, .ref 7, .ref 8, .ref 9, .int (nI D), .int (nI S), .int (nI c), .int (nI w)].set 7 (.int (nI w')))) = hH hp D S c w' ft fz fl fm := by
  funext i
  by_cases h : i = 5 <;> simp [hH, va_up, h]
theorem hH_6 (g : Nat → Int32) : va_up (hH hp D S c w ft fz fl fm) 6 (aI 462 g) = hH hp D S c w g fz fl fm := by
  funext i
  by_cases h : i = 6 <;> simp [hH, va_up, h]
theorem hH_7 (g : Nat → Int32) : va_up (hH hp D S c w ft fz fl fm) 7 (aI 462 g) = hH hp D S c w ft g fl fm := by
  funext i
  by_cases h : i = 7 <;> simp [hH, va_up, h]
theorem hH_8 (g : Nat → Int32) : va_up (hH hp D S c w ft fz fl fm) 8 (aI 462 g) = hH hp D S c w ft fz g fm := by
  funext i
  by_cases h : i = 8 <;> simp [hH, va_up, h]
theorem hH_9 (g : Nat → Int32) : va_up (hH hp D S c w ft fz fl fm) 9 (aI 2772 g) = hH hp D S c w ft fz fl g := by
  funext i
  by_cases h : i = 9 <;> simp [hH, va_up, h]
end HH
theorem c_withDie {hp : AH} {n D S h sd z r c : Nat} {v7 : Value} {fz fm : Nat → Int32} {Q : Option Value → AH → Nat → Prop} (hn : 64 ≤ n) (h6 : S ≤ 6) (hD : D ≤ 5) (c5 : hp 5 = ob 2 [.ref 6, .ref 7, .ref 8, .ref 9, .int (nI D), .int (nI S), .int (nI c), v7]) (c7 : hp 7 = aI 462 fz) (c9 : hp 9 = aI 2772 fm) (hc : h < c) (hcl : c ≤ 462) (hz : fz h = nI z) (hzD : z < D) (hs1 : 1 ≤ sd) (hs : sd ≤ S) (hm : fm (6 * h + (sd - 1)) = nI r) (hq : Q (some (.int (nI r))) hp n) : CT yX2_withDie cX2_withDie 3 (some .int) (rmD 0) [.ref 5, .int (nI h), .int (nI sd)] hp n Q := by
  show G yX2_withDie cX2_withDie 3 (some .int) (rmD 0) none Q 0 0 0 [.ref 5, .int (nI h), .int (nI sd)] [] hp n
  have hm' : fm (h * 6 + sd - 1) = nI r := by
    rw [show h * 6 + sd - 1 = 6 * h + (sd - 1) by omega]
    exact hm
  refine g_iload_n (pc' := 1) dX2_withDie_0 rfl rfl ?_
  refine g_if_ltN (tgt := 38) (pc' := 4) dX2_withDie_1 (by decide) (by first | omega | decide) (fun z8 => ?_) (fun z8 => ?_)
  · exact z8.elim
  refine g_iload_n (pc' := 5) dX2_withDie_4 rfl rfl ?_
  refine g_aload_n (pc' := 6) dX2_withDie_5 rfl rfl ?_
  refine g_get (pc' := 9) fl_X2_31 dX2_withDie_6 (by omega) (by first | assumption | exact va_up_self _ _ _ | exact (va_up_ne _ _ (by first | decide | omega)).trans (by assumption) | exact (va_up_ne _ _ (by first | decide | omega)).trans (va_up_self _ _ _) | exact (va_up_ne _ _ (by first | decide | omega)).trans ((va_up_ne _ _ (by first | decide | omega)).trans (by assumption)) | exact (va_up_ne _ _ (by first | decide | omega)).trans ((va_up_ne _ _ (by first | decide | omega)).trans (va_up_self _ _ _)) | exact (va_up_ne _ _ (by first | decide | omega)).trans ((va_up_ne _ _ (by first | decide | omega)).trans ((va_up_ne _ _ (by first | decide | omega)).trans (by assumption))) | exact (va_up_ne _ _ (by first | decide | omega)).trans ((va_up_ne _ _ (by first | decide | omega)).trans ((va_up_ne _ _ (by first | decide | omega)).trans ((va_up_ne _ _ (by first | decide | omega)).trans (by assumption)))) | exact rfl) (by first | assumption | rfl | exact (List.getElem?_set_ne (by decide)).trans (by assumption) | exact List.getElem?_set_self (by omega)) ?_
  refine g_icmp_geN (tgt := 38) (pc' := 12) dX2_withDie_9 (by decide) (by first | omega | decide) (by first | omega | decide) (fun z9 => ?_) (fun z9 => ?_)
  · omega
  refine g_aload_n (pc' := 13) dX2_withDie_12 rfl rfl ?_
  refine g_get (pc' := 16) fl_X2_15 dX2_withDie_13 (by omega) (by first | assumption | exact va_up_self _ _ _ | exact (va_up_ne _ _ (by first | decide | omega)).trans (by assumption) | exact (va_up_ne _ _ (by first | decide | omega)).trans (va_up_self _ _ _) | exact (va_up_ne _ _ (by first | decide | omega)).trans ((va_up_ne _ _ (by first | decide | omega)).trans (by assumption)) | exact (va_up_ne _ _ (by first | decide | omega)).trans ((va_up_ne _ _ (by first | decide | omega)).trans (va_up_self _ _ _)) | exact (va_up_ne _ _ (by first | decide | omega)).trans ((va_up_ne _ _ (by first | decide | omega)).trans ((va_up_ne _ _ (by first | decide | omega)).trans (by assumption))) | exact (va_up_ne _ _ (by first | decide | omega)).trans ((va_up_ne _ _ (by first | decide | omega)).trans ((va_up_ne _ _ (by first | decide | omega)).trans ((va_up_ne _ _ (by first | decide | omega)).trans (by assumption)))) | exact rfl) (by first | assumption | rfl | exact (List.getElem?_set_ne (by decide)).trans (by assumption) | exact List.getElem?_set_self (by omega)) ?_
  refine g_iload_n (pc' := 17) dX2_withDie_16 rfl rfl ?_
  refine g_ialdV (pc' := 18) dX2_withDie_17 (by omega) (by first | assumption | exact va_up_self _ _ _ | exact (va_up_ne _ _ (by first | decide | omega)).trans (by assumption) | exact (va_up_ne _ _ (by first | decide | omega)).trans (va_up_self _ _ _) | exact (va_up_ne _ _ (by first | decide | omega)).trans ((va_up_ne _ _ (by first | decide | omega)).trans (by assumption)) | exact (va_up_ne _ _ (by first | decide | omega)).trans ((va_up_ne _ _ (by first | decide | omega)).trans (va_up_self _ _ _)) | exact (va_up_ne _ _ (by first | decide | omega)).trans ((va_up_ne _ _ (by first | decide | omega)).trans ((va_up_ne _ _ (by first | decide | omega)).trans (by assumption))) | exact (va_up_ne _ _ (by first | decide | omega)).trans ((va_up_ne _ _ (by first | decide | omega)).trans ((va_up_ne _ _ (by first | decide | omega)).trans ((va_up_ne _ _ (by first | decide | omega)).trans (by assumption)))) | exact rfl) ((IX_nI (by omega) (by omega))) (hz) ?_
  refine g_aload_n (pc' := 19) dX2_withDie_18 rfl rfl ?_
  refine g_get (pc' := 22) fl_X2_24 dX2_withDie_19 (by omega) (by first | assumption | exact va_up_self _ _ _ | exact (va_up_ne _ _ (by first | decide | omega)).trans (by assumption) | exact (va_up_ne _ _ (by first | decide | omega)).trans (va_up_self _ _ _) | exact (va_up_ne _ _ (by first | decide | omega)).trans ((va_up_ne _ _ (by first | decide | omega)).trans (by assumption)) | exact (va_up_ne _ _ (by first | decide | omega)).trans ((va_up_ne _ _ (by first | decide | omega)).trans (va_up_self _ _ _)) | exact (va_up_ne _ _ (by first | decide | omega)).trans ((va_up_ne _ _ (by first | decide | omega)).trans ((va_up_ne _ _ (by first | decide | omega)).trans (by assumption))) | exact (va_up_ne _ _ (by first | decide | omega)).trans ((va_up_ne _ _ (by first | decide | omega)).trans ((va_up_ne _ _ (by first | decide | omega)).trans ((va_up_ne _ _ (by first | decide | omega)).trans (by assumption)))) | exact rfl) (by first | assumption | rfl | exact (List.getElem?_set_ne (by decide)).trans (by assumption) | exact List.getElem?_set_self (by omega)) ?_
  refine g_icmp_geN (tgt := 38) (pc' := 25) dX2_withDie_22 (by decide) (by first | omega | decide) (by first | omega | decide) (fun z1 => ?_) (fun z1 => ?_)
  · omega
  · refine g_iload_n (pc' := 26) dX2_withDie_25 rfl rfl ?_
    refine g_iconst (pc' := 27) (v := nI 1) dX2_withDie_26 (by decide) ?_
    refine g_icmp_ltN (tgt := 38) (pc' := 30) dX2_withDie_27 (by decide) (by first | omega | decide) (by first | omega | decide) (fun z2 => ?_) (fun z2 => ?_)
    · omega
    · refine g_iload_n (pc' := 31) dX2_withDie_30 rfl rfl ?_
      refine g_aload_n (pc' := 32) dX2_withDie_31 rfl rfl ?_
      refine g_get (pc' := 35) fl_X2_28 dX2_withDie_32 (by omega) (by first | assumption | exact va_up_self _ _ _ | exact (va_up_ne _ _ (by first | decide | omega)).trans (by assumption) | exact (va_up_ne _ _ (by first | decide | omega)).trans (va_up_self _ _ _) | exact (va_up_ne _ _ (by first | decide | omega)).trans ((va_up_ne _ _ (by first | decide | omega)).trans (by assumption)) | exact (va_up_ne _ _ (by first | decide | omega)).trans ((va_up_ne _ _ (by first | decide | omega)).trans (va_up_self _ _ _)) | exact (va_up_ne _ _ (by first | decide | omega)).trans ((va_up_ne _ _ (by first | decide | omega)).trans ((va_up_ne _ _ (by first | decide | omega)).trans (by assumption))) | exact (va_up_ne _ _ (by first | decide | omega)).trans ((va_up_ne _ _ (by first | decide | omega)).trans ((va_up_ne _ _ (by first | decide | omega)).trans ((va_up_ne _ _ (by first | decide | omega)).trans (by assumption)))) | exact rfl) (by first | assumption | rfl | exact (List.getElem?_set_ne (by decide)).trans (by assumption) | exact List.getElem?_set_self (by omega)) ?_
      refine g_icmp_leN (tgt := 40) (pc' := 38) dX2_withDie_35 (by decide) (by first | omega | decide) (by first | omega | decide) (fun z3 => ?_) (fun z3 => ?_)
      · refine g_aload_n (pc' := 41) dX2_withDie_40 rfl rfl ?_
        refine g_get (pc' := 44) fl_X2_21 dX2_withDie_41 (by omega) (by first | assumption | exact va_up_self _ _ _ | exact (va_up_ne _ _ (by first | decide | omega)).trans (by assumption) | exact (va_up_ne _ _ (by first | decide | omega)).trans (va_up_self _ _ _) | exact (va_up_ne _ _ (by first | decide | omega)).trans ((va_up_ne _ _ (by first | decide | omega)).trans (by assumption)) | exact (va_up_ne _ _ (by first | decide | omega)).trans ((va_up_ne _ _ (by first | decide | omega)).trans (va_up_self _ _ _)) | exact (va_up_ne _ _ (by first | decide | omega)).trans ((va_up_ne _ _ (by first | decide | omega)).trans ((va_up_ne _ _ (by first | decide | omega)).trans (by assumption))) | exact (va_up_ne _ _ (by first | decide | omega)).trans ((va_up_ne _ _ (by first | decide | omega)).trans ((va_up_ne _ _ (by first | decide | omega)).trans ((va_up_ne _ _ (by first | decide | omega)).trans (by assumption)))) | exact rfl) (by first | assumption | rfl | exact (List.getElem?_set_ne (by decide)).trans (by assumption) | exact List.getElem?_set_self (by omega)) ?_
        refine g_iload_n (pc' := 45) dX2_withDie_44 rfl rfl ?_
        refine g_bipush (pc' := 47) (v := nI 6) dX2_withDie_45 (by decide) ?_
        first | refine g_imulN (pc' := 48) dX2_withDie_47 ?_ | refine g_imul (pc' := 48) dX2_withDie_47 ?_
        refine g_iload_n (pc' := 49) dX2_withDie_48 rfl rfl ?_
        first | refine g_iaddN (pc' := 50) dX2_withDie_49 ?_ | refine g_iadd (pc' := 50) dX2_withDie_49 ?_
        refine g_iconst (pc' := 51) (v := nI 1) dX2_withDie_50 (by decide) ?_
        first | refine g_isubN (pc' := 52) dX2_withDie_51 (by omega) ?_ | refine g_isub (pc' := 52) dX2_withDie_51 ?_
        refine g_ialdV (pc' := 53) dX2_withDie_52 (by omega) (by first | assumption | exact va_up_self _ _ _ | exact (va_up_ne _ _ (by first | decide | omega)).trans (by assumption) | exact (va_up_ne _ _ (by first | decide | omega)).trans (va_up_self _ _ _) | exact (va_up_ne _ _ (by first | decide | omega)).trans ((va_up_ne _ _ (by first | decide | omega)).trans (by assumption)) | exact (va_up_ne _ _ (by first | decide | omega)).trans ((va_up_ne _ _ (by first | decide | omega)).trans (va_up_self _ _ _)) | exact (va_up_ne _ _ (by first | decide | omega)).trans ((va_up_ne _ _ (by first | decide | omega)).trans ((va_up_ne _ _ (by first | decide | omega)).trans (by assumption))) | exact (va_up_ne _ _ (by first | decide | omega)).trans ((va_up_ne _ _ (by first | decide | omega)).trans ((va_up_ne _ _ (by first | decide | omega)).trans ((va_up_ne _ _ (by first | decide | omega)).trans (by assumption)))) | exact rfl) ((IX_nI (by omega) (by omega))) (hm') ?_
        exact g_iret dX2_withDie_53 rfl (Nat.le_refl _) (Nat.le_refl _) hq
      · omega
/-- heaps below c are told; from `a` up to h the larger dice are added -/
def TH (S c : Nat) (ft fz fl : Nat → Int32) : Prop := (∀ h, h < c → ft h = nI (td S h)) ∧ (∀ h, h < c → fz h = nI (sz S h)) ∧ ∀ h, 1 ≤ h → h < c → fl h = nI (wlT S h)
theorem c_addLargestDie {hp : AH} {n D S i a w : Nat} {ft fz fl fm : Nat → Int32} {Q : Option Value → AH → Nat → Prop} (hn : 64 ≤ n) (h2 : 2 ≤ S) (h6 : S ≤ 6) (hi : i ≤ 4) (ha : a = if i = 0 then 0 else nh S (i - 1)) (hT : TH S (nh S i) ft fz fl)
    (hq : ∀ ft' fz' fl' fm' : Nat → Int32, TH S (nh S (i + 1)) ft' fz' fl' → (∀ j, j < 6 * a → fm' j = fm j) → (∀ g s, a ≤ g → g < nh S i → s < S → f1 S g ≤ s + 1 → fm' (6 * g + s) = nI (nx S g s)) → Q none (hH hp D S (nh S (i + 1)) w ft' fz' fl' fm') n) : CT yX2_addLargestDie cX2_addLargestDie 5 none (rmD 1) [.ref 5, .int (nI a), .int (nI (nh S i))] (hH hp D S (nh S i) w ft fz fl fm) n Q := by
  obtain ⟨hN, hN1⟩ := nh_le h2 h6 (show i ≤ 5 by omega)
  obtain ⟨hN', hN1'⟩ := nh_le h2 h6 (show i + 1 ≤ 5 by omega)
  have hm1 := nh_mono h2 h6 (show i + 1 ≤ 5 by omega) (Nat.le_refl 5)
  have hm0 := nh_lt h2 h6 (show i < i + 1 by omega) (by omega)
  have ha2 : a ≤ nh S i := by
    rw [ha]
    split
    · omega
    · exact nh_mono h2 h6 (by omega) (by omega)
  have hca : ccT S a = nh S i := by
    rw [ha]
    by_cases e : i = 0
    · rw [if_pos e, e, nx_00 h2 h6]
      rfl
    · rw [if_neg e]
      exact cc_fh h2 h6 (by omega) (by omega)
  have hcb : ccT S (nh S i) = nh S (i + 1) := by
    have := cc_fh (D := i + 1) h2 h6 (by omega) (by omega)
    exact this
  have hsz : ∀ h, a ≤ h → h < nh S i → sz S h = i := fun h q1 q2 => by
    have z1 := sz_of h2 h6 (show i ≤ 5 by omega) q2
    by_cases e : i = 0
    · omega
    · rw [ha, if_neg e] at q1
      have := (sz_iff h2 h6 (d := i - 1) (h := h) (by omega) (by omega)).mp
      omega
  show G yX2_addLargestDie cX2_addLargestDie 5 none (rmD 1) none Q 0 0 0 [.ref 5, .int (nI a), .int (nI (nh S i)), uu, uu] [] (hH hp D S (nh S i) w ft fz fl fm) n
  refine g_iload_n (pc' := 1) dX2_addLargestDie_0 rfl rfl ?_
  refine g_istore_n (pc' := 2) dX2_addLargestDie_1 rfl (by decide) ?_
  have outer : ∀ k h ft fz fl fm', h + k = nh S i → a ≤ h → TH S (ccT S h) ft fz fl → (∀ j, j < 6 * a → fm' j = fm j) → (∀ g s, a ≤ g → g < h → s < S → f1 S g ≤ s + 1 → fm' (6 * g + s) = nI (nx S g s)) → G yX2_addLargestDie cX2_addLargestDie 5 none (rmD 1) none Q 0 0 2 [.ref 5, .int (nI a), .int (nI (nh S i)), .int (nI h), uu] [] (hH hp D S (ccT S h) w ft fz fl fm') n := by
    intro k
    induction k with
    | zero =>
      intro h ft fz fl fm' hk hah hT m1 m2
      have eh : h = nh S i := by omega
      subst eh
      rw [hcb] at hT ⊢
      refine g_iload_n (pc' := 3) dX2_addLargestDie_2 rfl rfl ?_
      refine g_iload_n (pc' := 4) dX2_addLargestDie_3 rfl rfl ?_
      refine g_icmp_geN (tgt := 130) (pc' := 7) dX2_addLargestDie_4 (by decide) (by first | omega | decide) (by first | omega | decide) (fun z1 => ?_) (fun z1 => ?_)
      · exact g_vret dX2_addLargestDie_130 rfl (Nat.le_refl _) (Nat.le_refl _) (hq ft fz fl fm' hT m1 m2)
      · omega
    | succ k ih =>
      intro h ft fz fl fm' hk hah hT m1 m2
      have hh5 : h < nh S 5 := by omega
      have zh := hsz h hah (by omega)
      have f1g := f1_ge S h
      have f1l := f1_le h2 h6 hh5
      have cgt := cc_gt h2 h6 hh5 (by omega)
      have cnx := cc_next h2 h6 hh5 (by omega)
      have nxl := (nx_new h2 h6 hh5 (by omega) (show S - 1 < S by omega) (by omega)).1
      have ef1 : max 1 (td S h % 10) = f1 S h := rfl
      have htd : td S h < 2 ^ 31 := td_lt h2 h6 hh5
      refine g_iload_n (pc' := 3) dX2_addLargestDie_2 rfl rfl ?_
      refine g_iload_n (pc' := 4) dX2_addLargestDie_3 rfl rfl ?_
      refine g_icmp_geN (tgt := 130) (pc' := 7) dX2_addLargestDie_4 (by decide) (by first | omega | decide) (by first | omega | decide) (fun z1 => ?_) (fun z1 => ?_)
      · omega
      · refine g_iconst (pc' := 8) (v := nI 1) dX2_addLargestDie_7 (by decide) ?_
        refine g_aload_n (pc' := 9) dX2_addLargestDie_8 rfl rfl ?_
        refine g_get (pc' := 12) fl_X2_9 dX2_addLargestDie_9 (by omega) (by first | assumption | exact va_up_self _ _ _ | exact (va_up_ne _ _ (by first | decide | omega)).trans (by assumption) | exact (va_up_ne _ _ (by first | decide | omega)).trans (va_up_self _ _ _) | exact (va_up_ne _ _ (by first | decide | omega)).trans ((va_up_ne _ _ (by first | decide | omega)).trans (by assumption)) | exact (va_up_ne _ _ (by first | decide | omega)).trans ((va_up_ne _ _ (by first | decide | omega)).trans (va_up_self _ _ _)) | exact (va_up_ne _ _ (by first | decide | omega)).trans ((va_up_ne _ _ (by first | decide | omega)).trans ((va_up_ne _ _ (by first | decide | omega)).trans (by assumption))) | exact (va_up_ne _ _ (by first | decide | omega)).trans ((va_up_ne _ _ (by first | decide | omega)).trans ((va_up_ne _ _ (by first | decide | omega)).trans ((va_up_ne _ _ (by first | decide | omega)).trans (by assumption)))) | exact rfl) (by first | assumption | rfl | exact (List.getElem?_set_ne (by decide)).trans (by assumption) | exact List.getElem?_set_self (by omega)) ?_
        refine g_iload_n (pc' := 13) dX2_addLargestDie_12 rfl rfl ?_
        refine g_ialdV (pc' := 14) dX2_addLargestDie_13 (by omega) (by first | assumption | exact va_up_self _ _ _ | exact (va_up_ne _ _ (by first | decide | omega)).trans (by assumption) | exact (va_up_ne _ _ (by first | decide | omega)).trans (va_up_self _ _ _) | exact (va_up_ne _ _ (by first | decide | omega)).trans ((va_up_ne _ _ (by first | decide | omega)).trans (by assumption)) | exact (va_up_ne _ _ (by first | decide | omega)).trans ((va_up_ne _ _ (by first | decide | omega)).trans (va_up_self _ _ _)) | exact (va_up_ne _ _ (by first | decide | omega)).trans ((va_up_ne _ _ (by first | decide | omega)).trans ((va_up_ne _ _ (by first | decide | omega)).trans (by assumption))) | exact (va_up_ne _ _ (by first | decide | omega)).trans ((va_up_ne _ _ (by first | decide | omega)).trans ((va_up_ne _ _ (by first | decide | omega)).trans ((va_up_ne _ _ (by first | decide | omega)).trans (by assumption)))) | exact rfl) ((IX_nI (by omega) (by omega))) (hT.1 _ cgt) ?_
        refine g_bipush (pc' := 16) (v := nI 10) dX2_addLargestDie_14 (by decide) ?_
        first | refine g_iremN (pc' := 17) dX2_addLargestDie_16 (by omega) (by omega) (by omega) ?_ | refine g_irem (pc' := 17) dX2_addLargestDie_16 (by decide) ?_
        refine g_mmaxN (pc' := 20) mm_X2_44 dX2_addLargestDie_17 (by decide) (Nat.le_of_ble_eq_true rfl) (Nat.le_refl _) (Nat.le_refl _) (by omega) (by omega) ?_
        rw [ef1]
        refine g_istore (pc' := 22) dX2_addLargestDie_20 (by decide) ?_
        have inner : ∀ k2 sd ft fz fl fm', sd + k2 = S + 1 → f1 S h ≤ sd → TH S (ccT S h + (sd - f1 S h)) ft fz fl → (∀ j, j < 6 * a → fm' j = fm j) → (∀ g s, a ≤ g → g < h → s < S → f1 S g ≤ s + 1 → fm' (6 * g + s) = nI (nx S g s)) → (∀ s, s + 1 < sd → f1 S h ≤ s + 1 → fm' (6 * h + s) = nI (nx S h s)) → G yX2_addLargestDie cX2_addLargestDie 5 none (rmD 1) none Q 0 0 22 [.ref 5, .int (nI a), .int (nI (nh S i)), .int (nI h), .int (nI sd)] [] (hH hp D S (ccT S h + (sd - f1 S h)) w ft fz fl fm') n := by
          intro k2
          induction k2 with
          | zero =>
            intro sd ft fz fl fm' hk2 hsd hT m1 m2 m3
            have esd : sd = S + 1 := by omega
            subst esd
            have ec : ccT S h + (S + 1 - f1 S h) = ccT S (h + 1) := by omega
            rw [ec] at hT ⊢
            refine g_iload (pc' := 24) dX2_addLargestDie_22 rfl ?_
            refine g_aload_n (pc' := 25) dX2_addLargestDie_24 rfl rfl ?_
            refine g_get (pc' := 28) fl_X2_28 dX2_addLargestDie_25 (by omega) (by first | assumption | exact va_up_self _ _ _ | exact (va_up_ne _ _ (by first | decide | omega)).trans (by assumption) | exact (va_up_ne _ _ (by first | decide | omega)).trans (va_up_self _ _ _) | exact (va_up_ne _ _ (by first | decide | omega)).trans ((va_up_ne _ _ (by first | decide | omega)).trans (by assumption)) | exact (va_up_ne _ _ (by first | decide | omega)).trans ((va_up_ne _ _ (by first | decide | omega)).trans (va_up_self _ _ _)) | exact (va_up_ne _ _ (by first | decide | omega)).trans ((va_up_ne _ _ (by first | decide | omega)).trans ((va_up_ne _ _ (by first | decide | omega)).trans (by assumption))) | exact (va_up_ne _ _ (by first | decide | omega)).trans ((va_up_ne _ _ (by first | decide | omega)).trans ((va_up_ne _ _ (by first | decide | omega)).trans ((va_up_ne _ _ (by first | decide | omega)).trans (by assumption)))) | exact rfl) (by first | assumption | rfl | exact (List.getElem?_set_ne (by decide)).trans (by assumption) | exact List.getElem?_set_self (by omega)) ?_
            refine g_icmp_gtN (tgt := 124) (pc' := 31) dX2_addLargestDie_28 (by decide) (by first | omega | decide) (by first | omega | decide) (fun z2 => ?_) (fun z2 => ?_)
            · first | refine g_iincN (z := 1) (pc' := 127) dX2_addLargestDie_124 rfl rfl (by decide) ?_ | refine g_iinc (pc' := 127) dX2_addLargestDie_124 rfl rfl (by decide) ?_
              refine g_goto (tgt := 2) dX2_addLargestDie_127 (by decide) ?_
              refine g_fg (by repeat (first | exact trivial | refine ⟨Or.inr rfl, ?_⟩ | refine ⟨Or.inl rfl, ?_⟩)) (ih (h + 1) ft fz fl fm' (by omega) (by omega) hT m1 (fun g s q1 q2 q3 q4 => ?_))
              rcases Nat.lt_or_ge g h with q | q
              · exact m2 g s q1 q q3 q4
              · have e : g = h := by omega
                subst e
                exact m3 s (by omega) q4
            · omega
          | succ k2 ih2 =>
            intro sd ft fz fl fm' hk2 hsd hT m1 m2 m3
            obtain ⟨n1, n2⟩ := nx_new (s := sd - 1) h2 h6 hh5 (by omega) (by omega) (by omega)
            obtain ⟨n3, n4, n5, n6⟩ := nx_ok (s := sd - 1) h2 h6 (Nat.le_refl 5) hh5 (by omega) (by omega)
            rw [show sd - 1 + 1 = sd by omega] at n1 n2
            have hN5 := (nh_le h2 h6 (Nat.le_refl 5)).1
            have ewl : wlT S (nx S h (sd - 1)) = h := by
              obtain ⟨a1, a2, a3, a4, -⟩ := okW_at h2 h6 n4 (by omega)
              apply td_inj h2 h6 (by omega) hh5
              rw [a3, n2]
              omega
            refine g_iload (pc' := 24) dX2_addLargestDie_22 rfl ?_
            refine g_aload_n (pc' := 25) dX2_addLargestDie_24 rfl rfl ?_
            refine g_get (pc' := 28) fl_X2_28 dX2_addLargestDie_25 (by omega) (by first | assumption | exact va_up_self _ _ _ | exact (va_up_ne _ _ (by first | decide | omega)).trans (by assumption) | exact (va_up_ne _ _ (by first | decide | omega)).trans (va_up_self _ _ _) | exact (va_up_ne _ _ (by first | decide | omega)).trans ((va_up_ne _ _ (by first | decide | omega)).trans (by assumption)) | exact (va_up_ne _ _ (by first | decide | omega)).trans ((va_up_ne _ _ (by first | decide | omega)).trans (va_up_self _ _ _)) | exact (va_up_ne _ _ (by first | decide | omega)).trans ((va_up_ne _ _ (by first | decide | omega)).trans ((va_up_ne _ _ (by first | decide | omega)).trans (by assumption))) | exact (va_up_ne _ _ (by first | decide | omega)).trans ((va_up_ne _ _ (by first | decide | omega)).trans ((va_up_ne _ _ (by first | decide | omega)).trans ((va_up_ne _ _ (by first | decide | omega)).trans (by assumption)))) | exact rfl) (by first | assumption | rfl | exact (List.getElem?_set_ne (by decide)).trans (by assumption) | exact List.getElem?_set_self (by omega)) ?_
            refine g_icmp_gtN (tgt := 124) (pc' := 31) dX2_addLargestDie_28 (by decide) (by first | omega | decide) (by first | omega | decide) (fun z2 => ?_) (fun z2 => ?_)
            · omega
            · refine g_aload_n (pc' := 32) dX2_addLargestDie_31 rfl rfl ?_
              refine g_get (pc' := 35) fl_X2_31 dX2_addLargestDie_32 (by omega) (by first | assumption | exact va_up_self _ _ _ | exact (va_up_ne _ _ (by first | decide | omega)).trans (by assumption) | exact (va_up_ne _ _ (by first | decide | omega)).trans (va_up_self _ _ _) | exact (va_up_ne _ _ (by first | decide | omega)).trans ((va_up_ne _ _ (by first | decide | omega)).trans (by assumption)) | exact (va_up_ne _ _ (by first | decide | omega)).trans ((va_up_ne _ _ (by first | decide | omega)).trans (va_up_self _ _ _)) | exact (va_up_ne _ _ (by first | decide | omega)).trans ((va_up_ne _ _ (by first | decide | omega)).trans ((va_up_ne _ _ (by first | decide | omega)).trans (by assumption))) | exact (va_up_ne _ _ (by first | decide | omega)).trans ((va_up_ne _ _ (by first | decide | omega)).trans ((va_up_ne _ _ (by first | decide | omega)).trans ((va_up_ne _ _ (by first | decide | omega)).trans (by assumption)))) | exact rfl) (by first | assumption | rfl | exact (List.getElem?_set_ne (by decide)).trans (by assumption) | exact List.getElem?_set_self (by omega)) ?_
              refine g_sipush (pc' := 38) (v := nI 462) dX2_addLargestDie_35 (by decide) ?_
              refine g_icmp_ltN (tgt := 42) (pc' := 41) dX2_addLargestDie_38 (by decide) (by first | omega | decide) (by first | omega | decide) (fun z3 => ?_) (fun z3 => ?_)
              · refine g_aload_n (pc' := 43) dX2_addLargestDie_42 rfl rfl ?_
                refine g_get (pc' := 46) fl_X2_9 dX2_addLargestDie_43 (by omega) (by first | assumption | exact va_up_self _ _ _ | exact (va_up_ne _ _ (by first | decide | omega)).trans (by assumption) | exact (va_up_ne _ _ (by first | decide | omega)).trans (va_up_self _ _ _) | exact (va_up_ne _ _ (by first | decide | omega)).trans ((va_up_ne _ _ (by first | decide | omega)).trans (by assumption)) | exact (va_up_ne _ _ (by first | decide | omega)).trans ((va_up_ne _ _ (by first | decide | omega)).trans (va_up_self _ _ _)) | exact (va_up_ne _ _ (by first | decide | omega)).trans ((va_up_ne _ _ (by first | decide | omega)).trans ((va_up_ne _ _ (by first | decide | omega)).trans (by assumption))) | exact (va_up_ne _ _ (by first | decide | omega)).trans ((va_up_ne _ _ (by first | decide | omega)).trans ((va_up_ne _ _ (by first | decide | omega)).trans ((va_up_ne _ _ (by first | decide | omega)).trans (by assumption)))) | exact rfl) (by first | assumption | rfl | exact (List.getElem?_set_ne (by decide)).trans (by assumption) | exact List.getElem?_set_self (by omega)) ?_
                refine g_aload_n (pc' := 47) dX2_addLargestDie_46 rfl rfl ?_
                refine g_get (pc' := 50) fl_X2_31 dX2_addLargestDie_47 (by omega) (by first | assumption | exact va_up_self _ _ _ | exact (va_up_ne _ _ (by first | decide | omega)).trans (by assumption) | exact (va_up_ne _ _ (by first | decide | omega)).trans (va_up_self _ _ _) | exact (va_up_ne _ _ (by first | decide | omega)).trans ((va_up_ne _ _ (by first | decide | omega)).trans (by assumption)) | exact (va_up_ne _ _ (by first | decide | omega)).trans ((va_up_ne _ _ (by first | decide | omega)).trans (va_up_self _ _ _)) | exact (va_up_ne _ _ (by first | decide | omega)).trans ((va_up_ne _ _ (by first | decide | omega)).trans ((va_up_ne _ _ (by first | decide | omega)).trans (by assumption))) | exact (va_up_ne _ _ (by first | decide | omega)).trans ((va_up_ne _ _ (by first | decide | omega)).trans ((va_up_ne _ _ (by first | decide | omega)).trans ((va_up_ne _ _ (by first | decide | omega)).trans (by assumption)))) | exact rfl) (by first | assumption | rfl | exact (List.getElem?_set_ne (by decide)).trans (by assumption) | exact List.getElem?_set_self (by omega)) ?_
                refine g_aload_n (pc' := 51) dX2_addLargestDie_50 rfl rfl ?_
                refine g_get (pc' := 54) fl_X2_9 dX2_addLargestDie_51 (by omega) (by first | assumption | exact va_up_self _ _ _ | exact (va_up_ne _ _ (by first | decide | omega)).trans (by assumption) | exact (va_up_ne _ _ (by first | decide | omega)).trans (va_up_self _ _ _) | exact (va_up_ne _ _ (by first | decide | omega)).trans ((va_up_ne _ _ (by first | decide | omega)).trans (by assumption)) | exact (va_up_ne _ _ (by first | decide | omega)).trans ((va_up_ne _ _ (by first | decide | omega)).trans (va_up_self _ _ _)) | exact (va_up_ne _ _ (by first | decide | omega)).trans ((va_up_ne _ _ (by first | decide | omega)).trans ((va_up_ne _ _ (by first | decide | omega)).trans (by assumption))) | exact (va_up_ne _ _ (by first | decide | omega)).trans ((va_up_ne _ _ (by first | decide | omega)).trans ((va_up_ne _ _ (by first | decide | omega)).trans ((va_up_ne _ _ (by first | decide | omega)).trans (by assumption)))) | exact rfl) (by first | assumption | rfl | exact (List.getElem?_set_ne (by decide)).trans (by assumption) | exact List.getElem?_set_self (by omega)) ?_
                refine g_iload_n (pc' := 55) dX2_addLargestDie_54 rfl rfl ?_
                refine g_ialdV (pc' := 56) dX2_addLargestDie_55 (by omega) (by first | assumption | exact va_up_self _ _ _ | exact (va_up_ne _ _ (by first | decide | omega)).trans (by assumption) | exact (va_up_ne _ _ (by first | decide | omega)).trans (va_up_self _ _ _) | exact (va_up_ne _ _ (by first | decide | omega)).trans ((va_up_ne _ _ (by first | decide | omega)).trans (by assumption)) | exact (va_up_ne _ _ (by first | decide | omega)).trans ((va_up_ne _ _ (by first | decide | omega)).trans (va_up_self _ _ _)) | exact (va_up_ne _ _ (by first | decide | omega)).trans ((va_up_ne _ _ (by first | decide | omega)).trans ((va_up_ne _ _ (by first | decide | omega)).trans (by assumption))) | exact (va_up_ne _ _ (by first | decide | omega)).trans ((va_up_ne _ _ (by first | decide | omega)).trans ((va_up_ne _ _ (by first | decide | omega)).trans ((va_up_ne _ _ (by first | decide | omega)).trans (by assumption)))) | exact rfl) ((IX_nI (by omega) (by omega))) (hT.1 _ (by omega)) ?_
                refine g_bipush (pc' := 58) (v := nI 10) dX2_addLargestDie_56 (by decide) ?_
                first | refine g_imulN (pc' := 59) dX2_addLargestDie_58 ?_ | refine g_imul (pc' := 59) dX2_addLargestDie_58 ?_
                refine g_iload (pc' := 61) dX2_addLargestDie_59 rfl ?_
                first | refine g_iaddN (pc' := 62) dX2_addLargestDie_61 ?_ | refine g_iadd (pc' := 62) dX2_addLargestDie_61 ?_
                refine g_iast (pc' := 63) dX2_addLargestDie_62 (by omega) (by first | assumption | exact va_up_self _ _ _ | exact (va_up_ne _ _ (by first | decide | omega)).trans (by assumption) | exact (va_up_ne _ _ (by first | decide | omega)).trans (va_up_self _ _ _) | exact (va_up_ne _ _ (by first | decide | omega)).trans ((va_up_ne _ _ (by first | decide | omega)).trans (by assumption)) | exact (va_up_ne _ _ (by first | decide | omega)).trans ((va_up_ne _ _ (by first | decide | omega)).trans (va_up_self _ _ _)) | exact (va_up_ne _ _ (by first | decide | omega)).trans ((va_up_ne _ _ (by first | decide | omega)).trans ((va_up_ne _ _ (by first | decide | omega)).trans (by assumption))) | exact (va_up_ne _ _ (by first | decide | omega)).trans ((va_up_ne _ _ (by first | decide | omega)).trans ((va_up_ne _ _ (by first | decide | omega)).trans ((va_up_ne _ _ (by first | decide | omega)).trans (by assumption)))) | exact rfl) ((IX_nI (by omega) (by omega))) ?_
                rw [hH_6]
                refine g_aload_n (pc' := 64) dX2_addLargestDie_63 rfl rfl ?_
                refine g_get (pc' := 67) fl_X2_15 dX2_addLargestDie_64 (by omega) (by first | assumption | exact va_up_self _ _ _ | exact (va_up_ne _ _ (by first | decide | omega)).trans (by assumption) | exact (va_up_ne _ _ (by first | decide | omega)).trans (va_up_self _ _ _) | exact (va_up_ne _ _ (by first | decide | omega)).trans ((va_up_ne _ _ (by first | decide | omega)).trans (by assumption)) | exact (va_up_ne _ _ (by first | decide | omega)).trans ((va_up_ne _ _ (by first | decide | omega)).trans (va_up_self _ _ _)) | exact (va_up_ne _ _ (by first | decide | omega)).trans ((va_up_ne _ _ (by first | decide | omega)).trans ((va_up_ne _ _ (by first | decide | omega)).trans (by assumption))) | exact (va_up_ne _ _ (by first | decide | omega)).trans ((va_up_ne _ _ (by first | decide | omega)).trans ((va_up_ne _ _ (by first | decide | omega)).trans ((va_up_ne _ _ (by first | decide | omega)).trans (by assumption)))) | exact rfl) (by first | assumption | rfl | exact (List.getElem?_set_ne (by decide)).trans (by assumption) | exact List.getElem?_set_self (by omega)) ?_
                refine g_aload_n (pc' := 68) dX2_addLargestDie_67 rfl rfl ?_
                refine g_get (pc' := 71) fl_X2_31 dX2_addLargestDie_68 (by omega) (by first | assumption | exact va_up_self _ _ _ | exact (va_up_ne _ _ (by first | decide | omega)).trans (by assumption) | exact (va_up_ne _ _ (by first | decide | omega)).trans (va_up_self _ _ _) | exact (va_up_ne _ _ (by first | decide | omega)).trans ((va_up_ne _ _ (by first | decide | omega)).trans (by assumption)) | exact (va_up_ne _ _ (by first | decide | omega)).trans ((va_up_ne _ _ (by first | decide | omega)).trans (va_up_self _ _ _)) | exact (va_up_ne _ _ (by first | decide | omega)).trans ((va_up_ne _ _ (by first | decide | omega)).trans ((va_up_ne _ _ (by first | decide | omega)).trans (by assumption))) | exact (va_up_ne _ _ (by first | decide | omega)).trans ((va_up_ne _ _ (by first | decide | omega)).trans ((va_up_ne _ _ (by first | decide | omega)).trans ((va_up_ne _ _ (by first | decide | omega)).trans (by assumption)))) | exact rfl) (by first | assumption | rfl | exact (List.getElem?_set_ne (by decide)).trans (by assumption) | exact List.getElem?_set_self (by omega)) ?_
                refine g_aload_n (pc' := 72) dX2_addLargestDie_71 rfl rfl ?_
                refine g_get (pc' := 75) fl_X2_15 dX2_addLargestDie_72 (by omega) (by first | assumption | exact va_up_self _ _ _ | exact (va_up_ne _ _ (by first | decide | omega)).trans (by assumption) | exact (va_up_ne _ _ (by first | decide | omega)).trans (va_up_self _ _ _) | exact (va_up_ne _ _ (by first | decide | omega)).trans ((va_up_ne _ _ (by first | decide | omega)).trans (by assumption)) | exact (va_up_ne _ _ (by first | decide | omega)).trans ((va_up_ne _ _ (by first | decide | omega)).trans (va_up_self _ _ _)) | exact (va_up_ne _ _ (by first | decide | omega)).trans ((va_up_ne _ _ (by first | decide | omega)).trans ((va_up_ne _ _ (by first | decide | omega)).trans (by assumption))) | exact (va_up_ne _ _ (by first | decide | omega)).trans ((va_up_ne _ _ (by first | decide | omega)).trans ((va_up_ne _ _ (by first | decide | omega)).trans ((va_up_ne _ _ (by first | decide | omega)).trans (by assumption)))) | exact rfl) (by first | assumption | rfl | exact (List.getElem?_set_ne (by decide)).trans (by assumption) | exact List.getElem?_set_self (by omega)) ?_
                refine g_iload_n (pc' := 76) dX2_addLargestDie_75 rfl rfl ?_
                refine g_ialdV (pc' := 77) dX2_addLargestDie_76 (by omega) (by first | assumption | exact va_up_self _ _ _ | exact (va_up_ne _ _ (by first | decide | omega)).trans (by assumption) | exact (va_up_ne _ _ (by first | decide | omega)).trans (va_up_self _ _ _) | exact (va_up_ne _ _ (by first | decide | omega)).trans ((va_up_ne _ _ (by first | decide | omega)).trans (by assumption)) | exact (va_up_ne _ _ (by first | decide | omega)).trans ((va_up_ne _ _ (by first | decide | omega)).trans (va_up_self _ _ _)) | exact (va_up_ne _ _ (by first | decide | omega)).trans ((va_up_ne _ _ (by first | decide | omega)).trans ((va_up_ne _ _ (by first | decide | omega)).trans (by assumption))) | exact (va_up_ne _ _ (by first | decide | omega)).trans ((va_up_ne _ _ (by first | decide | omega)).trans ((va_up_ne _ _ (by first | decide | omega)).trans ((va_up_ne _ _ (by first | decide | omega)).trans (by assumption)))) | exact rfl) ((IX_nI (by omega) (by omega))) (hT.2.1 _ (by omega)) ?_
                refine g_iconst (pc' := 78) (v := nI 1) dX2_addLargestDie_77 (by decide) ?_
                first | refine g_iaddN (pc' := 79) dX2_addLargestDie_78 ?_ | refine g_iadd (pc' := 79) dX2_addLargestDie_78 ?_
                refine g_iast (pc' := 80) dX2_addLargestDie_79 (by omega) (by first | assumption | exact va_up_self _ _ _ | exact (va_up_ne _ _ (by first | decide | omega)).trans (by assumption) | exact (va_up_ne _ _ (by first | decide | omega)).trans (va_up_self _ _ _) | exact (va_up_ne _ _ (by first | decide | omega)).trans ((va_up_ne _ _ (by first | decide | omega)).trans (by assumption)) | exact (va_up_ne _ _ (by first | decide | omega)).trans ((va_up_ne _ _ (by first | decide | omega)).trans (va_up_self _ _ _)) | exact (va_up_ne _ _ (by first | decide | omega)).trans ((va_up_ne _ _ (by first | decide | omega)).trans ((va_up_ne _ _ (by first | decide | omega)).trans (by assumption))) | exact (va_up_ne _ _ (by first | decide | omega)).trans ((va_up_ne _ _ (by first | decide | omega)).trans ((va_up_ne _ _ (by first | decide | omega)).trans ((va_up_ne _ _ (by first | decide | omega)).trans (by assumption)))) | exact rfl) ((IX_nI (by omega) (by omega))) ?_
                rw [hH_7]
                refine g_aload_n (pc' := 81) dX2_addLargestDie_80 rfl rfl ?_
                refine g_get (pc' := 84) fl_X2_18 dX2_addLargestDie_81 (by omega) (by first | assumption | exact va_up_self _ _ _ | exact (va_up_ne _ _ (by first | decide | omega)).trans (by assumption) | exact (va_up_ne _ _ (by first | decide | omega)).trans (va_up_self _ _ _) | exact (va_up_ne _ _ (by first | decide | omega)).trans ((va_up_ne _ _ (by first | decide | omega)).trans (by assumption)) | exact (va_up_ne _ _ (by first | decide | omega)).trans ((va_up_ne _ _ (by first | decide | omega)).trans (va_up_self _ _ _)) | exact (va_up_ne _ _ (by first | decide | omega)).trans ((va_up_ne _ _ (by first | decide | omega)).trans ((va_up_ne _ _ (by first | decide | omega)).trans (by assumption))) | exact (va_up_ne _ _ (by first | decide | omega)).trans ((va_up_ne _ _ (by first | decide | omega)).trans ((va_up_ne _ _ (by first | decide | omega)).trans ((va_up_ne _ _ (by first | decide | omega)).trans (by assumption)))) | exact rfl) (by first | assumption | rfl | exact (List.getElem?_set_ne (by decide)).trans (by assumption) | exact List.getElem?_set_self (by omega)) ?_
                refine g_aload_n (pc' := 85) dX2_addLargestDie_84 rfl rfl ?_
                refine g_get (pc' := 88) fl_X2_31 dX2_addLargestDie_85 (by omega) (by first | assumption | exact va_up_self _ _ _ | exact (va_up_ne _ _ (by first | decide | omega)).trans (by assumption) | exact (va_up_ne _ _ (by first | decide | omega)).trans (va_up_self _ _ _) | exact (va_up_ne _ _ (by first | decide | omega)).trans ((va_up_ne _ _ (by first | decide | omega)).trans (by assumption)) | exact (va_up_ne _ _ (by first | decide | omega)).trans ((va_up_ne _ _ (by first | decide | omega)).trans (va_up_self _ _ _)) | exact (va_up_ne _ _ (by first | decide | omega)).trans ((va_up_ne _ _ (by first | decide | omega)).trans ((va_up_ne _ _ (by first | decide | omega)).trans (by assumption))) | exact (va_up_ne _ _ (by first | decide | omega)).trans ((va_up_ne _ _ (by first | decide | omega)).trans ((va_up_ne _ _ (by first | decide | omega)).trans ((va_up_ne _ _ (by first | decide | omega)).trans (by assumption)))) | exact rfl) (by first | assumption | rfl | exact (List.getElem?_set_ne (by decide)).trans (by assumption) | exact List.getElem?_set_self (by omega)) ?_
                refine g_iload_n (pc' := 89) dX2_addLargestDie_88 rfl rfl ?_
                refine g_iast (pc' := 90) dX2_addLargestDie_89 (by omega) (by first | assumption | exact va_up_self _ _ _ | exact (va_up_ne _ _ (by first | decide | omega)).trans (by assumption) | exact (va_up_ne _ _ (by first | decide | omega)).trans (va_up_self _ _ _) | exact (va_up_ne _ _ (by first | decide | omega)).trans ((va_up_ne _ _ (by first | decide | omega)).trans (by assumption)) | exact (va_up_ne _ _ (by first | decide | omega)).trans ((va_up_ne _ _ (by first | decide | omega)).trans (va_up_self _ _ _)) | exact (va_up_ne _ _ (by first | decide | omega)).trans ((va_up_ne _ _ (by first | decide | omega)).trans ((va_up_ne _ _ (by first | decide | omega)).trans (by assumption))) | exact (va_up_ne _ _ (by first | decide | omega)).trans ((va_up_ne _ _ (by first | decide | omega)).trans ((va_up_ne _ _ (by first | decide | omega)).trans ((va_up_ne _ _ (by first | decide | omega)).trans (by assumption)))) | exact rfl) ((IX_nI (by omega) (by omega))) ?_
                rw [hH_8]
                refine g_aload_n (pc' := 91) dX2_addLargestDie_90 rfl rfl ?_
                refine g_get (pc' := 94) fl_X2_21 dX2_addLargestDie_91 (by omega) (by first | assumption | exact va_up_self _ _ _ | exact (va_up_ne _ _ (by first | decide | omega)).trans (by assumption) | exact (va_up_ne _ _ (by first | decide | omega)).trans (va_up_self _ _ _) | exact (va_up_ne _ _ (by first | decide | omega)).trans ((va_up_ne _ _ (by first | decide | omega)).trans (by assumption)) | exact (va_up_ne _ _ (by first | decide | omega)).trans ((va_up_ne _ _ (by first | decide | omega)).trans (va_up_self _ _ _)) | exact (va_up_ne _ _ (by first | decide | omega)).trans ((va_up_ne _ _ (by first | decide | omega)).trans ((va_up_ne _ _ (by first | decide | omega)).trans (by assumption))) | exact (va_up_ne _ _ (by first | decide | omega)).trans ((va_up_ne _ _ (by first | decide | omega)).trans ((va_up_ne _ _ (by first | decide | omega)).trans ((va_up_ne _ _ (by first | decide | omega)).trans (by assumption)))) | exact rfl) (by first | assumption | rfl | exact (List.getElem?_set_ne (by decide)).trans (by assumption) | exact List.getElem?_set_self (by omega)) ?_
                refine g_iload_n (pc' := 95) dX2_addLargestDie_94 rfl rfl ?_
                refine g_bipush (pc' := 97) (v := nI 6) dX2_addLargestDie_95 (by decide) ?_
                first | refine g_imulN (pc' := 98) dX2_addLargestDie_97 ?_ | refine g_imul (pc' := 98) dX2_addLargestDie_97 ?_
                refine g_iload (pc' := 100) dX2_addLargestDie_98 rfl ?_
                first | refine g_iaddN (pc' := 101) dX2_addLargestDie_100 ?_ | refine g_iadd (pc' := 101) dX2_addLargestDie_100 ?_
                refine g_iconst (pc' := 102) (v := nI 1) dX2_addLargestDie_101 (by decide) ?_
                first | refine g_isubN (pc' := 103) dX2_addLargestDie_102 (by omega) ?_ | refine g_isub (pc' := 103) dX2_addLargestDie_102 ?_
                refine g_aload_n (pc' := 104) dX2_addLargestDie_103 rfl rfl ?_
                refine g_get (pc' := 107) fl_X2_31 dX2_addLargestDie_104 (by omega) (by first | assumption | exact va_up_self _ _ _ | exact (va_up_ne _ _ (by first | decide | omega)).trans (by assumption) | exact (va_up_ne _ _ (by first | decide | omega)).trans (va_up_self _ _ _) | exact (va_up_ne _ _ (by first | decide | omega)).trans ((va_up_ne _ _ (by first | decide | omega)).trans (by assumption)) | exact (va_up_ne _ _ (by first | decide | omega)).trans ((va_up_ne _ _ (by first | decide | omega)).trans (va_up_self _ _ _)) | exact (va_up_ne _ _ (by first | decide | omega)).trans ((va_up_ne _ _ (by first | decide | omega)).trans ((va_up_ne _ _ (by first | decide | omega)).trans (by assumption))) | exact (va_up_ne _ _ (by first | decide | omega)).trans ((va_up_ne _ _ (by first | decide | omega)).trans ((va_up_ne _ _ (by first | decide | omega)).trans ((va_up_ne _ _ (by first | decide | omega)).trans (by assumption)))) | exact rfl) (by first | assumption | rfl | exact (List.getElem?_set_ne (by decide)).trans (by assumption) | exact List.getElem?_set_self (by omega)) ?_
                refine g_iast (pc' := 108) dX2_addLargestDie_107 (by omega) (by first | assumption | exact va_up_self _ _ _ | exact (va_up_ne _ _ (by first | decide | omega)).trans (by assumption) | exact (va_up_ne _ _ (by first | decide | omega)).trans (va_up_self _ _ _) | exact (va_up_ne _ _ (by first | decide | omega)).trans ((va_up_ne _ _ (by first | decide | omega)).trans (by assumption)) | exact (va_up_ne _ _ (by first | decide | omega)).trans ((va_up_ne _ _ (by first | decide | omega)).trans (va_up_self _ _ _)) | exact (va_up_ne _ _ (by first | decide | omega)).trans ((va_up_ne _ _ (by first | decide | omega)).trans ((va_up_ne _ _ (by first | decide | omega)).trans (by assumption))) | exact (va_up_ne _ _ (by first | decide | omega)).trans ((va_up_ne _ _ (by first | decide | omega)).trans ((va_up_ne _ _ (by first | decide | omega)).trans ((va_up_ne _ _ (by first | decide | omega)).trans (by assumption)))) | exact rfl) ((IX_nI (by omega) (by omega))) ?_
                rw [hH_9]
                refine g_aload_n (pc' := 109) dX2_addLargestDie_108 rfl rfl ?_
                refine g_dup (pc' := 110) dX2_addLargestDie_109 rfl ?_
                refine g_get (pc' := 113) fl_X2_31 dX2_addLargestDie_110 (by omega) (by first | assumption | exact va_up_self _ _ _ | exact (va_up_ne _ _ (by first | decide | omega)).trans (by assumption) | exact (va_up_ne _ _ (by first | decide | omega)).trans (va_up_self _ _ _) | exact (va_up_ne _ _ (by first | decide | omega)).trans ((va_up_ne _ _ (by first | decide | omega)).trans (by assumption)) | exact (va_up_ne _ _ (by first | decide | omega)).trans ((va_up_ne _ _ (by first | decide | omega)).trans (va_up_self _ _ _)) | exact (va_up_ne _ _ (by first | decide | omega)).trans ((va_up_ne _ _ (by first | decide | omega)).trans ((va_up_ne _ _ (by first | decide | omega)).trans (by assumption))) | exact (va_up_ne _ _ (by first | decide | omega)).trans ((va_up_ne _ _ (by first | decide | omega)).trans ((va_up_ne _ _ (by first | decide | omega)).trans ((va_up_ne _ _ (by first | decide | omega)).trans (by assumption)))) | exact rfl) (by first | assumption | rfl | exact (List.getElem?_set_ne (by decide)).trans (by assumption) | exact List.getElem?_set_self (by omega)) ?_
                refine g_iconst (pc' := 114) (v := nI 1) dX2_addLargestDie_113 (by decide) ?_
                first | refine g_iaddN (pc' := 115) dX2_addLargestDie_114 ?_ | refine g_iadd (pc' := 115) dX2_addLargestDie_114 ?_
                refine g_put (pc' := 118) fl_X2_31 ft_2_6 dX2_addLargestDie_115 (by omega) (by first | assumption | exact va_up_self _ _ _ | exact (va_up_ne _ _ (by first | decide | omega)).trans (by assumption) | exact (va_up_ne _ _ (by first | decide | omega)).trans (va_up_self _ _ _) | exact (va_up_ne _ _ (by first | decide | omega)).trans ((va_up_ne _ _ (by first | decide | omega)).trans (by assumption)) | exact (va_up_ne _ _ (by first | decide | omega)).trans ((va_up_ne _ _ (by first | decide | omega)).trans (va_up_self _ _ _)) | exact (va_up_ne _ _ (by first | decide | omega)).trans ((va_up_ne _ _ (by first | decide | omega)).trans ((va_up_ne _ _ (by first | decide | omega)).trans (by assumption))) | exact (va_up_ne _ _ (by first | decide | omega)).trans ((va_up_ne _ _ (by first | decide | omega)).trans ((va_up_ne _ _ (by first | decide | omega)).trans ((va_up_ne _ _ (by first | decide | omega)).trans (by assumption)))) | exact rfl) (by first | exact Nat.le_of_ble_eq_true rfl | omega | (simp only [List.length_set]; omega)) rfl rfl ?_
                rw [hH_c]
                first | refine g_iincN (z := 1) (pc' := 121) dX2_addLargestDie_118 rfl rfl (by decide) ?_ | refine g_iinc (pc' := 121) dX2_addLargestDie_118 rfl rfl (by decide) ?_
                refine g_goto (tgt := 22) dX2_addLargestDie_121 (by decide) ?_
                have nxt := ih2 (sd + 1) (upd ft (ccT S h + (sd - f1 S h)) (nI (td S h * 10 + sd))) (upd fz (ccT S h + (sd - f1 S h)) (nI (sz S h + 1))) (upd fl (ccT S h + (sd - f1 S h)) (nI h)) (upd fm' (h * 6 + sd - 1) (nI (ccT S h + (sd - f1 S h)))) (by omega) (by omega) ⟨fun g q => ?_, fun g q => ?_, fun g q0 q => ?_⟩ (fun j q => ?_) (fun g s q1 q2 q3 q4 => ?_) (fun s q1 q2 => ?_)
                · rw [show ccT S h + (sd + 1 - f1 S h) = ccT S h + (sd - f1 S h) + 1 by omega] at nxt
                  exact nxt
                · by_cases e : g = ccT S h + (sd - f1 S h)
                  · rw [e, pk_us, ← n1, n2]
                  · rw [pk_un e]; exact hT.1 g (by omega)
                · by_cases e : g = ccT S h + (sd - f1 S h)
                  · rw [e, pk_us, ← n1, n5]
                  · rw [pk_un e]; exact hT.2.1 g (by omega)
                · by_cases e : g = ccT S h + (sd - f1 S h)
                  · rw [e, pk_us, ← n1, ewl]
                  · rw [pk_un e]; exact hT.2.2 g q0 (by omega)
                · rw [pk_un (by omega)]; exact m1 j q
                · rw [pk_un (by omega)]; exact m2 g s q1 q2 q3 q4
                · by_cases e : s + 1 = sd
                  · have e2 : s = sd - 1 := by omega
                    rw [show 6 * h + s = h * 6 + sd - 1 by omega, pk_us, e2, n1]
                  · rw [pk_un (by omega)]; exact m3 s (by omega) q2
              · omega
        have := inner (S + 1 - f1 S h) (f1 S h) ft fz fl fm' (by omega) (Nat.le_refl _) (by rw [Nat.sub_self]; exact hT) m1 m2 (fun s q1 q2 => by omega)
        rw [Nat.sub_self] at this
        exact this
  have := outer (nh S i - a) a ft fz fl fm (by omega) (Nat.le_refl _) (by rw [hca]; exact hT) (fun _ _ => rfl) (fun g s q1 q2 => by omega)
  rw [hca] at this
  exact this
