/-! THE CLASS: Turn, its parts -/
theorem argF_max {p : Nat → Bool} {f : Nat → Nat} {i j : Nat} (h : argF p f i = some j) : j < i ∧ p j = true ∧ mxF (fun r => if p r then f r else 0) i = f j := by
  have := argF_spec p f i
  rw [h] at this
  exact this
theorem argF_first {p : Nat → Bool} {f : Nat → Nat} : ∀ {i j : Nat}, argF p f i = some j → ∀ r, r < j → p r = true → f r < f j
  | 0, j, h => by cases h
  | i + 1, j, h => by
    intro r hr hp
    have sp := argF_spec p f i
    unfold argF at h
    cases ha : argF p f i with
    | none =>
      rw [ha] at h sp
      simp only at h sp
      by_cases c : p i = true
      · rw [if_pos c] at h
        cases h
        rw [sp.1 r hr] at hp
        cases hp
      · rw [if_neg c] at h
        cases h
    | some j0 =>
      rw [ha] at h sp
      simp only at h sp
      by_cases c : (p i && decide (f j0 < f i)) = true
      · rw [if_pos c] at h
        cases h
        rw [Bool.and_eq_true, decide_eq_true_eq] at c
        have := mxF_ge (f := fun r => if p r then f r else 0) hr
        simp only [hp, if_true] at this
        omega
      · rw [if_neg c] at h
        cases h
        exact argF_first ha r hr hp
theorem pt_le {S : Nat} (h2 : 2 ≤ S) (h6 : S ≤ 6) {g : Nat} (hg : g < nh S 5) : ∀ m h, h ≤ m → h < nh S 5 → pt S g h → g ≤ h := by
  intro m
  induction m with
  | zero =>
    intro h hm hh hp
    by_cases e : g = h
    · omega
    · obtain ⟨p, s, -, q, -⟩ := pt_down h2 h6 hg hh hp e
      omega
  | succ m ih =>
    intro h hm hh hp
    by_cases e : g = h
    · omega
    · obtain ⟨p, s, -, q, -, -, q5⟩ := pt_down h2 h6 hg hh hp e
      have := ih p (by omega) (by omega) q5
      omega
section BS
variable {D S : Nat} {val : Nat → Nat}
theorem hv_le_bst {g h : Nat} (hg : g < nh S D) (hp : pt S g h) : hv D S val g ≤ bst D S val h := by
  have := mxF_ge (f := fun g => if ptb S g h then hv D S val g else 0) hg
  simp only [ptb_iff.mpr hp, if_true] at this
  exact this
theorem bst_le_of {h M : Nat} (hM : ∀ g, g < nh S D → pt S g h → hv D S val g ≤ M) : bst D S val h ≤ M := by
  unfold bst
  apply mxF_le
  intro g hg
  cases hp : ptb S g h with
  | false => exact Nat.zero_le _
  | true => exact hM g hg (ptb_iff.mp hp)
theorem bst_mono {p h : Nat} (hp : pt S p h) : bst D S val p ≤ bst D S val h := bst_le_of (fun _ hg q => hv_le_bst hg (pt_tr q hp))
theorem bst_pred (h2 : 2 ≤ S) (h6 : S ≤ 6) (hD : D ≤ 5) {h v : Nat} (hh : h < nh S D) (h0 : hv D S val h ≤ v) (h1 : ∀ p s, p < h → s < S → nx S p s = h → sz S p < D → bst D S val p ≤ v) : bst D S val h ≤ v := by
  have h5 := nh_mono h2 h6 hD (Nat.le_refl 5)
  refine bst_le_of (fun g hg q => ?_)
  by_cases e : g = h
  · rw [e]; exact h0
  · obtain ⟨p, s, a1, a2, a3, a4, a5⟩ := pt_down h2 h6 (show g < nh S 5 by omega) (by omega) q e
    have := sz_of h2 h6 hD hh
    exact Nat.le_trans (hv_le_bst hg a5) (h1 p s a2 a1 a3 (by omega))
end BS
theorem c_throwOthers {hp : AH} {n a b c D S : Nat} {v1 v2 v3 v4 v5 u4 u5 : Value} {fb fc : Nat → Int64} {val : Nat → Nat} {Q : Option Value → AH → Nat → Prop} (hn : 64 ≤ n) (h2 : 2 ≤ S) (h6 : S ≤ 6) (hD1 : 1 ≤ D) (hD : D ≤ 5) (ha : 13 ≤ a ∧ a < 64) (hb : 13 ≤ b ∧ b < 64) (hc : 13 ≤ c ∧ c < 64) (hac : a ≠ c) (hbc : b ≠ c) (ca : hp a = ob 5 [.ref 4, v1, v2]) (c4 : hp 4 = ob 1 [.ref 5, v3, v4, v5, u4, u5]) (hT : HT hp D S) (cb : hp b = aJ 462 fb) (cc : hp c = aJ 462 fc) (hval : ∀ h, h < nh S D → sz S h = D → fb h = lN (val h))
    (hq : ∀ f' : Nat → Int64, (∀ h, h < nh S D → f' h = lN (th D S val h)) → Q none (va_up hp c (aJ 462 f')) n) : CT yX5_throwOthers cX5_throwOthers 9 none (rmD 1) [.ref a, .ref b, .ref c] hp n Q := by
  obtain ⟨ft, fz, fl, fm, c5, c6, c7, c8, c9, hTH, hTM⟩ := id hT
  obtain ⟨hN, hN1⟩ := nh_le h2 h6 hD
  obtain ⟨hM, hM1⟩ := nh_le h2 h6 (show D - 1 ≤ 5 by omega)
  have hwa := wh_add h2 h6 hD
  show G yX5_throwOthers cX5_throwOthers 9 none (rmD 1) none Q 0 0 0 [.ref a, .ref b, .ref c, uu, uu, uu, uu, uu, uu] [] hp n
  refine g_aload_n (pc' := 1) dX5_throwOthers_0 rfl rfl ?_
  refine g_get (pc' := 4) fl_X5_19 dX5_throwOthers_1 (by omega) (by first | assumption | exact va_up_self _ _ _ | exact (va_up_ne _ _ (by first | decide | omega)).trans (by assumption) | exact (va_up_ne _ _ (by first | decide | omega)).trans (va_up_self _ _ _) | exact (va_up_ne _ _ (by first | decide | omega)).trans ((va_up_ne _ _ (by first | decide | omega)).trans (by assumption)) | exact (va_up_ne _ _ (by first | decide | omega)).trans ((va_up_ne _ _ (by first | decide | omega)).trans (va_up_self _ _ _)) | exact (va_up_ne _ _ (by first | decide | omega)).trans ((va_up_ne _ _ (by first | decide | omega)).trans ((va_up_ne _ _ (by first | decide | omega)).trans (by assumption))) | exact (va_up_ne _ _ (by first | decide | omega)).trans ((va_up_ne _ _ (by first | decide | omega)).trans ((va_up_ne _ _ (by first | decide | omega)).trans ((va_up_ne _ _ (by first | decide | omega)).trans (by assumption)))) | exact rfl) (by first | assumption | rfl | exact (List.getElem?_set_ne (by decide)).trans (by assumption) | exact List.getElem?_set_self (by omega)) ?_
  refine g_getN (pc' := 7) fn_X5_34 dX5_throwOthers_4 (by omega) (by first | assumption | exact va_up_self _ _ _ | exact (va_up_ne _ _ (by first | decide | omega)).trans (by assumption) | exact (va_up_ne _ _ (by first | decide | omega)).trans (va_up_self _ _ _) | exact (va_up_ne _ _ (by first | decide | omega)).trans ((va_up_ne _ _ (by first | decide | omega)).trans (by assumption)) | exact (va_up_ne _ _ (by first | decide | omega)).trans ((va_up_ne _ _ (by first | decide | omega)).trans (va_up_self _ _ _)) | exact (va_up_ne _ _ (by first | decide | omega)).trans ((va_up_ne _ _ (by first | decide | omega)).trans ((va_up_ne _ _ (by first | decide | omega)).trans (by assumption))) | exact (va_up_ne _ _ (by first | decide | omega)).trans ((va_up_ne _ _ (by first | decide | omega)).trans ((va_up_ne _ _ (by first | decide | omega)).trans ((va_up_ne _ _ (by first | decide | omega)).trans (by assumption)))) | exact rfl) (by first | assumption | rfl | exact (List.getElem?_set_ne (by decide)).trans (by assumption) | exact List.getElem?_set_self (by omega)) ?_
  refine g_astore_n (pc' := 8) dX5_throwOthers_7 rfl (by decide) ?_
  refine g_aload_n (pc' := 9) dX5_throwOthers_8 rfl rfl ?_
  refine g_aload_n (pc' := 10) dX5_throwOthers_9 rfl rfl ?_
  refine g_getN (pc' := 13) fn_X5_65 dX5_throwOthers_10 (by omega) (by first | assumption | exact va_up_self _ _ _ | exact (va_up_ne _ _ (by first | decide | omega)).trans (by assumption) | exact (va_up_ne _ _ (by first | decide | omega)).trans (va_up_self _ _ _) | exact (va_up_ne _ _ (by first | decide | omega)).trans ((va_up_ne _ _ (by first | decide | omega)).trans (by assumption)) | exact (va_up_ne _ _ (by first | decide | omega)).trans ((va_up_ne _ _ (by first | decide | omega)).trans (va_up_self _ _ _)) | exact (va_up_ne _ _ (by first | decide | omega)).trans ((va_up_ne _ _ (by first | decide | omega)).trans ((va_up_ne _ _ (by first | decide | omega)).trans (by assumption))) | exact (va_up_ne _ _ (by first | decide | omega)).trans ((va_up_ne _ _ (by first | decide | omega)).trans ((va_up_ne _ _ (by first | decide | omega)).trans ((va_up_ne _ _ (by first | decide | omega)).trans (by assumption)))) | exact rfl) (by first | assumption | rfl | exact (List.getElem?_set_ne (by decide)).trans (by assumption) | exact List.getElem?_set_self (by omega)) ?_
  refine g_aload_n (pc' := 14) dX5_throwOthers_13 rfl rfl ?_
  refine g_aload_n (pc' := 15) dX5_throwOthers_14 rfl rfl ?_
  refine g_getN (pc' := 18) fn_X5_65 dX5_throwOthers_15 (by omega) (by first | assumption | exact va_up_self _ _ _ | exact (va_up_ne _ _ (by first | decide | omega)).trans (by assumption) | exact (va_up_ne _ _ (by first | decide | omega)).trans (va_up_self _ _ _) | exact (va_up_ne _ _ (by first | decide | omega)).trans ((va_up_ne _ _ (by first | decide | omega)).trans (by assumption)) | exact (va_up_ne _ _ (by first | decide | omega)).trans ((va_up_ne _ _ (by first | decide | omega)).trans (va_up_self _ _ _)) | exact (va_up_ne _ _ (by first | decide | omega)).trans ((va_up_ne _ _ (by first | decide | omega)).trans ((va_up_ne _ _ (by first | decide | omega)).trans (by assumption))) | exact (va_up_ne _ _ (by first | decide | omega)).trans ((va_up_ne _ _ (by first | decide | omega)).trans ((va_up_ne _ _ (by first | decide | omega)).trans ((va_up_ne _ _ (by first | decide | omega)).trans (by assumption)))) | exact rfl) (by first | assumption | rfl | exact (List.getElem?_set_ne (by decide)).trans (by assumption) | exact List.getElem?_set_self (by omega)) ?_
  refine g_aload_n (pc' := 19) dX5_throwOthers_18 rfl rfl ?_
  refine gc_V 22 5 [] [.int (nI (nh S (D - 1))), .ref c, .int (nI (nh S (D - 1))), .ref b] cw_X5_68 im_X2_wholeCount se_X2_wholeCount dX5_throwOthers_19 (by decide) (by decide) (Nat.le_refl _) (Nat.le_refl _) (Nat.le_of_ble_eq_true rfl) rfl (Nat.le_of_ble_eq_true rfl) (by omega) (by first | assumption | exact va_up_self _ _ _ | exact (va_up_ne _ _ (by first | decide | omega)).trans (by assumption) | exact (va_up_ne _ _ (by first | decide | omega)).trans (va_up_self _ _ _) | exact (va_up_ne _ _ (by first | decide | omega)).trans ((va_up_ne _ _ (by first | decide | omega)).trans (by assumption)) | exact (va_up_ne _ _ (by first | decide | omega)).trans ((va_up_ne _ _ (by first | decide | omega)).trans (va_up_self _ _ _)) | exact (va_up_ne _ _ (by first | decide | omega)).trans ((va_up_ne _ _ (by first | decide | omega)).trans ((va_up_ne _ _ (by first | decide | omega)).trans (by assumption))) | exact (va_up_ne _ _ (by first | decide | omega)).trans ((va_up_ne _ _ (by first | decide | omega)).trans ((va_up_ne _ _ (by first | decide | omega)).trans ((va_up_ne _ _ (by first | decide | omega)).trans (by assumption)))) | exact rfl) rfl rfl (c_wholeCount hn h2 h6 hD hT ⟨rfl, ?_⟩)
  show G yX5_throwOthers cX5_throwOthers 9 none (rmD 1) none Q 0 0 22 [.ref a, .ref b, .ref c, .ref 5, uu, uu, uu, uu, uu] [.int (nI (wh S D)), .int (nI (nh S (D - 1))), .ref c, .int (nI (nh S (D - 1))), .ref b] hp n
  refine g_copyl (pc' := 25) ac_X5_72 w_ac2 w_ac3 w_ac4 (by omega) cb (by omega) cc ⟨nI_pos (by omega), nI_clamp (by omega)⟩ ⟨nI_pos (by omega), nI_clamp (by omega)⟩ ⟨nI_pos (by omega), nI_clamp (by omega)⟩ (by omega) (by omega) (by decide) (by decide) dX5_throwOthers_22 ?_
  refine g_aload_n (pc' := 26) dX5_throwOthers_25 rfl rfl ?_
  refine g_getN (pc' := 29) fn_X5_65 dX5_throwOthers_26 (by omega) (by first | assumption | exact va_up_self _ _ _ | exact (va_up_ne _ _ (by first | decide | omega)).trans (by assumption) | exact (va_up_ne _ _ (by first | decide | omega)).trans (va_up_self _ _ _) | exact (va_up_ne _ _ (by first | decide | omega)).trans ((va_up_ne _ _ (by first | decide | omega)).trans (by assumption)) | exact (va_up_ne _ _ (by first | decide | omega)).trans ((va_up_ne _ _ (by first | decide | omega)).trans (va_up_self _ _ _)) | exact (va_up_ne _ _ (by first | decide | omega)).trans ((va_up_ne _ _ (by first | decide | omega)).trans ((va_up_ne _ _ (by first | decide | omega)).trans (by assumption))) | exact (va_up_ne _ _ (by first | decide | omega)).trans ((va_up_ne _ _ (by first | decide | omega)).trans ((va_up_ne _ _ (by first | decide | omega)).trans ((va_up_ne _ _ (by first | decide | omega)).trans (by assumption)))) | exact rfl) (by first | assumption | rfl | exact (List.getElem?_set_ne (by decide)).trans (by assumption) | exact List.getElem?_set_self (by omega)) ?_
  refine g_iconst (pc' := 30) (v := nI 1) dX5_throwOthers_29 (by decide) ?_
  first | refine g_isubN (pc' := 31) dX5_throwOthers_30 (by omega) ?_ | refine g_isub (pc' := 31) dX5_throwOthers_30 ?_
  refine g_istore (pc' := 33) dX5_throwOthers_31 (by decide) ?_
  have body : ∀ h f, h < nh S (D - 1) → (∀ g, h < g → g < nh S D → f g = lN (th D S val g)) → (∀ f', (∀ g, h ≤ g → g < nh S D → f' g = lN (th D S val g)) → ∀ w5 w6 w7 w8, G yX5_throwOthers cX5_throwOthers 9 none (rmD 1) none Q 0 0 91 [.ref a, .ref b, .ref c, .ref 5, .int (nI h), w5, w6, w7, w8] [] (va_up hp c (aJ 462 f')) n) → ∀ w5 w6 w7 w8, G yX5_throwOthers cX5_throwOthers 9 none (rmD 1) none Q 0 0 33 [.ref a, .ref b, .ref c, .ref 5, .int (nI h), w5, w6, w7, w8] [] (va_up hp c (aJ 462 f)) n := by
    intro h f hh hf kk w5 w6 w7 w8
    have hz : sz S h < D := by
      have := sz_of h2 h6 (show D - 1 ≤ 5 by omega) hh
      omega
    refine g_iload (pc' := 35) dX5_throwOthers_33 rfl ?_
    refine g_if_ltN (tgt := 97) (pc' := 38) dX5_throwOthers_35 (by decide) (by first | omega | decide) (fun z1 => ?_) (fun z1 => ?_)
    · exact z1.elim
    · refine g_iload (pc' := 40) dX5_throwOthers_38 rfl ?_
      refine g_bipush (pc' := 42) (v := nI 6) dX5_throwOthers_40 (by decide) ?_
      first | refine g_imulN (pc' := 43) dX5_throwOthers_42 ?_ | refine g_imul (pc' := 43) dX5_throwOthers_42 ?_
      refine g_istore (pc' := 45) dX5_throwOthers_43 (by decide) ?_
      refine g_lconst (pc' := 46) (v := lN 0) dX5_throwOthers_45 (by decide) ?_
      refine g_lstore (pc' := 48) dX5_throwOthers_46 (by decide) ?_
      refine g_iconst (pc' := 49) (v := nI 0) dX5_throwOthers_48 (by decide) ?_
      refine g_istore (pc' := 51) dX5_throwOthers_49 (by decide) ?_
      have inner : ∀ k i, i + k = S → G yX5_throwOthers cX5_throwOthers 9 none (rmD 1) none Q 0 0 51 [.ref a, .ref b, .ref c, .ref 5, .int (nI h), .int (nI (h * 6)), .long (lN (smF (fun s => th D S val (nx S h s)) i)), uu, .int (nI i)] [] (va_up hp c (aJ 462 f)) n := by
        intro k
        induction k with
        | zero =>
          intro i hi
          have e : i = S := by omega
          subst e
          refine g_iload (pc' := 53) dX5_throwOthers_51 rfl ?_
          refine g_aload_n (pc' := 54) dX5_throwOthers_53 rfl rfl ?_
          refine g_getN (pc' := 57) fn_X5_78 dX5_throwOthers_54 (by omega) (by first | assumption | exact va_up_self _ _ _ | exact (va_up_ne _ _ (by first | decide | omega)).trans (by assumption) | exact (va_up_ne _ _ (by first | decide | omega)).trans (va_up_self _ _ _) | exact (va_up_ne _ _ (by first | decide | omega)).trans ((va_up_ne _ _ (by first | decide | omega)).trans (by assumption)) | exact (va_up_ne _ _ (by first | decide | omega)).trans ((va_up_ne _ _ (by first | decide | omega)).trans (va_up_self _ _ _)) | exact (va_up_ne _ _ (by first | decide | omega)).trans ((va_up_ne _ _ (by first | decide | omega)).trans ((va_up_ne _ _ (by first | decide | omega)).trans (by assumption))) | exact (va_up_ne _ _ (by first | decide | omega)).trans ((va_up_ne _ _ (by first | decide | omega)).trans ((va_up_ne _ _ (by first | decide | omega)).trans ((va_up_ne _ _ (by first | decide | omega)).trans (by assumption)))) | exact rfl) (by first | assumption | rfl | exact (List.getElem?_set_ne (by decide)).trans (by assumption) | exact List.getElem?_set_self (by omega)) ?_
          refine g_icmp_geN (tgt := 85) (pc' := 60) dX5_throwOthers_57 (by decide) (by first | omega | decide) (by first | omega | decide) (fun z2 => ?_) (fun z2 => ?_)
          · refine g_aload_n (pc' := 86) dX5_throwOthers_85 rfl rfl ?_
            refine g_iload (pc' := 88) dX5_throwOthers_86 rfl ?_
            refine g_lload (pc' := 90) dX5_throwOthers_88 rfl ?_
            refine g_last (pc' := 91) dX5_throwOthers_90 (by omega) (by first | assumption | exact va_up_self _ _ _ | exact (va_up_ne _ _ (by first | decide | omega)).trans (by assumption) | exact (va_up_ne _ _ (by first | decide | omega)).trans (va_up_self _ _ _) | exact (va_up_ne _ _ (by first | decide | omega)).trans ((va_up_ne _ _ (by first | decide | omega)).trans (by assumption)) | exact (va_up_ne _ _ (by first | decide | omega)).trans ((va_up_ne _ _ (by first | decide | omega)).trans (va_up_self _ _ _)) | exact (va_up_ne _ _ (by first | decide | omega)).trans ((va_up_ne _ _ (by first | decide | omega)).trans ((va_up_ne _ _ (by first | decide | omega)).trans (by assumption))) | exact (va_up_ne _ _ (by first | decide | omega)).trans ((va_up_ne _ _ (by first | decide | omega)).trans ((va_up_ne _ _ (by first | decide | omega)).trans ((va_up_ne _ _ (by first | decide | omega)).trans (by assumption)))) | exact rfl) ((IX_nI (by omega) (by omega))) ?_
            rw [up_up, ← th_step h2 h6 hD (by omega) hz]
            refine kk _ (fun g q1 q2 => ?_) _ _ _ _
            by_cases e : g = h
            · rw [e, pk_uLs]
            · rw [pk_uLn e]; exact hf g (by omega) q2
          · omega
        | succ k ih =>
          intro i hi
          obtain ⟨b1, b2, b3, -⟩ := nx_ok h2 h6 hD (h := h) (by omega) hz (show i < S by omega)
          have em : fm (h * 6 + i) = nI (nx S h i) := by
            rw [show h * 6 + i = 6 * h + i by omega]
            exact hTM h i (by omega) hz (by omega)
          have ev := hf (nx S h i) b1 b2
          refine g_iload (pc' := 53) dX5_throwOthers_51 rfl ?_
          refine g_aload_n (pc' := 54) dX5_throwOthers_53 rfl rfl ?_
          refine g_getN (pc' := 57) fn_X5_78 dX5_throwOthers_54 (by omega) (by first | assumption | exact va_up_self _ _ _ | exact (va_up_ne _ _ (by first | decide | omega)).trans (by assumption) | exact (va_up_ne _ _ (by first | decide | omega)).trans (va_up_self _ _ _) | exact (va_up_ne _ _ (by first | decide | omega)).trans ((va_up_ne _ _ (by first | decide | omega)).trans (by assumption)) | exact (va_up_ne _ _ (by first | decide | omega)).trans ((va_up_ne _ _ (by first | decide | omega)).trans (va_up_self _ _ _)) | exact (va_up_ne _ _ (by first | decide | omega)).trans ((va_up_ne _ _ (by first | decide | omega)).trans ((va_up_ne _ _ (by first | decide | omega)).trans (by assumption))) | exact (va_up_ne _ _ (by first | decide | omega)).trans ((va_up_ne _ _ (by first | decide | omega)).trans ((va_up_ne _ _ (by first | decide | omega)).trans ((va_up_ne _ _ (by first | decide | omega)).trans (by assumption)))) | exact rfl) (by first | assumption | rfl | exact (List.getElem?_set_ne (by decide)).trans (by assumption) | exact List.getElem?_set_self (by omega)) ?_
          refine g_icmp_geN (tgt := 85) (pc' := 60) dX5_throwOthers_57 (by decide) (by first | omega | decide) (by first | omega | decide) (fun z2 => ?_) (fun z2 => ?_)
          · omega
          · refine g_lload (pc' := 62) dX5_throwOthers_60 rfl ?_
            refine g_aload_n (pc' := 63) dX5_throwOthers_62 rfl rfl ?_
            refine g_aload_n (pc' := 64) dX5_throwOthers_63 rfl rfl ?_
            refine g_getN (pc' := 67) fn_X5_81 dX5_throwOthers_64 (by omega) (by first | assumption | exact va_up_self _ _ _ | exact (va_up_ne _ _ (by first | decide | omega)).trans (by assumption) | exact (va_up_ne _ _ (by first | decide | omega)).trans (va_up_self _ _ _) | exact (va_up_ne _ _ (by first | decide | omega)).trans ((va_up_ne _ _ (by first | decide | omega)).trans (by assumption)) | exact (va_up_ne _ _ (by first | decide | omega)).trans ((va_up_ne _ _ (by first | decide | omega)).trans (va_up_self _ _ _)) | exact (va_up_ne _ _ (by first | decide | omega)).trans ((va_up_ne _ _ (by first | decide | omega)).trans ((va_up_ne _ _ (by first | decide | omega)).trans (by assumption))) | exact (va_up_ne _ _ (by first | decide | omega)).trans ((va_up_ne _ _ (by first | decide | omega)).trans ((va_up_ne _ _ (by first | decide | omega)).trans ((va_up_ne _ _ (by first | decide | omega)).trans (by assumption)))) | exact rfl) (by first | assumption | rfl | exact (List.getElem?_set_ne (by decide)).trans (by assumption) | exact List.getElem?_set_self (by omega)) ?_
            refine g_iload (pc' := 69) dX5_throwOthers_67 rfl ?_
            refine g_iload (pc' := 71) dX5_throwOthers_69 rfl ?_
            first | refine g_iaddN (pc' := 72) dX5_throwOthers_71 ?_ | refine g_iadd (pc' := 72) dX5_throwOthers_71 ?_
            refine g_ialdV (pc' := 73) dX5_throwOthers_72 (by omega) (by first | assumption | exact va_up_self _ _ _ | exact (va_up_ne _ _ (by first | decide | omega)).trans (by assumption) | exact (va_up_ne _ _ (by first | decide | omega)).trans (va_up_self _ _ _) | exact (va_up_ne _ _ (by first | decide | omega)).trans ((va_up_ne _ _ (by first | decide | omega)).trans (by assumption)) | exact (va_up_ne _ _ (by first | decide | omega)).trans ((va_up_ne _ _ (by first | decide | omega)).trans (va_up_self _ _ _)) | exact (va_up_ne _ _ (by first | decide | omega)).trans ((va_up_ne _ _ (by first | decide | omega)).trans ((va_up_ne _ _ (by first | decide | omega)).trans (by assumption))) | exact (va_up_ne _ _ (by first | decide | omega)).trans ((va_up_ne _ _ (by first | decide | omega)).trans ((va_up_ne _ _ (by first | decide | omega)).trans ((va_up_ne _ _ (by first | decide | omega)).trans (by assumption)))) | exact rfl) ((IX_nI (by omega) (by omega))) (em) ?_
            refine g_atJN (pc' := 76) cw_X5_23 dX5_throwOthers_73 (by decide) (by decide) (Nat.le_refl _) (Nat.le_refl _) (Nat.le_of_ble_eq_true rfl) (by omega) (by first | assumption | exact va_up_self _ _ _ | exact (va_up_ne _ _ (by first | decide | omega)).trans (by assumption) | exact (va_up_ne _ _ (by first | decide | omega)).trans (va_up_self _ _ _) | exact (va_up_ne _ _ (by first | decide | omega)).trans ((va_up_ne _ _ (by first | decide | omega)).trans (by assumption)) | exact (va_up_ne _ _ (by first | decide | omega)).trans ((va_up_ne _ _ (by first | decide | omega)).trans (va_up_self _ _ _)) | exact (va_up_ne _ _ (by first | decide | omega)).trans ((va_up_ne _ _ (by first | decide | omega)).trans ((va_up_ne _ _ (by first | decide | omega)).trans (by assumption))) | exact (va_up_ne _ _ (by first | decide | omega)).trans ((va_up_ne _ _ (by first | decide | omega)).trans ((va_up_ne _ _ (by first | decide | omega)).trans ((va_up_ne _ _ (by first | decide | omega)).trans (by assumption)))) | exact rfl) (by decide) ((IX_nI (by omega) (by omega))) (ev) ?_
            first | refine g_laddN (pc' := 77) dX5_throwOthers_76 ?_ | refine g_ladd (pc' := 77) dX5_throwOthers_76 ?_
            refine g_lstore (pc' := 79) dX5_throwOthers_77 (by decide) ?_
            first | refine g_iincN (z := 1) (pc' := 82) dX5_throwOthers_79 rfl rfl (by decide) ?_ | refine g_iinc (pc' := 82) dX5_throwOthers_79 rfl rfl (by decide) ?_
            refine g_goto (tgt := 51) dX5_throwOthers_82 (by decide) ?_
            exact ih (i + 1) (by omega)
      exact inner S 0 (by omega)
  have outer : ∀ h f, h < nh S (D - 1) → (∀ g, h < g → g < nh S D → f g = lN (th D S val g)) → ∀ w5 w6 w7 w8, G yX5_throwOthers cX5_throwOthers 9 none (rmD 1) none Q 0 0 33 [.ref a, .ref b, .ref c, .ref 5, .int (nI h), w5, w6, w7, w8] [] (va_up hp c (aJ 462 f)) n := by
    intro h
    induction h with
    | zero =>
      intro f hh hf w5 w6 w7 w8
      refine body 0 f hh hf (fun f' hf' w5 w6 w7 w8 => ?_) w5 w6 w7 w8
      refine g_iinc (pc' := 94) dX5_throwOthers_91 rfl rfl (by decide) ?_
      refine g_goto (tgt := 33) dX5_throwOthers_94 (by decide) ?_
      refine g_iload (pc' := 35) dX5_throwOthers_33 rfl ?_
      refine g_if_lt (tgt := 97) (pc' := 38) dX5_throwOthers_35 (by decide) (fun z3 => ?_) (fun z3 => ?_)
      · exact g_vret dX5_throwOthers_97 rfl (Nat.le_refl _) (Nat.le_refl _) (hq _ (fun g hg => hf' g (Nat.zero_le _) hg))
      · exact absurd (show nI 0 + Int32.ofInt (-1) < 0 by decide) z3
    | succ h ih0 =>
      intro f hh hf w5 w6 w7 w8
      refine body (h + 1) f hh hf (fun f' hf' w5 w6 w7 w8 => ?_) w5 w6 w7 w8
      first | refine g_idecN (pc' := 94) dX5_throwOthers_91 rfl rfl (by omega) (by decide) ?_ | refine g_iinc (pc' := 94) dX5_throwOthers_91 rfl rfl (by decide) ?_
      refine g_goto (tgt := 33) dX5_throwOthers_94 (by decide) ?_
      exact ih0 _ (by omega) (fun g q1 q2 => hf' g (by omega) q2) _ _ _ _
  refine outer (nh S (D - 1) - 1) _ (by omega) (fun g q1 q2 => ?_) _ _ _ _
  have hz := (sz_wh h2 h6 hD1 hD q2).mpr (by omega)
  unfold va_cpy
  rw [if_pos (by omega), show nh S (D - 1) + (g - nh S (D - 1)) = g by omega, hval g q2 hz, th_whole hz]
theorem c_bringToUnit {hp : AH} {n a c D S : Nat} {v1 v2 v3 v4 u4 u5 : Value} {fc fs : Nat → Int64} {t : Nat → Nat} {Q : Option Value → AH → Nat → Prop} (hn : 64 ≤ n) (h2 : 2 ≤ S) (h6 : S ≤ 6) (hD : D ≤ 5) (ha : 13 ≤ a ∧ a < 64) (hc : 13 ≤ c ∧ c < 64) (hac : a ≠ c) (ca : hp a = ob 5 [.ref 4, v1, v2]) (c4 : hp 4 = ob 1 [.ref 5, v3, v4, .ref 12, u4, u5]) (c12 : hp 12 = aJ 6 fs) (hfs : ∀ k, k ≤ D → fs k = lN (S ^ k)) (hT : HT hp D S) (cc : hp c = aJ 462 fc) (hval : ∀ h, h < nh S D → fc h = lN (t h))
    (hq : ∀ f' : Nat → Int64, (∀ h, h < nh S D → f' h = lN (t h * S ^ sz S h)) → Q none (va_up hp c (aJ 462 f')) n) : CT yX5_bringToUnit cX5_bringToUnit 4 none (rmD 1) [.ref a, .ref c] hp n Q := by
  obtain ⟨ft, fz, fl, fm, c5, c6, c7, c8, c9, hTH, hTM⟩ := id hT
  obtain ⟨hN, hN1⟩ := nh_le h2 h6 hD
  show G yX5_bringToUnit cX5_bringToUnit 4 none (rmD 1) none Q 0 0 0 [.ref a, .ref c, uu, uu] [] hp n
  refine g_aload_n (pc' := 1) dX5_bringToUnit_0 rfl rfl ?_
  refine g_get (pc' := 4) fl_X5_19 dX5_bringToUnit_1 (by omega) (by first | assumption | exact va_up_self _ _ _ | exact (va_up_ne _ _ (by first | decide | omega)).trans (by assumption) | exact (va_up_ne _ _ (by first | decide | omega)).trans (va_up_self _ _ _) | exact (va_up_ne _ _ (by first | decide | omega)).trans ((va_up_ne _ _ (by first | decide | omega)).trans (by assumption)) | exact (va_up_ne _ _ (by first | decide | omega)).trans ((va_up_ne _ _ (by first | decide | omega)).trans (va_up_self _ _ _)) | exact (va_up_ne _ _ (by first | decide | omega)).trans ((va_up_ne _ _ (by first | decide | omega)).trans ((va_up_ne _ _ (by first | decide | omega)).trans (by assumption))) | exact (va_up_ne _ _ (by first | decide | omega)).trans ((va_up_ne _ _ (by first | decide | omega)).trans ((va_up_ne _ _ (by first | decide | omega)).trans ((va_up_ne _ _ (by first | decide | omega)).trans (by assumption)))) | exact rfl) (by first | assumption | rfl | exact (List.getElem?_set_ne (by decide)).trans (by assumption) | exact List.getElem?_set_self (by omega)) ?_
  refine g_getN (pc' := 7) fn_X5_34 dX5_bringToUnit_4 (by omega) (by first | assumption | exact va_up_self _ _ _ | exact (va_up_ne _ _ (by first | decide | omega)).trans (by assumption) | exact (va_up_ne _ _ (by first | decide | omega)).trans (va_up_self _ _ _) | exact (va_up_ne _ _ (by first | decide | omega)).trans ((va_up_ne _ _ (by first | decide | omega)).trans (by assumption)) | exact (va_up_ne _ _ (by first | decide | omega)).trans ((va_up_ne _ _ (by first | decide | omega)).trans (va_up_self _ _ _)) | exact (va_up_ne _ _ (by first | decide | omega)).trans ((va_up_ne _ _ (by first | decide | omega)).trans ((va_up_ne _ _ (by first | decide | omega)).trans (by assumption))) | exact (va_up_ne _ _ (by first | decide | omega)).trans ((va_up_ne _ _ (by first | decide | omega)).trans ((va_up_ne _ _ (by first | decide | omega)).trans ((va_up_ne _ _ (by first | decide | omega)).trans (by assumption)))) | exact rfl) (by first | assumption | rfl | exact (List.getElem?_set_ne (by decide)).trans (by assumption) | exact List.getElem?_set_self (by omega)) ?_
  refine g_astore_n (pc' := 8) dX5_bringToUnit_7 rfl (by decide) ?_
  refine g_iconst (pc' := 9) (v := nI 0) dX5_bringToUnit_8 (by decide) ?_
  refine g_istore_n (pc' := 10) dX5_bringToUnit_9 rfl (by decide) ?_
  rw [← up_id cc]
  have loop : ∀ k i f, i + k = nh S D → (∀ h, h < i → f h = lN (t h * S ^ sz S h)) → (∀ h, i ≤ h → h < nh S D → f h = lN (t h)) → G yX5_bringToUnit cX5_bringToUnit 4 none (rmD 1) none Q 0 0 10 [.ref a, .ref c, .ref 5, .int (nI i)] [] (va_up hp c (aJ 462 f)) n := by
    intro k
    induction k with
    | zero =>
      intro i f hi h1 h3
      refine g_iload_n (pc' := 11) dX5_bringToUnit_10 rfl rfl ?_
      refine g_aload_n (pc' := 12) dX5_bringToUnit_11 rfl rfl ?_
      refine g_getN (pc' := 15) fn_X5_85 dX5_bringToUnit_12 (by omega) (by first | assumption | exact va_up_self _ _ _ | exact (va_up_ne _ _ (by first | decide | omega)).trans (by assumption) | exact (va_up_ne _ _ (by first | decide | omega)).trans (va_up_self _ _ _) | exact (va_up_ne _ _ (by first | decide | omega)).trans ((va_up_ne _ _ (by first | decide | omega)).trans (by assumption)) | exact (va_up_ne _ _ (by first | decide | omega)).trans ((va_up_ne _ _ (by first | decide | omega)).trans (va_up_self _ _ _)) | exact (va_up_ne _ _ (by first | decide | omega)).trans ((va_up_ne _ _ (by first | decide | omega)).trans ((va_up_ne _ _ (by first | decide | omega)).trans (by assumption))) | exact (va_up_ne _ _ (by first | decide | omega)).trans ((va_up_ne _ _ (by first | decide | omega)).trans ((va_up_ne _ _ (by first | decide | omega)).trans ((va_up_ne _ _ (by first | decide | omega)).trans (by assumption)))) | exact rfl) (by first | assumption | rfl | exact (List.getElem?_set_ne (by decide)).trans (by assumption) | exact List.getElem?_set_self (by omega)) ?_
      refine g_icmp_geN (tgt := 46) (pc' := 18) dX5_bringToUnit_15 (by decide) (by first | omega | decide) (by first | omega | decide) (fun z1 => ?_) (fun z1 => ?_)
      · exact g_vret dX5_bringToUnit_46 rfl (Nat.le_refl _) (Nat.le_refl _) (hq f (fun h hh => h1 h (by omega)))
      · omega
    | succ k ih =>
      intro i f hi h1 h3
      have zl := sz_of h2 h6 hD (show i < nh S D by omega)
      refine g_iload_n (pc' := 11) dX5_bringToUnit_10 rfl rfl ?_
      refine g_aload_n (pc' := 12) dX5_bringToUnit_11 rfl rfl ?_
      refine g_getN (pc' := 15) fn_X5_85 dX5_bringToUnit_12 (by omega) (by first | assumption | exact va_up_self _ _ _ | exact (va_up_ne _ _ (by first | decide | omega)).trans (by assumption) | exact (va_up_ne _ _ (by first | decide | omega)).trans (va_up_self _ _ _) | exact (va_up_ne _ _ (by first | decide | omega)).trans ((va_up_ne _ _ (by first | decide | omega)).trans (by assumption)) | exact (va_up_ne _ _ (by first | decide | omega)).trans ((va_up_ne _ _ (by first | decide | omega)).trans (va_up_self _ _ _)) | exact (va_up_ne _ _ (by first | decide | omega)).trans ((va_up_ne _ _ (by first | decide | omega)).trans ((va_up_ne _ _ (by first | decide | omega)).trans (by assumption))) | exact (va_up_ne _ _ (by first | decide | omega)).trans ((va_up_ne _ _ (by first | decide | omega)).trans ((va_up_ne _ _ (by first | decide | omega)).trans ((va_up_ne _ _ (by first | decide | omega)).trans (by assumption)))) | exact rfl) (by first | assumption | rfl | exact (List.getElem?_set_ne (by decide)).trans (by assumption) | exact List.getElem?_set_self (by omega)) ?_
      refine g_icmp_geN (tgt := 46) (pc' := 18) dX5_bringToUnit_15 (by decide) (by first | omega | decide) (by first | omega | decide) (fun z1 => ?_) (fun z1 => ?_)
      · omega
      · refine g_aload_n (pc' := 19) dX5_bringToUnit_18 rfl rfl ?_
        refine g_iload_n (pc' := 20) dX5_bringToUnit_19 rfl rfl ?_
        first | refine g_dup2 (pc' := 21) dX5_bringToUnit_20 rfl rfl ?_ | refine g_dup2_2 (pc' := 21) dX5_bringToUnit_20 rfl ?_
        refine g_laldV (pc' := 22) dX5_bringToUnit_21 (by omega) (by first | assumption | exact va_up_self _ _ _ | exact (va_up_ne _ _ (by first | decide | omega)).trans (by assumption) | exact (va_up_ne _ _ (by first | decide | omega)).trans (va_up_self _ _ _) | exact (va_up_ne _ _ (by first | decide | omega)).trans ((va_up_ne _ _ (by first | decide | omega)).trans (by assumption)) | exact (va_up_ne _ _ (by first | decide | omega)).trans ((va_up_ne _ _ (by first | decide | omega)).trans (va_up_self _ _ _)) | exact (va_up_ne _ _ (by first | decide | omega)).trans ((va_up_ne _ _ (by first | decide | omega)).trans ((va_up_ne _ _ (by first | decide | omega)).trans (by assumption))) | exact (va_up_ne _ _ (by first | decide | omega)).trans ((va_up_ne _ _ (by first | decide | omega)).trans ((va_up_ne _ _ (by first | decide | omega)).trans ((va_up_ne _ _ (by first | decide | omega)).trans (by assumption)))) | exact rfl) ((IX_nI (by omega) (by omega))) (h3 _ (Nat.le_refl _) (by omega)) ?_
        refine g_aload_n (pc' := 23) dX5_bringToUnit_22 rfl rfl ?_
        refine g_get (pc' := 26) fl_X5_19 dX5_bringToUnit_23 (by omega) (by first | assumption | exact va_up_self _ _ _ | exact (va_up_ne _ _ (by first | decide | omega)).trans (by assumption) | exact (va_up_ne _ _ (by first | decide | omega)).trans (va_up_self _ _ _) | exact (va_up_ne _ _ (by first | decide | omega)).trans ((va_up_ne _ _ (by first | decide | omega)).trans (by assumption)) | exact (va_up_ne _ _ (by first | decide | omega)).trans ((va_up_ne _ _ (by first | decide | omega)).trans (va_up_self _ _ _)) | exact (va_up_ne _ _ (by first | decide | omega)).trans ((va_up_ne _ _ (by first | decide | omega)).trans ((va_up_ne _ _ (by first | decide | omega)).trans (by assumption))) | exact (va_up_ne _ _ (by first | decide | omega)).trans ((va_up_ne _ _ (by first | decide | omega)).trans ((va_up_ne _ _ (by first | decide | omega)).trans ((va_up_ne _ _ (by first | decide | omega)).trans (by assumption)))) | exact rfl) (by first | assumption | rfl | exact (List.getElem?_set_ne (by decide)).trans (by assumption) | exact List.getElem?_set_self (by omega)) ?_
        refine g_getN (pc' := 29) fn_X5_88 dX5_bringToUnit_26 (by omega) (by first | assumption | exact va_up_self _ _ _ | exact (va_up_ne _ _ (by first | decide | omega)).trans (by assumption) | exact (va_up_ne _ _ (by first | decide | omega)).trans (va_up_self _ _ _) | exact (va_up_ne _ _ (by first | decide | omega)).trans ((va_up_ne _ _ (by first | decide | omega)).trans (by assumption)) | exact (va_up_ne _ _ (by first | decide | omega)).trans ((va_up_ne _ _ (by first | decide | omega)).trans (va_up_self _ _ _)) | exact (va_up_ne _ _ (by first | decide | omega)).trans ((va_up_ne _ _ (by first | decide | omega)).trans ((va_up_ne _ _ (by first | decide | omega)).trans (by assumption))) | exact (va_up_ne _ _ (by first | decide | omega)).trans ((va_up_ne _ _ (by first | decide | omega)).trans ((va_up_ne _ _ (by first | decide | omega)).trans ((va_up_ne _ _ (by first | decide | omega)).trans (by assumption)))) | exact rfl) (by first | assumption | rfl | exact (List.getElem?_set_ne (by decide)).trans (by assumption) | exact List.getElem?_set_self (by omega)) ?_
        refine g_aload_n (pc' := 30) dX5_bringToUnit_29 rfl rfl ?_
        refine g_getN (pc' := 33) fn_X5_92 dX5_bringToUnit_30 (by omega) (by first | assumption | exact va_up_self _ _ _ | exact (va_up_ne _ _ (by first | decide | omega)).trans (by assumption) | exact (va_up_ne _ _ (by first | decide | omega)).trans (va_up_self _ _ _) | exact (va_up_ne _ _ (by first | decide | omega)).trans ((va_up_ne _ _ (by first | decide | omega)).trans (by assumption)) | exact (va_up_ne _ _ (by first | decide | omega)).trans ((va_up_ne _ _ (by first | decide | omega)).trans (va_up_self _ _ _)) | exact (va_up_ne _ _ (by first | decide | omega)).trans ((va_up_ne _ _ (by first | decide | omega)).trans ((va_up_ne _ _ (by first | decide | omega)).trans (by assumption))) | exact (va_up_ne _ _ (by first | decide | omega)).trans ((va_up_ne _ _ (by first | decide | omega)).trans ((va_up_ne _ _ (by first | decide | omega)).trans ((va_up_ne _ _ (by first | decide | omega)).trans (by assumption)))) | exact rfl) (by first | assumption | rfl | exact (List.getElem?_set_ne (by decide)).trans (by assumption) | exact List.getElem?_set_self (by omega)) ?_
        refine g_iload_n (pc' := 34) dX5_bringToUnit_33 rfl rfl ?_
        refine g_ialdV (pc' := 35) dX5_bringToUnit_34 (by omega) (by first | assumption | exact va_up_self _ _ _ | exact (va_up_ne _ _ (by first | decide | omega)).trans (by assumption) | exact (va_up_ne _ _ (by first | decide | omega)).trans (va_up_self _ _ _) | exact (va_up_ne _ _ (by first | decide | omega)).trans ((va_up_ne _ _ (by first | decide | omega)).trans (by assumption)) | exact (va_up_ne _ _ (by first | decide | omega)).trans ((va_up_ne _ _ (by first | decide | omega)).trans (va_up_self _ _ _)) | exact (va_up_ne _ _ (by first | decide | omega)).trans ((va_up_ne _ _ (by first | decide | omega)).trans ((va_up_ne _ _ (by first | decide | omega)).trans (by assumption))) | exact (va_up_ne _ _ (by first | decide | omega)).trans ((va_up_ne _ _ (by first | decide | omega)).trans ((va_up_ne _ _ (by first | decide | omega)).trans ((va_up_ne _ _ (by first | decide | omega)).trans (by assumption)))) | exact rfl) ((IX_nI (by omega) (by omega))) (hTH.2.1 _ (by omega)) ?_
        refine g_atJN (pc' := 38) cw_X5_23 dX5_bringToUnit_35 (by decide) (by decide) (Nat.le_refl _) (Nat.le_refl _) (Nat.le_of_ble_eq_true rfl) (by omega) (by first | assumption | exact va_up_self _ _ _ | exact (va_up_ne _ _ (by first | decide | omega)).trans (by assumption) | exact (va_up_ne _ _ (by first | decide | omega)).trans (va_up_self _ _ _) | exact (va_up_ne _ _ (by first | decide | omega)).trans ((va_up_ne _ _ (by first | decide | omega)).trans (by assumption)) | exact (va_up_ne _ _ (by first | decide | omega)).trans ((va_up_ne _ _ (by first | decide | omega)).trans (va_up_self _ _ _)) | exact (va_up_ne _ _ (by first | decide | omega)).trans ((va_up_ne _ _ (by first | decide | omega)).trans ((va_up_ne _ _ (by first | decide | omega)).trans (by assumption))) | exact (va_up_ne _ _ (by first | decide | omega)).trans ((va_up_ne _ _ (by first | decide | omega)).trans ((va_up_ne _ _ (by first | decide | omega)).trans ((va_up_ne _ _ (by first | decide | omega)).trans (by assumption)))) | exact rfl) (by decide) ((IX_nI (by omega) (by omega))) (hfs _ zl) ?_
        first | refine g_lmulN (pc' := 39) dX5_bringToUnit_38 ?_ | refine g_lmul (pc' := 39) dX5_bringToUnit_38 ?_
        refine g_last (pc' := 40) dX5_bringToUnit_39 (by omega) (by first | assumption | exact va_up_self _ _ _ | exact (va_up_ne _ _ (by first | decide | omega)).trans (by assumption) | exact (va_up_ne _ _ (by first | decide | omega)).trans (va_up_self _ _ _) | exact (va_up_ne _ _ (by first | decide | omega)).trans ((va_up_ne _ _ (by first | decide | omega)).trans (by assumption)) | exact (va_up_ne _ _ (by first | decide | omega)).trans ((va_up_ne _ _ (by first | decide | omega)).trans (va_up_self _ _ _)) | exact (va_up_ne _ _ (by first | decide | omega)).trans ((va_up_ne _ _ (by first | decide | omega)).trans ((va_up_ne _ _ (by first | decide | omega)).trans (by assumption))) | exact (va_up_ne _ _ (by first | decide | omega)).trans ((va_up_ne _ _ (by first | decide | omega)).trans ((va_up_ne _ _ (by first | decide | omega)).trans ((va_up_ne _ _ (by first | decide | omega)).trans (by assumption)))) | exact rfl) ((IX_nI (by omega) (by omega))) ?_
        rw [up_up]
        first | refine g_iincN (z := 1) (pc' := 43) dX5_bringToUnit_40 rfl rfl (by decide) ?_ | refine g_iinc (pc' := 43) dX5_bringToUnit_40 rfl rfl (by decide) ?_
        refine g_goto (tgt := 10) dX5_bringToUnit_43 (by decide) ?_
        refine ih (i + 1) _ (by omega) (fun h q => ?_) (fun h q1 q2 => ?_)
        · by_cases e : h = i
          · rw [e, pk_uLs]
          · rw [pk_uLn e]; exact h1 h (by omega)
        · rw [pk_uLn (by omega)]; exact h3 h (by omega) q2
  exact loop (nh S D) 0 fc (by omega) (fun h q => absurd q (Nat.not_lt_zero h)) (fun h _ q => hval h q)
theorem c_chooseHolds {hp : AH} {n a b c D S : Nat} {v1 v2 v3 v4 v5 u4 u5 : Value} {fb fc : Nat → Int64} {val : Nat → Nat} {Q : Option Value → AH → Nat → Prop} (hn : 64 ≤ n) (h2 : 2 ≤ S) (h6 : S ≤ 6) (hD1 : 1 ≤ D) (hD : D ≤ 5) (ha : 13 ≤ a ∧ a < 64) (hb : 13 ≤ b ∧ b < 64) (hc : 13 ≤ c ∧ c < 64) (hac : a ≠ c) (hbc : b ≠ c) (ca : hp a = ob 5 [.ref 4, v1, v2]) (c4 : hp 4 = ob 1 [.ref 5, v3, v4, v5, u4, u5]) (hT : HT hp D S) (cb : hp b = aJ 462 fb) (cc : hp c = aJ 462 fc) (hval : ∀ h, h < nh S D → fb h = lN (hv D S val h)) (hB : ∀ h, h < nh S D → hv D S val h < 2 ^ 63)
    (hq : ∀ f' : Nat → Int64, (∀ h, h < nh S D → f' h = lN (bst D S val h)) → Q none (va_up hp c (aJ 462 f')) n) : CT yX5_chooseHolds cX5_chooseHolds 8 none (rmD 1) [.ref a, .ref b, .ref c] hp n Q := by
  obtain ⟨ft, fz, fl, fm, c5, c6, c7, c8, c9, hTH, hTM⟩ := id hT
  obtain ⟨hN, hN1⟩ := nh_le h2 h6 hD
  obtain ⟨hM, hM1⟩ := nh_le h2 h6 (show D - 1 ≤ 5 by omega)
  have hwa := wh_add h2 h6 hD
  have hNL : nh S (D - 1) < nh S D := nh_lt h2 h6 (by omega) hD
  have hb63 : ∀ h, bst D S val h < 2 ^ 63 := fun h => by
    have : bst D S val h ≤ 2 ^ 63 - 1 := bst_le_of (fun g hg _ => by have := hB g hg; omega)
    omega
  show G yX5_chooseHolds cX5_chooseHolds 8 none (rmD 1) none Q 0 0 0 [.ref a, .ref b, .ref c, uu, uu, uu, uu, uu] [] hp n
  refine g_aload_n (pc' := 1) dX5_chooseHolds_0 rfl rfl ?_
  refine g_get (pc' := 4) fl_X5_19 dX5_chooseHolds_1 (by omega) (by first | assumption | exact va_up_self _ _ _ | exact (va_up_ne _ _ (by first | decide | omega)).trans (by assumption) | exact (va_up_ne _ _ (by first | decide | omega)).trans (va_up_self _ _ _) | exact (va_up_ne _ _ (by first | decide | omega)).trans ((va_up_ne _ _ (by first | decide | omega)).trans (by assumption)) | exact (va_up_ne _ _ (by first | decide | omega)).trans ((va_up_ne _ _ (by first | decide | omega)).trans (va_up_self _ _ _)) | exact (va_up_ne _ _ (by first | decide | omega)).trans ((va_up_ne _ _ (by first | decide | omega)).trans ((va_up_ne _ _ (by first | decide | omega)).trans (by assumption))) | exact (va_up_ne _ _ (by first | decide | omega)).trans ((va_up_ne _ _ (by first | decide | omega)).trans ((va_up_ne _ _ (by first | decide | omega)).trans ((va_up_ne _ _ (by first | decide | omega)).trans (by assumption)))) | exact rfl) (by first | assumption | rfl | exact (List.getElem?_set_ne (by decide)).trans (by assumption) | exact List.getElem?_set_self (by omega)) ?_
  refine g_getN (pc' := 7) fn_X5_34 dX5_chooseHolds_4 (by omega) (by first | assumption | exact va_up_self _ _ _ | exact (va_up_ne _ _ (by first | decide | omega)).trans (by assumption) | exact (va_up_ne _ _ (by first | decide | omega)).trans (va_up_self _ _ _) | exact (va_up_ne _ _ (by first | decide | omega)).trans ((va_up_ne _ _ (by first | decide | omega)).trans (by assumption)) | exact (va_up_ne _ _ (by first | decide | omega)).trans ((va_up_ne _ _ (by first | decide | omega)).trans (va_up_self _ _ _)) | exact (va_up_ne _ _ (by first | decide | omega)).trans ((va_up_ne _ _ (by first | decide | omega)).trans ((va_up_ne _ _ (by first | decide | omega)).trans (by assumption))) | exact (va_up_ne _ _ (by first | decide | omega)).trans ((va_up_ne _ _ (by first | decide | omega)).trans ((va_up_ne _ _ (by first | decide | omega)).trans ((va_up_ne _ _ (by first | decide | omega)).trans (by assumption)))) | exact rfl) (by first | assumption | rfl | exact (List.getElem?_set_ne (by decide)).trans (by assumption) | exact List.getElem?_set_self (by omega)) ?_
  refine g_astore_n (pc' := 8) dX5_chooseHolds_7 rfl (by decide) ?_
  refine g_aload_n (pc' := 9) dX5_chooseHolds_8 rfl rfl ?_
  refine g_iconst (pc' := 10) (v := nI 0) dX5_chooseHolds_9 (by decide) ?_
  refine g_aload_n (pc' := 11) dX5_chooseHolds_10 rfl rfl ?_
  refine g_iconst (pc' := 12) (v := nI 0) dX5_chooseHolds_11 (by decide) ?_
  refine g_aload_n (pc' := 13) dX5_chooseHolds_12 rfl rfl ?_
  refine g_getN (pc' := 16) fn_X5_85 dX5_chooseHolds_13 (by omega) (by first | assumption | exact va_up_self _ _ _ | exact (va_up_ne _ _ (by first | decide | omega)).trans (by assumption) | exact (va_up_ne _ _ (by first | decide | omega)).trans (va_up_self _ _ _) | exact (va_up_ne _ _ (by first | decide | omega)).trans ((va_up_ne _ _ (by first | decide | omega)).trans (by assumption)) | exact (va_up_ne _ _ (by first | decide | omega)).trans ((va_up_ne _ _ (by first | decide | omega)).trans (va_up_self _ _ _)) | exact (va_up_ne _ _ (by first | decide | omega)).trans ((va_up_ne _ _ (by first | decide | omega)).trans ((va_up_ne _ _ (by first | decide | omega)).trans (by assumption))) | exact (va_up_ne _ _ (by first | decide | omega)).trans ((va_up_ne _ _ (by first | decide | omega)).trans ((va_up_ne _ _ (by first | decide | omega)).trans ((va_up_ne _ _ (by first | decide | omega)).trans (by assumption)))) | exact rfl) (by first | assumption | rfl | exact (List.getElem?_set_ne (by decide)).trans (by assumption) | exact List.getElem?_set_self (by omega)) ?_
  refine g_copyl (pc' := 19) (sj := 0) (dj := 0) (nj := nh S D) ac_X5_72 w_ac2 w_ac3 w_ac4 (by omega) cb (by omega) cc ⟨nI_pos (by omega), nI_clamp (by omega)⟩ ⟨nI_pos (by omega), nI_clamp (by omega)⟩ ⟨nI_pos (by omega), nI_clamp (by omega)⟩ (by omega) (by omega) (by decide) (by decide) dX5_chooseHolds_16 ?_
  refine g_iconst (pc' := 20) (v := nI 0) dX5_chooseHolds_19 (by decide) ?_
  refine g_istore (pc' := 22) dX5_chooseHolds_20 (by decide) ?_
  have szp : ∀ p, p < nh S (D - 1) → sz S p < D := fun p hp => by
    have := sz_of h2 h6 (show D - 1 ≤ 5 by omega) hp
    omega
  have szq : ∀ p, p < nh S D → sz S p < D → p < nh S (D - 1) := fun p q1 q2 => by
    have h5 := nh_mono h2 h6 hD (Nat.le_refl 5)
    exact (sz_iff h2 h6 (by omega) (by omega)).mp (by omega)
  have full : ∀ (p h : Nat) (v : Nat → Nat), h < nh S D → (h < p + 1 ∨ nh S (D - 1) ≤ p) → (∀ h, h < nh S D → hv D S val h ≤ v h ∧ v h ≤ bst D S val h) → (∀ p', p' < p → p' < nh S (D - 1) → ∀ s, s < S → bst D S val p' ≤ v (nx S p' s)) → v h = bst D S val h := by
    intro p h v hh hp0 i1 i3
    apply Nat.le_antisymm (i1 h hh).2
    refine bst_pred h2 h6 hD hh (i1 h hh).1 (fun p' s q1 q2 q3 q4 => ?_)
    have := i3 p' (by have := szq p' (by omega) q4; omega) (szq p' (by omega) q4) s q2
    rw [q3] at this
    exact this
  have outer : ∀ (k p : Nat) (f : Nat → Int64) (v : Nat → Nat), p + k = nh S (D - 1) → (∀ h, h < nh S D → f h = lN (v h)) → (∀ h, h < nh S D → hv D S val h ≤ v h ∧ v h ≤ bst D S val h) → (∀ p', p' < p → p' < nh S (D - 1) → ∀ s, s < S → bst D S val p' ≤ v (nx S p' s)) → ∀ w5 w6 w7, G yX5_chooseHolds cX5_chooseHolds 8 none (rmD 1) none Q 0 0 22 [.ref a, .ref b, .ref c, .ref 5, .int (nI p), w5, w6, w7] [] (va_up hp c (aJ 462 f)) n := by
    intro k
    induction k with
    | zero =>
      intro p f v hk hf i1 i3 w5 w6 w7
      refine g_iload (pc' := 24) dX5_chooseHolds_22 rfl ?_
      refine g_aload_n (pc' := 25) dX5_chooseHolds_24 rfl rfl ?_
      refine g_getN (pc' := 28) fn_X5_65 dX5_chooseHolds_25 (by omega) (by first | assumption | exact va_up_self _ _ _ | exact (va_up_ne _ _ (by first | decide | omega)).trans (by assumption) | exact (va_up_ne _ _ (by first | decide | omega)).trans (va_up_self _ _ _) | exact (va_up_ne _ _ (by first | decide | omega)).trans ((va_up_ne _ _ (by first | decide | omega)).trans (by assumption)) | exact (va_up_ne _ _ (by first | decide | omega)).trans ((va_up_ne _ _ (by first | decide | omega)).trans (va_up_self _ _ _)) | exact (va_up_ne _ _ (by first | decide | omega)).trans ((va_up_ne _ _ (by first | decide | omega)).trans ((va_up_ne _ _ (by first | decide | omega)).trans (by assumption))) | exact (va_up_ne _ _ (by first | decide | omega)).trans ((va_up_ne _ _ (by first | decide | omega)).trans ((va_up_ne _ _ (by first | decide | omega)).trans ((va_up_ne _ _ (by first | decide | omega)).trans (by assumption)))) | exact rfl) (by first | assumption | rfl | exact (List.getElem?_set_ne (by decide)).trans (by assumption) | exact List.getElem?_set_self (by omega)) ?_
      refine g_icmp_geN (tgt := 106) (pc' := 31) dX5_chooseHolds_28 (by decide) (by first | omega | decide) (by first | omega | decide) (fun z1 => ?_) (fun z1 => ?_)
      · refine g_vret dX5_chooseHolds_106 rfl (Nat.le_refl _) (Nat.le_refl _) (hq f (fun h hh => ?_))
        rw [hf h hh, full p h v hh (by omega) i1 i3]
      · omega
    | succ k ih =>
      intro p f v hk hf i1 i3 w5 w6 w7
      have hz := szp p (by omega)
      refine g_iload (pc' := 24) dX5_chooseHolds_22 rfl ?_
      refine g_aload_n (pc' := 25) dX5_chooseHolds_24 rfl rfl ?_
      refine g_getN (pc' := 28) fn_X5_65 dX5_chooseHolds_25 (by omega) (by first | assumption | exact va_up_self _ _ _ | exact (va_up_ne _ _ (by first | decide | omega)).trans (by assumption) | exact (va_up_ne _ _ (by first | decide | omega)).trans (va_up_self _ _ _) | exact (va_up_ne _ _ (by first | decide | omega)).trans ((va_up_ne _ _ (by first | decide | omega)).trans (by assumption)) | exact (va_up_ne _ _ (by first | decide | omega)).trans ((va_up_ne _ _ (by first | decide | omega)).trans (va_up_self _ _ _)) | exact (va_up_ne _ _ (by first | decide | omega)).trans ((va_up_ne _ _ (by first | decide | omega)).trans ((va_up_ne _ _ (by first | decide | omega)).trans (by assumption))) | exact (va_up_ne _ _ (by first | decide | omega)).trans ((va_up_ne _ _ (by first | decide | omega)).trans ((va_up_ne _ _ (by first | decide | omega)).trans ((va_up_ne _ _ (by first | decide | omega)).trans (by assumption)))) | exact rfl) (by first | assumption | rfl | exact (List.getElem?_set_ne (by decide)).trans (by assumption) | exact List.getElem?_set_self (by omega)) ?_
      refine g_icmp_geN (tgt := 106) (pc' := 31) dX5_chooseHolds_28 (by decide) (by first | omega | decide) (by first | omega | decide) (fun z1 => ?_) (fun z1 => ?_)
      · omega
      · refine g_iload (pc' := 33) dX5_chooseHolds_31 rfl ?_
        refine g_bipush (pc' := 35) (v := nI 6) dX5_chooseHolds_33 (by decide) ?_
        first | refine g_imulN (pc' := 36) dX5_chooseHolds_35 ?_ | refine g_imul (pc' := 36) dX5_chooseHolds_35 ?_
        refine g_istore (pc' := 38) dX5_chooseHolds_36 (by decide) ?_
        refine g_iconst (pc' := 39) (v := nI 0) dX5_chooseHolds_38 (by decide) ?_
        refine g_istore (pc' := 41) dX5_chooseHolds_39 (by decide) ?_
        have inner : ∀ (k2 i : Nat) (f : Nat → Int64) (v : Nat → Nat), i + k2 = S → (∀ h, h < nh S D → f h = lN (v h)) → (∀ h, h < nh S D → hv D S val h ≤ v h ∧ v h ≤ bst D S val h) → (∀ p', p' < p → p' < nh S (D - 1) → ∀ s, s < S → bst D S val p' ≤ v (nx S p' s)) → (∀ s, s < i → bst D S val p ≤ v (nx S p s)) → ∀ w7, G yX5_chooseHolds cX5_chooseHolds 8 none (rmD 1) none Q 0 0 41 [.ref a, .ref b, .ref c, .ref 5, .int (nI p), .int (nI (p * 6)), .int (nI i), w7] [] (va_up hp c (aJ 462 f)) n := by
          intro k2
          induction k2 with
          | zero =>
            intro i f v hi hf i1 i3 i4 w7
            refine g_iload (pc' := 43) dX5_chooseHolds_41 rfl ?_
            refine g_aload_n (pc' := 44) dX5_chooseHolds_43 rfl rfl ?_
            refine g_getN (pc' := 47) fn_X5_78 dX5_chooseHolds_44 (by omega) (by first | assumption | exact va_up_self _ _ _ | exact (va_up_ne _ _ (by first | decide | omega)).trans (by assumption) | exact (va_up_ne _ _ (by first | decide | omega)).trans (va_up_self _ _ _) | exact (va_up_ne _ _ (by first | decide | omega)).trans ((va_up_ne _ _ (by first | decide | omega)).trans (by assumption)) | exact (va_up_ne _ _ (by first | decide | omega)).trans ((va_up_ne _ _ (by first | decide | omega)).trans (va_up_self _ _ _)) | exact (va_up_ne _ _ (by first | decide | omega)).trans ((va_up_ne _ _ (by first | decide | omega)).trans ((va_up_ne _ _ (by first | decide | omega)).trans (by assumption))) | exact (va_up_ne _ _ (by first | decide | omega)).trans ((va_up_ne _ _ (by first | decide | omega)).trans ((va_up_ne _ _ (by first | decide | omega)).trans ((va_up_ne _ _ (by first | decide | omega)).trans (by assumption)))) | exact rfl) (by first | assumption | rfl | exact (List.getElem?_set_ne (by decide)).trans (by assumption) | exact List.getElem?_set_self (by omega)) ?_
            refine g_icmp_geN (tgt := 100) (pc' := 50) dX5_chooseHolds_47 (by decide) (by first | omega | decide) (by first | omega | decide) (fun z2 => ?_) (fun z2 => ?_)
            · first | refine g_iincN (z := 1) (pc' := 103) dX5_chooseHolds_100 rfl rfl (by decide) ?_ | refine g_iinc (pc' := 103) dX5_chooseHolds_100 rfl rfl (by decide) ?_
              refine g_goto (tgt := 22) dX5_chooseHolds_103 (by decide) ?_
              refine ih (p + 1) f v (by omega) hf i1 (fun p' q1 q2 s q3 => ?_) _ _ _
              rcases Nat.lt_or_ge p' p with q | q
              · exact i3 p' q q2 s q3
              · have e : p' = p := by omega
                subst e
                exact i4 s (by omega)
            · omega
          | succ k2 ih2 =>
            intro i f v hi hf i1 i3 i4 w7
            obtain ⟨b1, b2, b3, -⟩ := nx_ok h2 h6 hD (h := p) (by omega) hz (show i < S by omega)
            have h5 := nh_mono h2 h6 hD (Nat.le_refl 5)
            have ep := full p p v (by omega) (by omega) i1 i3
            have hpn : pt S p (nx S p i) := pt_nx h2 h6 (by omega) (by omega) (by omega)
            have hbm := bst_mono (D := D) (val := val) hpn
            have l1 := hb63 p
            have l2 : v (nx S p i) < 2 ^ 63 := Nat.lt_of_le_of_lt (i1 _ b2).2 (hb63 _)
            have em : fm (p * 6 + i) = nI (nx S p i) := by
              rw [show p * 6 + i = 6 * p + i by omega]
              exact hTM p i (by omega) hz (by omega)
            have ev := hf (nx S p i) b2
            have ew : f p = lN (bst D S val p) := by rw [hf p (by omega), ep]
            refine g_iload (pc' := 43) dX5_chooseHolds_41 rfl ?_
            refine g_aload_n (pc' := 44) dX5_chooseHolds_43 rfl rfl ?_
            refine g_getN (pc' := 47) fn_X5_78 dX5_chooseHolds_44 (by omega) (by first | assumption | exact va_up_self _ _ _ | exact (va_up_ne _ _ (by first | decide | omega)).trans (by assumption) | exact (va_up_ne _ _ (by first | decide | omega)).trans (va_up_self _ _ _) | exact (va_up_ne _ _ (by first | decide | omega)).trans ((va_up_ne _ _ (by first | decide | omega)).trans (by assumption)) | exact (va_up_ne _ _ (by first | decide | omega)).trans ((va_up_ne _ _ (by first | decide | omega)).trans (va_up_self _ _ _)) | exact (va_up_ne _ _ (by first | decide | omega)).trans ((va_up_ne _ _ (by first | decide | omega)).trans ((va_up_ne _ _ (by first | decide | omega)).trans (by assumption))) | exact (va_up_ne _ _ (by first | decide | omega)).trans ((va_up_ne _ _ (by first | decide | omega)).trans ((va_up_ne _ _ (by first | decide | omega)).trans ((va_up_ne _ _ (by first | decide | omega)).trans (by assumption)))) | exact rfl) (by first | assumption | rfl | exact (List.getElem?_set_ne (by decide)).trans (by assumption) | exact List.getElem?_set_self (by omega)) ?_
            refine g_icmp_geN (tgt := 100) (pc' := 50) dX5_chooseHolds_47 (by decide) (by first | omega | decide) (by first | omega | decide) (fun z2 => ?_) (fun z2 => ?_)
            · omega
            · refine g_aload_n (pc' := 51) dX5_chooseHolds_50 rfl rfl ?_
              refine g_getN (pc' := 54) fn_X5_81 dX5_chooseHolds_51 (by omega) (by first | assumption | exact va_up_self _ _ _ | exact (va_up_ne _ _ (by first | decide | omega)).trans (by assumption) | exact (va_up_ne _ _ (by first | decide | omega)).trans (va_up_self _ _ _) | exact (va_up_ne _ _ (by first | decide | omega)).trans ((va_up_ne _ _ (by first | decide | omega)).trans (by assumption)) | exact (va_up_ne _ _ (by first | decide | omega)).trans ((va_up_ne _ _ (by first | decide | omega)).trans (va_up_self _ _ _)) | exact (va_up_ne _ _ (by first | decide | omega)).trans ((va_up_ne _ _ (by first | decide | omega)).trans ((va_up_ne _ _ (by first | decide | omega)).trans (by assumption))) | exact (va_up_ne _ _ (by first | decide | omega)).trans ((va_up_ne _ _ (by first | decide | omega)).trans ((va_up_ne _ _ (by first | decide | omega)).trans ((va_up_ne _ _ (by first | decide | omega)).trans (by assumption)))) | exact rfl) (by first | assumption | rfl | exact (List.getElem?_set_ne (by decide)).trans (by assumption) | exact List.getElem?_set_self (by omega)) ?_
              refine g_iload (pc' := 56) dX5_chooseHolds_54 rfl ?_
              refine g_iload (pc' := 58) dX5_chooseHolds_56 rfl ?_
              first | refine g_iaddN (pc' := 59) dX5_chooseHolds_58 ?_ | refine g_iadd (pc' := 59) dX5_chooseHolds_58 ?_
              refine g_ialdV (pc' := 60) dX5_chooseHolds_59 (by omega) (by first | assumption | exact va_up_self _ _ _ | exact (va_up_ne _ _ (by first | decide | omega)).trans (by assumption) | exact (va_up_ne _ _ (by first | decide | omega)).trans (va_up_self _ _ _) | exact (va_up_ne _ _ (by first | decide | omega)).trans ((va_up_ne _ _ (by first | decide | omega)).trans (by assumption)) | exact (va_up_ne _ _ (by first | decide | omega)).trans ((va_up_ne _ _ (by first | decide | omega)).trans (va_up_self _ _ _)) | exact (va_up_ne _ _ (by first | decide | omega)).trans ((va_up_ne _ _ (by first | decide | omega)).trans ((va_up_ne _ _ (by first | decide | omega)).trans (by assumption))) | exact (va_up_ne _ _ (by first | decide | omega)).trans ((va_up_ne _ _ (by first | decide | omega)).trans ((va_up_ne _ _ (by first | decide | omega)).trans ((va_up_ne _ _ (by first | decide | omega)).trans (by assumption)))) | exact rfl) ((IX_nI (by omega) (by omega))) (em) ?_
              refine g_istore (pc' := 62) dX5_chooseHolds_60 (by decide) ?_
              refine g_iload (pc' := 64) dX5_chooseHolds_62 rfl ?_
              refine g_if_ltN (tgt := 94) (pc' := 67) dX5_chooseHolds_64 (by decide) (by first | omega | decide) (fun z4 => ?_) (fun z4 => ?_)
              · exact z4.elim
              refine g_iload (pc' := 69) dX5_chooseHolds_67 rfl ?_
              refine g_aload_n (pc' := 70) dX5_chooseHolds_69 rfl rfl ?_
              refine g_alenJ (pc' := 71) dX5_chooseHolds_70 (by omega) (by first | assumption | exact va_up_self _ _ _ | exact (va_up_ne _ _ (by first | decide | omega)).trans (by assumption) | exact (va_up_ne _ _ (by first | decide | omega)).trans (va_up_self _ _ _) | exact (va_up_ne _ _ (by first | decide | omega)).trans ((va_up_ne _ _ (by first | decide | omega)).trans (by assumption)) | exact (va_up_ne _ _ (by first | decide | omega)).trans ((va_up_ne _ _ (by first | decide | omega)).trans (va_up_self _ _ _)) | exact (va_up_ne _ _ (by first | decide | omega)).trans ((va_up_ne _ _ (by first | decide | omega)).trans ((va_up_ne _ _ (by first | decide | omega)).trans (by assumption))) | exact (va_up_ne _ _ (by first | decide | omega)).trans ((va_up_ne _ _ (by first | decide | omega)).trans ((va_up_ne _ _ (by first | decide | omega)).trans ((va_up_ne _ _ (by first | decide | omega)).trans (by assumption)))) | exact rfl) ?_
              refine g_icmp_geN (tgt := 94) (pc' := 74) dX5_chooseHolds_71 (by decide) (by first | omega | decide) (by first | omega | decide) (fun z5 => ?_) (fun z5 => ?_)
              · omega
              refine g_aload_n (pc' := 75) dX5_chooseHolds_74 rfl rfl ?_
              refine g_iload (pc' := 77) dX5_chooseHolds_75 rfl ?_
              refine g_laldV (pc' := 78) dX5_chooseHolds_77 (by omega) (by first | assumption | exact va_up_self _ _ _ | exact (va_up_ne _ _ (by first | decide | omega)).trans (by assumption) | exact (va_up_ne _ _ (by first | decide | omega)).trans (va_up_self _ _ _) | exact (va_up_ne _ _ (by first | decide | omega)).trans ((va_up_ne _ _ (by first | decide | omega)).trans (by assumption)) | exact (va_up_ne _ _ (by first | decide | omega)).trans ((va_up_ne _ _ (by first | decide | omega)).trans (va_up_self _ _ _)) | exact (va_up_ne _ _ (by first | decide | omega)).trans ((va_up_ne _ _ (by first | decide | omega)).trans ((va_up_ne _ _ (by first | decide | omega)).trans (by assumption))) | exact (va_up_ne _ _ (by first | decide | omega)).trans ((va_up_ne _ _ (by first | decide | omega)).trans ((va_up_ne _ _ (by first | decide | omega)).trans ((va_up_ne _ _ (by first | decide | omega)).trans (by assumption)))) | exact rfl) ((IX_nI (by omega) (by omega))) (ev) ?_
              refine g_aload_n (pc' := 79) dX5_chooseHolds_78 rfl rfl ?_
              refine g_iload (pc' := 81) dX5_chooseHolds_79 rfl ?_
              refine g_laldV (pc' := 82) dX5_chooseHolds_81 (by omega) (by first | assumption | exact va_up_self _ _ _ | exact (va_up_ne _ _ (by first | decide | omega)).trans (by assumption) | exact (va_up_ne _ _ (by first | decide | omega)).trans (va_up_self _ _ _) | exact (va_up_ne _ _ (by first | decide | omega)).trans ((va_up_ne _ _ (by first | decide | omega)).trans (by assumption)) | exact (va_up_ne _ _ (by first | decide | omega)).trans ((va_up_ne _ _ (by first | decide | omega)).trans (va_up_self _ _ _)) | exact (va_up_ne _ _ (by first | decide | omega)).trans ((va_up_ne _ _ (by first | decide | omega)).trans ((va_up_ne _ _ (by first | decide | omega)).trans (by assumption))) | exact (va_up_ne _ _ (by first | decide | omega)).trans ((va_up_ne _ _ (by first | decide | omega)).trans ((va_up_ne _ _ (by first | decide | omega)).trans ((va_up_ne _ _ (by first | decide | omega)).trans (by assumption)))) | exact rfl) ((IX_nI (by omega) (by omega))) (ew) ?_
              refine g_lcmp (pc' := 83) dX5_chooseHolds_82 ?_
              refine g_if_ge (tgt := 94) (pc' := 86) dX5_chooseHolds_83 (by decide) (fun z3 => ?_) (fun z3 => ?_)
              · rw [lg_cmp_ge, pk_lLE l1 l2] at z3
                first | refine g_iincN (z := 1) (pc' := 97) dX5_chooseHolds_94 rfl rfl (by decide) ?_ | refine g_iinc (pc' := 97) dX5_chooseHolds_94 rfl rfl (by decide) ?_
                refine g_goto (tgt := 41) dX5_chooseHolds_97 (by decide) ?_
                refine ih2 (i + 1) f v (by omega) hf i1 i3 (fun s hs => ?_) _
                by_cases e : s = i
                · rw [e]; exact z3
                · exact i4 s (by omega)
              · rw [lg_cmp_ge, pk_lLE l1 l2] at z3
                refine g_aload_n (pc' := 87) dX5_chooseHolds_86 rfl rfl ?_
                refine g_iload (pc' := 89) dX5_chooseHolds_87 rfl ?_
                refine g_aload_n (pc' := 90) dX5_chooseHolds_89 rfl rfl ?_
                refine g_iload (pc' := 92) dX5_chooseHolds_90 rfl ?_
                refine g_laldV (pc' := 93) dX5_chooseHolds_92 (by omega) (by first | assumption | exact va_up_self _ _ _ | exact (va_up_ne _ _ (by first | decide | omega)).trans (by assumption) | exact (va_up_ne _ _ (by first | decide | omega)).trans (va_up_self _ _ _) | exact (va_up_ne _ _ (by first | decide | omega)).trans ((va_up_ne _ _ (by first | decide | omega)).trans (by assumption)) | exact (va_up_ne _ _ (by first | decide | omega)).trans ((va_up_ne _ _ (by first | decide | omega)).trans (va_up_self _ _ _)) | exact (va_up_ne _ _ (by first | decide | omega)).trans ((va_up_ne _ _ (by first | decide | omega)).trans ((va_up_ne _ _ (by first | decide | omega)).trans (by assumption))) | exact (va_up_ne _ _ (by first | decide | omega)).trans ((va_up_ne _ _ (by first | decide | omega)).trans ((va_up_ne _ _ (by first | decide | omega)).trans ((va_up_ne _ _ (by first | decide | omega)).trans (by assumption)))) | exact rfl) ((IX_nI (by omega) (by omega))) (ew) ?_
                refine g_last (pc' := 94) dX5_chooseHolds_93 (by omega) (by first | assumption | exact va_up_self _ _ _ | exact (va_up_ne _ _ (by first | decide | omega)).trans (by assumption) | exact (va_up_ne _ _ (by first | decide | omega)).trans (va_up_self _ _ _) | exact (va_up_ne _ _ (by first | decide | omega)).trans ((va_up_ne _ _ (by first | decide | omega)).trans (by assumption)) | exact (va_up_ne _ _ (by first | decide | omega)).trans ((va_up_ne _ _ (by first | decide | omega)).trans (va_up_self _ _ _)) | exact (va_up_ne _ _ (by first | decide | omega)).trans ((va_up_ne _ _ (by first | decide | omega)).trans ((va_up_ne _ _ (by first | decide | omega)).trans (by assumption))) | exact (va_up_ne _ _ (by first | decide | omega)).trans ((va_up_ne _ _ (by first | decide | omega)).trans ((va_up_ne _ _ (by first | decide | omega)).trans ((va_up_ne _ _ (by first | decide | omega)).trans (by assumption)))) | exact rfl) ((IX_nI (by omega) (by omega))) ?_
                rw [up_up]
                first | refine g_iincN (z := 1) (pc' := 97) dX5_chooseHolds_94 rfl rfl (by decide) ?_ | refine g_iinc (pc' := 97) dX5_chooseHolds_94 rfl rfl (by decide) ?_
                refine g_goto (tgt := 41) dX5_chooseHolds_97 (by decide) ?_
                have nv : ∀ h, (if h = nx S p i then bst D S val p else v h) = v h ∨ (h = nx S p i ∧ (if h = nx S p i then bst D S val p else v h) = bst D S val p) := fun h => by
                  by_cases e : h = nx S p i
                  · exact Or.inr ⟨e, if_pos e⟩
                  · exact Or.inl (if_neg e)
                have mono : ∀ h, v h ≤ (if h = nx S p i then bst D S val p else v h) := fun h => by
                  rcases nv h with q | ⟨q1, q2⟩
                  · omega
                  · rw [q2, q1]; omega
                refine ih2 (i + 1) _ (fun h => if h = nx S p i then bst D S val p else v h) (by omega) (fun h hh => ?_) (fun h hh => ⟨?_, ?_⟩) (fun p' q1 q2 s q3 => ?_) (fun s hs => ?_) _
                · by_cases e : h = nx S p i
                  · rw [e, pk_uLs]; simp
                  · rw [pk_uLn e]; simp only [e, if_false]; exact hf h hh
                · exact Nat.le_trans (i1 h hh).1 (mono h)
                · show (if h = nx S p i then bst D S val p else v h) ≤ _
                  rcases nv h with q | ⟨q1, q2⟩
                  · rw [q]; exact (i1 h hh).2
                  · rw [q2, q1]; exact hbm
                · exact Nat.le_trans (i3 p' q1 q2 s q3) (mono _)
                · by_cases e : s = i
                  · rw [e]; simp
                  · exact Nat.le_trans (i4 s (by omega)) (mono _)
        exact inner S 0 f v (by omega) hf i1 i3 (fun s q => absurd q (Nat.not_lt_zero s)) _
  refine outer (nh S (D - 1)) 0 _ (hv D S val) (by omega) (fun h hh => ?_) (fun h hh => ⟨Nat.le_refl _, hv_le_bst hh pt_rf⟩) (fun p' q => absurd q (Nat.not_lt_zero p')) _ _ _
  unfold va_cpy
  rw [if_pos (by omega), show 0 + (h - 0) = h by omega, hval h hh]
