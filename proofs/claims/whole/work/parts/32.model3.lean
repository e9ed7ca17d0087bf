theorem nI_m1 (a : Nat) : nI a + Int32.ofInt (-1) = nI a - 1 := by
  rw [show Int32.ofInt (-1) = (-1 : Int32) from by decide, Int32.sub_eq_add_neg]
theorem lit15 : (1000000000000000 : Int64) = lN 1000000000000000 := rfl
theorem c_isLarge {hp : AH} {n D S T R b : Nat} {fs : List Value} {Q : Option Value → AH → Nat → Prop} (hn : 64 ≤ n) (c47 : hp 47 = ob 8 fs) (F : MF fs D S T R) (hT : T ≤ 3) (hR : R ≤ 8) (hb2 : 1 ≤ b) (hb : b ≤ 7776) (f23 : fs[23]? = some (.long (lN b))) (hq : Q (some (.int (nI (bI (decide (1000000000000000 < b ^ (T * R))))))) hp n) : CT yX8_isLarge cX8_isLarge 4 (some .boolean) (rmD 0) [.ref 47] hp n Q := by
  obtain ⟨f99, f0, f1, f2, f3, f4, f5, f6, f9, f10, f11, f12, f13, f16, f24, f25, f26, f27, f28, f29, f30⟩ := F
  have hTR : T * R < 2 ^ 31 := Nat.lt_of_le_of_lt (Nat.mul_le_mul hT hR) (by decide)
  generalize hm : T * R = m at hq hTR
  show G yX8_isLarge cX8_isLarge 4 (some .boolean) (rmD 0) none Q 0 0 0 [.ref 47, uu, uu, uu] [] hp n
  refine g_lconst (pc' := 1) (v := lN 1) dX8_isLarge_0 (by decide) ?_
  refine g_lstore_n (pc' := 2) dX8_isLarge_1 rfl (by decide) ?_
  refine g_iconst (pc' := 3) (v := nI 0) dX8_isLarge_2 (by decide) ?_
  refine g_istore_n (pc' := 4) dX8_isLarge_3 rfl (by decide) ?_
  have loop : ∀ k i, i + k = m → b ^ i ≤ 1000000000000000 → G yX8_isLarge cX8_isLarge 4 (some .boolean) (rmD 0) none Q 0 0 4 [.ref 47, .long (lN (b ^ i)), uu, .int (nI i)] [] hp n := by
    intro k
    induction k with
    | zero =>
      intro i hi hbi
      have hi' : i = m := by omega
      subst hi'
      refine g_iload_n (pc' := 5) dX8_isLarge_4 rfl rfl ?_
      refine g_aload_n (pc' := 6) dX8_isLarge_5 rfl rfl ?_
      refine g_get (pc' := 9) fl_X8_16 dX8_isLarge_6 (by omega) (by first | assumption | exact va_up_self _ _ _ | exact (va_up_ne _ _ (by decide)).trans (by assumption) | exact (va_up_ne _ _ (by decide)).trans (va_up_self _ _ _) | exact (va_up_ne _ _ (by decide)).trans ((va_up_ne _ _ (by decide)).trans (by assumption)) | exact (va_up_ne _ _ (by decide)).trans ((va_up_ne _ _ (by decide)).trans (va_up_self _ _ _)) | exact (va_up_ne _ _ (by decide)).trans ((va_up_ne _ _ (by decide)).trans ((va_up_ne _ _ (by decide)).trans (by assumption))) | exact (va_up_ne _ _ (by decide)).trans ((va_up_ne _ _ (by decide)).trans ((va_up_ne _ _ (by decide)).trans ((va_up_ne _ _ (by decide)).trans (by assumption)))) | exact rfl) (by first | assumption | rfl | exact (List.getElem?_set_ne (by decide)).trans (by assumption) | exact List.getElem?_set_self (by omega)) ?_
      refine g_aload_n (pc' := 10) dX8_isLarge_9 rfl rfl ?_
      refine g_get (pc' := 13) fl_X8_86 dX8_isLarge_10 (by omega) (by first | assumption | exact va_up_self _ _ _ | exact (va_up_ne _ _ (by decide)).trans (by assumption) | exact (va_up_ne _ _ (by decide)).trans (va_up_self _ _ _) | exact (va_up_ne _ _ (by decide)).trans ((va_up_ne _ _ (by decide)).trans (by assumption)) | exact (va_up_ne _ _ (by decide)).trans ((va_up_ne _ _ (by decide)).trans (va_up_self _ _ _)) | exact (va_up_ne _ _ (by decide)).trans ((va_up_ne _ _ (by decide)).trans ((va_up_ne _ _ (by decide)).trans (by assumption))) | exact (va_up_ne _ _ (by decide)).trans ((va_up_ne _ _ (by decide)).trans ((va_up_ne _ _ (by decide)).trans ((va_up_ne _ _ (by decide)).trans (by assumption)))) | exact rfl) (by first | assumption | rfl | exact (List.getElem?_set_ne (by decide)).trans (by assumption) | exact List.getElem?_set_self (by omega)) ?_
      first | refine g_imulN (pc' := 14) dX8_isLarge_13 ?_ | refine g_imul (pc' := 14) dX8_isLarge_13 ?_
      rw [hm]
      refine g_icmp_geN (tgt := 40) (pc' := 17) dX8_isLarge_14 (by decide) (by first | omega | decide) (by first | omega | decide) (fun h1 => ?_) (fun h1 => ?_)
      · refine g_iconst (pc' := 41) (v := nI 0) dX8_isLarge_40 (by decide) ?_
        rw [decide_eq_false (by omega)] at hq
        exact g_zret dX8_isLarge_41 rfl (by decide) (Nat.le_refl _) (Nat.le_refl _) hq
      · omega
    | succ k ih =>
      intro i hi hbi
      refine g_iload_n (pc' := 5) dX8_isLarge_4 rfl rfl ?_
      refine g_aload_n (pc' := 6) dX8_isLarge_5 rfl rfl ?_
      refine g_get (pc' := 9) fl_X8_16 dX8_isLarge_6 (by omega) (by first | assumption | exact va_up_self _ _ _ | exact (va_up_ne _ _ (by decide)).trans (by assumption) | exact (va_up_ne _ _ (by decide)).trans (va_up_self _ _ _) | exact (va_up_ne _ _ (by decide)).trans ((va_up_ne _ _ (by decide)).trans (by assumption)) | exact (va_up_ne _ _ (by decide)).trans ((va_up_ne _ _ (by decide)).trans (va_up_self _ _ _)) | exact (va_up_ne _ _ (by decide)).trans ((va_up_ne _ _ (by decide)).trans ((va_up_ne _ _ (by decide)).trans (by assumption))) | exact (va_up_ne _ _ (by decide)).trans ((va_up_ne _ _ (by decide)).trans ((va_up_ne _ _ (by decide)).trans ((va_up_ne _ _ (by decide)).trans (by assumption)))) | exact rfl) (by first | assumption | rfl | exact (List.getElem?_set_ne (by decide)).trans (by assumption) | exact List.getElem?_set_self (by omega)) ?_
      refine g_aload_n (pc' := 10) dX8_isLarge_9 rfl rfl ?_
      refine g_get (pc' := 13) fl_X8_86 dX8_isLarge_10 (by omega) (by first | assumption | exact va_up_self _ _ _ | exact (va_up_ne _ _ (by decide)).trans (by assumption) | exact (va_up_ne _ _ (by decide)).trans (va_up_self _ _ _) | exact (va_up_ne _ _ (by decide)).trans ((va_up_ne _ _ (by decide)).trans (by assumption)) | exact (va_up_ne _ _ (by decide)).trans ((va_up_ne _ _ (by decide)).trans (va_up_self _ _ _)) | exact (va_up_ne _ _ (by decide)).trans ((va_up_ne _ _ (by decide)).trans ((va_up_ne _ _ (by decide)).trans (by assumption))) | exact (va_up_ne _ _ (by decide)).trans ((va_up_ne _ _ (by decide)).trans ((va_up_ne _ _ (by decide)).trans ((va_up_ne _ _ (by decide)).trans (by assumption)))) | exact rfl) (by first | assumption | rfl | exact (List.getElem?_set_ne (by decide)).trans (by assumption) | exact List.getElem?_set_self (by omega)) ?_
      first | refine g_imulN (pc' := 14) dX8_isLarge_13 ?_ | refine g_imul (pc' := 14) dX8_isLarge_13 ?_
      rw [hm]
      refine g_icmp_geN (tgt := 40) (pc' := 17) dX8_isLarge_14 (by decide) (by first | omega | decide) (by first | omega | decide) (fun h1 => ?_) (fun h1 => ?_)
      · omega
      · refine g_lload_n (pc' := 18) dX8_isLarge_17 rfl rfl ?_
        refine g_aload_n (pc' := 19) dX8_isLarge_18 rfl rfl ?_
        refine g_get (pc' := 22) fl_X8_89 dX8_isLarge_19 (by omega) (by first | assumption | exact va_up_self _ _ _ | exact (va_up_ne _ _ (by decide)).trans (by assumption) | exact (va_up_ne _ _ (by decide)).trans (va_up_self _ _ _) | exact (va_up_ne _ _ (by decide)).trans ((va_up_ne _ _ (by decide)).trans (by assumption)) | exact (va_up_ne _ _ (by decide)).trans ((va_up_ne _ _ (by decide)).trans (va_up_self _ _ _)) | exact (va_up_ne _ _ (by decide)).trans ((va_up_ne _ _ (by decide)).trans ((va_up_ne _ _ (by decide)).trans (by assumption))) | exact (va_up_ne _ _ (by decide)).trans ((va_up_ne _ _ (by decide)).trans ((va_up_ne _ _ (by decide)).trans ((va_up_ne _ _ (by decide)).trans (by assumption)))) | exact rfl) (by first | assumption | rfl | exact (List.getElem?_set_ne (by decide)).trans (by assumption) | exact List.getElem?_set_self (by omega)) ?_
        first | refine g_lmulN (pc' := 23) dX8_isLarge_22 ?_ | refine g_lmul (pc' := 23) dX8_isLarge_22 ?_
        refine g_lstore_n (pc' := 24) dX8_isLarge_23 rfl (by decide) ?_
        refine g_lload_n (pc' := 25) dX8_isLarge_24 rfl rfl ?_
        refine g_ldc2 (pc' := 28) dX8_isLarge_25 kl_X8_97 ?_
        refine g_lcmp (pc' := 29) dX8_isLarge_28 ?_
        rw [lit15]
        have hm1 : b ^ i * b ≤ 1000000000000000 * 7776 := Nat.mul_le_mul hbi hb
        refine g_if_le (tgt := 34) (pc' := 32) dX8_isLarge_29 (by decide) (fun h3 => ?_) (fun h3 => ?_)
        · rw [lg_cmp_le, pk_lLE (by omega) (by decide)] at h3
          first | refine g_iincN (z := 1) (pc' := 37) dX8_isLarge_34 rfl rfl (by decide) ?_ | refine g_iinc (pc' := 37) dX8_isLarge_34 rfl rfl (by decide) ?_
          refine g_goto (tgt := 4) dX8_isLarge_37 (by decide) ?_
          exact ih (i + 1) (by omega) (by rw [Nat.pow_succ]; exact h3)
        · rw [lg_cmp_le, pk_lLE (by omega) (by decide)] at h3
          refine g_iconst (pc' := 33) (v := nI 1) dX8_isLarge_32 (by decide) ?_
          have hle : b ^ (i + 1) ≤ b ^ m := Nat.pow_le_pow_right hb2 (by omega)
          rw [Nat.pow_succ] at hle
          rw [decide_eq_true (by omega)] at hq
          exact g_zret dX8_isLarge_33 rfl (by decide) (Nat.le_refl _) (Nat.le_refl _) hq
  exact loop m 0 (by omega) (by simp)
theorem c_findThrown {hp : AH} {n D S T R k : Nat} {fs : List Value} {fz fm : Nat → Int32} {fv ft : Nat → Int64} {val : Nat → Nat} {Q : Option Value → AH → Nat → Prop} (hn : 64 ≤ n) (c47 : hp 47 = ob 8 fs) (F : MF fs D S T R) (h2 : 2 ≤ S) (h6 : S ≤ 6) (hD : D ≤ 5) (hk1 : 1 ≤ k) (hk3 : k ≤ 3) (f8 : fs[8]? = some (.int (nI (nh S D)))) (c52 : hp 52 = aI 462 fz) (c54 : hp 54 = aI 2772 fm) (c59 : hp 59 = aJ 1386 fv) (c60 : hp 60 = aJ 462 ft) (hz : ∀ h, h < nh S D → fz h = nI (sz S h)) (hmo : ∀ h s, h < nh S D → sz S h < D → s < S → fm (6 * h + s) = nI (nx S h s)) (hval : ∀ h, h < nh S D → sz S h = D → fv (462 * (k - 1) + h) = lN (val h))
    (hq : ∀ ft' : Nat → Int64, (∀ h, h < nh S D → ft' h = lN (th D S val h)) → Q none (va_up hp 60 (aJ 462 ft')) n) : CT yX8_findThrown cX8_findThrown 4 none (rmD 0) [.ref 47, .int (nI k)] hp n Q := by
  obtain ⟨f99, f0, f1, f2, f3, f4, f5, f6, f9, f10, f11, f12, f13, f16, f24, f25, f26, f27, f28, f29, f30⟩ := F
  obtain ⟨hN, hN1⟩ := nh_le h2 h6 hD
  show G yX8_findThrown cX8_findThrown 4 none (rmD 0) none Q 0 0 0 [.ref 47, .int (nI k), uu, uu] [] hp n
  rw [← up_id c60]
  refine g_aload_n (pc' := 1) dX8_findThrown_0 rfl rfl ?_
  refine g_get (pc' := 4) fl_X8_71 dX8_findThrown_1 (by omega) (by first | assumption | exact va_up_self _ _ _ | exact (va_up_ne _ _ (by decide)).trans (by assumption) | exact (va_up_ne _ _ (by decide)).trans (va_up_self _ _ _) | exact (va_up_ne _ _ (by decide)).trans ((va_up_ne _ _ (by decide)).trans (by assumption)) | exact (va_up_ne _ _ (by decide)).trans ((va_up_ne _ _ (by decide)).trans (va_up_self _ _ _)) | exact (va_up_ne _ _ (by decide)).trans ((va_up_ne _ _ (by decide)).trans ((va_up_ne _ _ (by decide)).trans (by assumption))) | exact (va_up_ne _ _ (by decide)).trans ((va_up_ne _ _ (by decide)).trans ((va_up_ne _ _ (by decide)).trans ((va_up_ne _ _ (by decide)).trans (by assumption)))) | exact rfl) (by first | assumption | rfl | exact (List.getElem?_set_ne (by decide)).trans (by assumption) | exact List.getElem?_set_self (by omega)) ?_
  refine g_iconst (pc' := 5) (v := nI 1) dX8_findThrown_4 (by decide) ?_
  first | refine g_isubN (pc' := 6) dX8_findThrown_5 (by omega) ?_ | refine g_isub (pc' := 6) dX8_findThrown_5 ?_
  refine g_istore_n (pc' := 7) dX8_findThrown_6 rfl (by decide) ?_
  have loop : ∀ j ft, j ≤ nh S D → (∀ h, j ≤ h → h < nh S D → ft h = lN (th D S val h)) → ∀ w, G yX8_findThrown cX8_findThrown 4 none (rmD 0) none Q 0 0 7 [.ref 47, .int (nI k), .int (nI j - 1), w] [] (va_up hp 60 (aJ 462 ft)) n := by
    intro j
    induction j with
    | zero =>
      intro ft _ hft w
      refine g_iload_n (pc' := 8) dX8_findThrown_7 rfl rfl ?_
      refine g_if_lt (tgt := 108) (pc' := 11) dX8_findThrown_8 (by decide) (fun h1 => ?_) (fun h1 => ?_)
      · exact g_vret dX8_findThrown_108 rfl (Nat.le_refl _) (Nat.le_refl _) (hq ft (fun h hh => hft h (Nat.zero_le _) hh))
      · exact absurd (by decide) h1
    | succ h ih =>
      intro ft hj hft w
      rw [nI_pred]
      have hzl := sz_of h2 h6 hD (h := h) (by omega)
      refine g_iload_n (pc' := 8) dX8_findThrown_7 rfl rfl ?_
      refine g_if_ltN (tgt := 108) (pc' := 11) dX8_findThrown_8 (by decide) (by first | omega | decide) (fun h1 => ?_) (fun h1 => ?_)
      · exact h1.elim
      · clear h1
        have inner : ∀ m s ft, s + m = S → (∀ h', h + 1 ≤ h' → h' < nh S D → ft h' = lN (th D S val h')) → (sz S h < D → ft h = lN (smF (fun s => th D S val (nx S h s)) s)) → (sz S h = D → ft h = lN (th D S val h)) → G yX8_findThrown cX8_findThrown 4 none (rmD 0) none Q 0 0 50 [.ref 47, .int (nI k), .int (nI h), .int (nI s)] [] (va_up hp 60 (aJ 462 ft)) n := by
          intro m
          induction m with
          | zero =>
            intro s ft hs hup hlo hwh
            have hs' : s = S := by omega
            subst hs'
            refine g_iload_n (pc' := 51) dX8_findThrown_50 rfl rfl ?_
            refine g_aload_n (pc' := 52) dX8_findThrown_51 rfl rfl ?_
            refine g_get (pc' := 55) fl_X8_13 dX8_findThrown_52 (by omega) (by first | assumption | exact va_up_self _ _ _ | exact (va_up_ne _ _ (by decide)).trans (by assumption) | exact (va_up_ne _ _ (by decide)).trans (va_up_self _ _ _) | exact (va_up_ne _ _ (by decide)).trans ((va_up_ne _ _ (by decide)).trans (by assumption)) | exact (va_up_ne _ _ (by decide)).trans ((va_up_ne _ _ (by decide)).trans (va_up_self _ _ _)) | exact (va_up_ne _ _ (by decide)).trans ((va_up_ne _ _ (by decide)).trans ((va_up_ne _ _ (by decide)).trans (by assumption))) | exact (va_up_ne _ _ (by decide)).trans ((va_up_ne _ _ (by decide)).trans ((va_up_ne _ _ (by decide)).trans ((va_up_ne _ _ (by decide)).trans (by assumption)))) | exact rfl) (by first | assumption | rfl | exact (List.getElem?_set_ne (by decide)).trans (by assumption) | exact List.getElem?_set_self (by omega)) ?_
            refine g_icmp_geN (tgt := 102) (pc' := 58) dX8_findThrown_55 (by decide) (by first | omega | decide) (by first | omega | decide) (fun h1 => ?_) (fun h1 => ?_)
            · refine g_iinc (pc' := 105) dX8_findThrown_102 rfl (nI_m1 h) (by decide) ?_
              refine g_goto (tgt := 7) dX8_findThrown_105 (by decide) ?_
              refine ih ft (by omega) (fun h' h1 h3 => ?_) _
              rcases Nat.lt_or_ge h h' with q | q
              · exact hup h' q h3
              · have e : h' = h := by omega
                subst e
                rcases Nat.lt_or_ge (sz s h') D with z | z
                · rw [hlo z, th_step h2 h6 hD h3 z]
                · exact hwh (by omega)
            · omega
          | succ m ihm =>
            intro s ft hs hup hlo hwh
            refine g_iload_n (pc' := 51) dX8_findThrown_50 rfl rfl ?_
            refine g_aload_n (pc' := 52) dX8_findThrown_51 rfl rfl ?_
            refine g_get (pc' := 55) fl_X8_13 dX8_findThrown_52 (by omega) (by first | assumption | exact va_up_self _ _ _ | exact (va_up_ne _ _ (by decide)).trans (by assumption) | exact (va_up_ne _ _ (by decide)).trans (va_up_self _ _ _) | exact (va_up_ne _ _ (by decide)).trans ((va_up_ne _ _ (by decide)).trans (by assumption)) | exact (va_up_ne _ _ (by decide)).trans ((va_up_ne _ _ (by decide)).trans (va_up_self _ _ _)) | exact (va_up_ne _ _ (by decide)).trans ((va_up_ne _ _ (by decide)).trans ((va_up_ne _ _ (by decide)).trans (by assumption))) | exact (va_up_ne _ _ (by decide)).trans ((va_up_ne _ _ (by decide)).trans ((va_up_ne _ _ (by decide)).trans ((va_up_ne _ _ (by decide)).trans (by assumption)))) | exact rfl) (by first | assumption | rfl | exact (List.getElem?_set_ne (by decide)).trans (by assumption) | exact List.getElem?_set_self (by omega)) ?_
            refine g_icmp_geN (tgt := 102) (pc' := 58) dX8_findThrown_55 (by decide) (by first | omega | decide) (by first | omega | decide) (fun h1 => ?_) (fun h1 => ?_)
            · omega
            · refine g_aload_n (pc' := 59) dX8_findThrown_58 rfl rfl ?_
              refine g_get (pc' := 62) fl_X8_32 dX8_findThrown_59 (by omega) (by first | assumption | exact va_up_self _ _ _ | exact (va_up_ne _ _ (by decide)).trans (by assumption) | exact (va_up_ne _ _ (by decide)).trans (va_up_self _ _ _) | exact (va_up_ne _ _ (by decide)).trans ((va_up_ne _ _ (by decide)).trans (by assumption)) | exact (va_up_ne _ _ (by decide)).trans ((va_up_ne _ _ (by decide)).trans (va_up_self _ _ _)) | exact (va_up_ne _ _ (by decide)).trans ((va_up_ne _ _ (by decide)).trans ((va_up_ne _ _ (by decide)).trans (by assumption))) | exact (va_up_ne _ _ (by decide)).trans ((va_up_ne _ _ (by decide)).trans ((va_up_ne _ _ (by decide)).trans ((va_up_ne _ _ (by decide)).trans (by assumption)))) | exact rfl) (by first | assumption | rfl | exact (List.getElem?_set_ne (by decide)).trans (by assumption) | exact List.getElem?_set_self (by omega)) ?_
              refine g_iload_n (pc' := 63) dX8_findThrown_62 rfl rfl ?_
              refine g_ialdV (pc' := 64) dX8_findThrown_63 (by omega) (by first | assumption | exact va_up_self _ _ _ | exact (va_up_ne _ _ (by decide)).trans (by assumption) | exact (va_up_ne _ _ (by decide)).trans (va_up_self _ _ _) | exact (va_up_ne _ _ (by decide)).trans ((va_up_ne _ _ (by decide)).trans (by assumption)) | exact (va_up_ne _ _ (by decide)).trans ((va_up_ne _ _ (by decide)).trans (va_up_self _ _ _)) | exact (va_up_ne _ _ (by decide)).trans ((va_up_ne _ _ (by decide)).trans ((va_up_ne _ _ (by decide)).trans (by assumption))) | exact (va_up_ne _ _ (by decide)).trans ((va_up_ne _ _ (by decide)).trans ((va_up_ne _ _ (by decide)).trans ((va_up_ne _ _ (by decide)).trans (by assumption)))) | exact rfl) ((IX_nI (by omega) (by omega))) (hz _ (by omega)) ?_
              refine g_aload_n (pc' := 65) dX8_findThrown_64 rfl rfl ?_
              refine g_get (pc' := 68) fl_X8_7 dX8_findThrown_65 (by omega) (by first | assumption | exact va_up_self _ _ _ | exact (va_up_ne _ _ (by decide)).trans (by assumption) | exact (va_up_ne _ _ (by decide)).trans (va_up_self _ _ _) | exact (va_up_ne _ _ (by decide)).trans ((va_up_ne _ _ (by decide)).trans (by assumption)) | exact (va_up_ne _ _ (by decide)).trans ((va_up_ne _ _ (by decide)).trans (va_up_self _ _ _)) | exact (va_up_ne _ _ (by decide)).trans ((va_up_ne _ _ (by decide)).trans ((va_up_ne _ _ (by decide)).trans (by assumption))) | exact (va_up_ne _ _ (by decide)).trans ((va_up_ne _ _ (by decide)).trans ((va_up_ne _ _ (by decide)).trans ((va_up_ne _ _ (by decide)).trans (by assumption)))) | exact rfl) (by first | assumption | rfl | exact (List.getElem?_set_ne (by decide)).trans (by assumption) | exact List.getElem?_set_self (by omega)) ?_
              refine g_icmp_geN (tgt := 102) (pc' := 71) dX8_findThrown_68 (by decide) (by first | omega | decide) (by first | omega | decide) (fun h4 => ?_) (fun h4 => ?_)
              · refine g_iinc (pc' := 105) dX8_findThrown_102 rfl (nI_m1 h) (by decide) ?_
                refine g_goto (tgt := 7) dX8_findThrown_105 (by decide) ?_
                refine ih ft (by omega) (fun h' h1 h3 => ?_) _
                rcases Nat.lt_or_ge h h' with q | q
                · exact hup h' q h3
                · have e : h' = h := by omega
                  subst e
                  exact hwh (by omega)
              · obtain ⟨b1, b2, b3, -⟩ := nx_ok h2 h6 hD (show h < nh S D by omega) h4 (show s < S by omega)
                refine g_aload_n (pc' := 72) dX8_findThrown_71 rfl rfl ?_
                refine g_get (pc' := 75) fl_X8_57 dX8_findThrown_72 (by omega) (by first | assumption | exact va_up_self _ _ _ | exact (va_up_ne _ _ (by decide)).trans (by assumption) | exact (va_up_ne _ _ (by decide)).trans (va_up_self _ _ _) | exact (va_up_ne _ _ (by decide)).trans ((va_up_ne _ _ (by decide)).trans (by assumption)) | exact (va_up_ne _ _ (by decide)).trans ((va_up_ne _ _ (by decide)).trans (va_up_self _ _ _)) | exact (va_up_ne _ _ (by decide)).trans ((va_up_ne _ _ (by decide)).trans ((va_up_ne _ _ (by decide)).trans (by assumption))) | exact (va_up_ne _ _ (by decide)).trans ((va_up_ne _ _ (by decide)).trans ((va_up_ne _ _ (by decide)).trans ((va_up_ne _ _ (by decide)).trans (by assumption)))) | exact rfl) (by first | assumption | rfl | exact (List.getElem?_set_ne (by decide)).trans (by assumption) | exact List.getElem?_set_self (by omega)) ?_
                refine g_iload_n (pc' := 76) dX8_findThrown_75 rfl rfl ?_
                first | refine g_dup2 (pc' := 77) dX8_findThrown_76 rfl rfl ?_ | refine g_dup2_2 (pc' := 77) dX8_findThrown_76 rfl ?_
                refine g_laldV (pc' := 78) dX8_findThrown_77 (by omega) (by first | assumption | exact va_up_self _ _ _ | exact (va_up_ne _ _ (by decide)).trans (by assumption) | exact (va_up_ne _ _ (by decide)).trans (va_up_self _ _ _) | exact (va_up_ne _ _ (by decide)).trans ((va_up_ne _ _ (by decide)).trans (by assumption)) | exact (va_up_ne _ _ (by decide)).trans ((va_up_ne _ _ (by decide)).trans (va_up_self _ _ _)) | exact (va_up_ne _ _ (by decide)).trans ((va_up_ne _ _ (by decide)).trans ((va_up_ne _ _ (by decide)).trans (by assumption))) | exact (va_up_ne _ _ (by decide)).trans ((va_up_ne _ _ (by decide)).trans ((va_up_ne _ _ (by decide)).trans ((va_up_ne _ _ (by decide)).trans (by assumption)))) | exact rfl) ((IX_nI (by omega) (by omega))) (hlo h4) ?_
                refine g_aload_n (pc' := 79) dX8_findThrown_78 rfl rfl ?_
                refine g_get (pc' := 82) fl_X8_57 dX8_findThrown_79 (by omega) (by first | assumption | exact va_up_self _ _ _ | exact (va_up_ne _ _ (by decide)).trans (by assumption) | exact (va_up_ne _ _ (by decide)).trans (va_up_self _ _ _) | exact (va_up_ne _ _ (by decide)).trans ((va_up_ne _ _ (by decide)).trans (by assumption)) | exact (va_up_ne _ _ (by decide)).trans ((va_up_ne _ _ (by decide)).trans (va_up_self _ _ _)) | exact (va_up_ne _ _ (by decide)).trans ((va_up_ne _ _ (by decide)).trans ((va_up_ne _ _ (by decide)).trans (by assumption))) | exact (va_up_ne _ _ (by decide)).trans ((va_up_ne _ _ (by decide)).trans ((va_up_ne _ _ (by decide)).trans ((va_up_ne _ _ (by decide)).trans (by assumption)))) | exact rfl) (by first | assumption | rfl | exact (List.getElem?_set_ne (by decide)).trans (by assumption) | exact List.getElem?_set_self (by omega)) ?_
                refine g_aload_n (pc' := 83) dX8_findThrown_82 rfl rfl ?_
                refine g_get (pc' := 86) fl_X8_38 dX8_findThrown_83 (by omega) (by first | assumption | exact va_up_self _ _ _ | exact (va_up_ne _ _ (by decide)).trans (by assumption) | exact (va_up_ne _ _ (by decide)).trans (va_up_self _ _ _) | exact (va_up_ne _ _ (by decide)).trans ((va_up_ne _ _ (by decide)).trans (by assumption)) | exact (va_up_ne _ _ (by decide)).trans ((va_up_ne _ _ (by decide)).trans (va_up_self _ _ _)) | exact (va_up_ne _ _ (by decide)).trans ((va_up_ne _ _ (by decide)).trans ((va_up_ne _ _ (by decide)).trans (by assumption))) | exact (va_up_ne _ _ (by decide)).trans ((va_up_ne _ _ (by decide)).trans ((va_up_ne _ _ (by decide)).trans ((va_up_ne _ _ (by decide)).trans (by assumption)))) | exact rfl) (by first | assumption | rfl | exact (List.getElem?_set_ne (by decide)).trans (by assumption) | exact List.getElem?_set_self (by omega)) ?_
                refine g_bipush (pc' := 88) (v := nI 6) dX8_findThrown_86 (by decide) ?_
                refine g_iload_n (pc' := 89) dX8_findThrown_88 rfl rfl ?_
                first | refine g_imulN (pc' := 90) dX8_findThrown_89 ?_ | refine g_imul (pc' := 90) dX8_findThrown_89 ?_
                refine g_iload_n (pc' := 91) dX8_findThrown_90 rfl rfl ?_
                first | refine g_iaddN (pc' := 92) dX8_findThrown_91 ?_ | refine g_iadd (pc' := 92) dX8_findThrown_91 ?_
                refine g_ialdV (pc' := 93) dX8_findThrown_92 (by omega) (by first | assumption | exact va_up_self _ _ _ | exact (va_up_ne _ _ (by decide)).trans (by assumption) | exact (va_up_ne _ _ (by decide)).trans (va_up_self _ _ _) | exact (va_up_ne _ _ (by decide)).trans ((va_up_ne _ _ (by decide)).trans (by assumption)) | exact (va_up_ne _ _ (by decide)).trans ((va_up_ne _ _ (by decide)).trans (va_up_self _ _ _)) | exact (va_up_ne _ _ (by decide)).trans ((va_up_ne _ _ (by decide)).trans ((va_up_ne _ _ (by decide)).trans (by assumption))) | exact (va_up_ne _ _ (by decide)).trans ((va_up_ne _ _ (by decide)).trans ((va_up_ne _ _ (by decide)).trans ((va_up_ne _ _ (by decide)).trans (by assumption)))) | exact rfl) ((IX_nI (by omega) (by omega))) (hmo _ _ (by omega) h4 (by omega)) ?_
                refine g_laldV (pc' := 94) dX8_findThrown_93 (by omega) (by first | assumption | exact va_up_self _ _ _ | exact (va_up_ne _ _ (by decide)).trans (by assumption) | exact (va_up_ne _ _ (by decide)).trans (va_up_self _ _ _) | exact (va_up_ne _ _ (by decide)).trans ((va_up_ne _ _ (by decide)).trans (by assumption)) | exact (va_up_ne _ _ (by decide)).trans ((va_up_ne _ _ (by decide)).trans (va_up_self _ _ _)) | exact (va_up_ne _ _ (by decide)).trans ((va_up_ne _ _ (by decide)).trans ((va_up_ne _ _ (by decide)).trans (by assumption))) | exact (va_up_ne _ _ (by decide)).trans ((va_up_ne _ _ (by decide)).trans ((va_up_ne _ _ (by decide)).trans ((va_up_ne _ _ (by decide)).trans (by assumption)))) | exact rfl) ((IX_nI (by omega) (by omega))) (hup _ (by omega) b2) ?_
                first | refine g_laddN (pc' := 95) dX8_findThrown_94 ?_ | refine g_ladd (pc' := 95) dX8_findThrown_94 ?_
                refine g_last (pc' := 96) dX8_findThrown_95 (by omega) (by first | assumption | exact va_up_self _ _ _ | exact (va_up_ne _ _ (by decide)).trans (by assumption) | exact (va_up_ne _ _ (by decide)).trans (va_up_self _ _ _) | exact (va_up_ne _ _ (by decide)).trans ((va_up_ne _ _ (by decide)).trans (by assumption)) | exact (va_up_ne _ _ (by decide)).trans ((va_up_ne _ _ (by decide)).trans (va_up_self _ _ _)) | exact (va_up_ne _ _ (by decide)).trans ((va_up_ne _ _ (by decide)).trans ((va_up_ne _ _ (by decide)).trans (by assumption))) | exact (va_up_ne _ _ (by decide)).trans ((va_up_ne _ _ (by decide)).trans ((va_up_ne _ _ (by decide)).trans ((va_up_ne _ _ (by decide)).trans (by assumption)))) | exact rfl) ((IX_nI (by omega) (by omega))) ?_
                rw [up_up]
                first | refine g_iincN (z := 1) (pc' := 99) dX8_findThrown_96 rfl rfl (by decide) ?_ | refine g_iinc (pc' := 99) dX8_findThrown_96 rfl rfl (by decide) ?_
                refine g_goto (tgt := 50) dX8_findThrown_99 (by decide) ?_
                refine ihm (s + 1) _ (by omega) (fun h' q1 q2 => ?_) (fun _ => ?_) (fun q => by omega)
                · rw [pk_uLn (by omega)]; exact hup h' q1 q2
                · rw [pk_uLs]; rfl
        refine g_aload_n (pc' := 12) dX8_findThrown_11 rfl rfl ?_
        refine g_get (pc' := 15) fl_X8_57 dX8_findThrown_12 (by omega) (by first | assumption | exact va_up_self _ _ _ | exact (va_up_ne _ _ (by decide)).trans (by assumption) | exact (va_up_ne _ _ (by decide)).trans (va_up_self _ _ _) | exact (va_up_ne _ _ (by decide)).trans ((va_up_ne _ _ (by decide)).trans (by assumption)) | exact (va_up_ne _ _ (by decide)).trans ((va_up_ne _ _ (by decide)).trans (va_up_self _ _ _)) | exact (va_up_ne _ _ (by decide)).trans ((va_up_ne _ _ (by decide)).trans ((va_up_ne _ _ (by decide)).trans (by assumption))) | exact (va_up_ne _ _ (by decide)).trans ((va_up_ne _ _ (by decide)).trans ((va_up_ne _ _ (by decide)).trans ((va_up_ne _ _ (by decide)).trans (by assumption)))) | exact rfl) (by first | assumption | rfl | exact (List.getElem?_set_ne (by decide)).trans (by assumption) | exact List.getElem?_set_self (by omega)) ?_
        refine g_iload_n (pc' := 16) dX8_findThrown_15 rfl rfl ?_
        refine g_aload_n (pc' := 17) dX8_findThrown_16 rfl rfl ?_
        refine g_get (pc' := 20) fl_X8_32 dX8_findThrown_17 (by omega) (by first | assumption | exact va_up_self _ _ _ | exact (va_up_ne _ _ (by decide)).trans (by assumption) | exact (va_up_ne _ _ (by decide)).trans (va_up_self _ _ _) | exact (va_up_ne _ _ (by decide)).trans ((va_up_ne _ _ (by decide)).trans (by assumption)) | exact (va_up_ne _ _ (by decide)).trans ((va_up_ne _ _ (by decide)).trans (va_up_self _ _ _)) | exact (va_up_ne _ _ (by decide)).trans ((va_up_ne _ _ (by decide)).trans ((va_up_ne _ _ (by decide)).trans (by assumption))) | exact (va_up_ne _ _ (by decide)).trans ((va_up_ne _ _ (by decide)).trans ((va_up_ne _ _ (by decide)).trans ((va_up_ne _ _ (by decide)).trans (by assumption)))) | exact rfl) (by first | assumption | rfl | exact (List.getElem?_set_ne (by decide)).trans (by assumption) | exact List.getElem?_set_self (by omega)) ?_
        refine g_iload_n (pc' := 21) dX8_findThrown_20 rfl rfl ?_
        refine g_ialdV (pc' := 22) dX8_findThrown_21 (by omega) (by first | assumption | exact va_up_self _ _ _ | exact (va_up_ne _ _ (by decide)).trans (by assumption) | exact (va_up_ne _ _ (by decide)).trans (va_up_self _ _ _) | exact (va_up_ne _ _ (by decide)).trans ((va_up_ne _ _ (by decide)).trans (by assumption)) | exact (va_up_ne _ _ (by decide)).trans ((va_up_ne _ _ (by decide)).trans (va_up_self _ _ _)) | exact (va_up_ne _ _ (by decide)).trans ((va_up_ne _ _ (by decide)).trans ((va_up_ne _ _ (by decide)).trans (by assumption))) | exact (va_up_ne _ _ (by decide)).trans ((va_up_ne _ _ (by decide)).trans ((va_up_ne _ _ (by decide)).trans ((va_up_ne _ _ (by decide)).trans (by assumption)))) | exact rfl) ((IX_nI (by omega) (by omega))) (hz _ (by omega)) ?_
        refine g_aload_n (pc' := 23) dX8_findThrown_22 rfl rfl ?_
        refine g_get (pc' := 26) fl_X8_7 dX8_findThrown_23 (by omega) (by first | assumption | exact va_up_self _ _ _ | exact (va_up_ne _ _ (by decide)).trans (by assumption) | exact (va_up_ne _ _ (by decide)).trans (va_up_self _ _ _) | exact (va_up_ne _ _ (by decide)).trans ((va_up_ne _ _ (by decide)).trans (by assumption)) | exact (va_up_ne _ _ (by decide)).trans ((va_up_ne _ _ (by decide)).trans (va_up_self _ _ _)) | exact (va_up_ne _ _ (by decide)).trans ((va_up_ne _ _ (by decide)).trans ((va_up_ne _ _ (by decide)).trans (by assumption))) | exact (va_up_ne _ _ (by decide)).trans ((va_up_ne _ _ (by decide)).trans ((va_up_ne _ _ (by decide)).trans ((va_up_ne _ _ (by decide)).trans (by assumption)))) | exact rfl) (by first | assumption | rfl | exact (List.getElem?_set_ne (by decide)).trans (by assumption) | exact List.getElem?_set_self (by omega)) ?_
        refine g_icmp_neN (tgt := 46) (pc' := 29) dX8_findThrown_26 (by decide) (by first | omega | decide) (by first | omega | decide) (fun h4 => ?_) (fun h4 => ?_)
        · refine g_lconst (pc' := 47) (v := lN 0) dX8_findThrown_46 (by decide) ?_
          refine g_last (pc' := 48) dX8_findThrown_47 (by omega) (by first | assumption | exact va_up_self _ _ _ | exact (va_up_ne _ _ (by decide)).trans (by assumption) | exact (va_up_ne _ _ (by decide)).trans (va_up_self _ _ _) | exact (va_up_ne _ _ (by decide)).trans ((va_up_ne _ _ (by decide)).trans (by assumption)) | exact (va_up_ne _ _ (by decide)).trans ((va_up_ne _ _ (by decide)).trans (va_up_self _ _ _)) | exact (va_up_ne _ _ (by decide)).trans ((va_up_ne _ _ (by decide)).trans ((va_up_ne _ _ (by decide)).trans (by assumption))) | exact (va_up_ne _ _ (by decide)).trans ((va_up_ne _ _ (by decide)).trans ((va_up_ne _ _ (by decide)).trans ((va_up_ne _ _ (by decide)).trans (by assumption)))) | exact rfl) ((IX_nI (by omega) (by omega))) ?_
          rw [up_up]
          refine g_iconst (pc' := 49) (v := nI 0) dX8_findThrown_48 (by decide) ?_
          refine g_istore_n (pc' := 50) dX8_findThrown_49 rfl (by decide) ?_
          refine inner S 0 _ (by omega) (fun h' q1 q2 => ?_) (fun _ => ?_) (fun q => absurd q h4)
          · rw [pk_uLn (by omega)]; exact hft h' q1 q2
          · rw [pk_uLs]; rfl
        · refine g_aload_n (pc' := 30) dX8_findThrown_29 rfl rfl ?_
          refine g_get (pc' := 33) fl_X8_54 dX8_findThrown_30 (by omega) (by first | assumption | exact va_up_self _ _ _ | exact (va_up_ne _ _ (by decide)).trans (by assumption) | exact (va_up_ne _ _ (by decide)).trans (va_up_self _ _ _) | exact (va_up_ne _ _ (by decide)).trans ((va_up_ne _ _ (by decide)).trans (by assumption)) | exact (va_up_ne _ _ (by decide)).trans ((va_up_ne _ _ (by decide)).trans (va_up_self _ _ _)) | exact (va_up_ne _ _ (by decide)).trans ((va_up_ne _ _ (by decide)).trans ((va_up_ne _ _ (by decide)).trans (by assumption))) | exact (va_up_ne _ _ (by decide)).trans ((va_up_ne _ _ (by decide)).trans ((va_up_ne _ _ (by decide)).trans ((va_up_ne _ _ (by decide)).trans (by assumption)))) | exact rfl) (by first | assumption | rfl | exact (List.getElem?_set_ne (by decide)).trans (by assumption) | exact List.getElem?_set_self (by omega)) ?_
          refine g_sipush (pc' := 36) (v := nI 462) dX8_findThrown_33 (by decide) ?_
          refine g_iload_n (pc' := 37) dX8_findThrown_36 rfl rfl ?_
          refine g_iconst (pc' := 38) (v := nI 1) dX8_findThrown_37 (by decide) ?_
          first | refine g_isubN (pc' := 39) dX8_findThrown_38 (by omega) ?_ | refine g_isub (pc' := 39) dX8_findThrown_38 ?_
          first | refine g_imulN (pc' := 40) dX8_findThrown_39 ?_ | refine g_imul (pc' := 40) dX8_findThrown_39 ?_
          refine g_iload_n (pc' := 41) dX8_findThrown_40 rfl rfl ?_
          first | refine g_iaddN (pc' := 42) dX8_findThrown_41 ?_ | refine g_iadd (pc' := 42) dX8_findThrown_41 ?_
          refine g_laldV (pc' := 43) dX8_findThrown_42 (by omega) (by first | assumption | exact va_up_self _ _ _ | exact (va_up_ne _ _ (by decide)).trans (by assumption) | exact (va_up_ne _ _ (by decide)).trans (va_up_self _ _ _) | exact (va_up_ne _ _ (by decide)).trans ((va_up_ne _ _ (by decide)).trans (by assumption)) | exact (va_up_ne _ _ (by decide)).trans ((va_up_ne _ _ (by decide)).trans (va_up_self _ _ _)) | exact (va_up_ne _ _ (by decide)).trans ((va_up_ne _ _ (by decide)).trans ((va_up_ne _ _ (by decide)).trans (by assumption))) | exact (va_up_ne _ _ (by decide)).trans ((va_up_ne _ _ (by decide)).trans ((va_up_ne _ _ (by decide)).trans ((va_up_ne _ _ (by decide)).trans (by assumption)))) | exact rfl) ((IX_nI (by omega) (by omega))) (hval h (by omega) h4) ?_
          refine g_goto (tgt := 47) dX8_findThrown_43 (by decide) ?_
          refine g_last (pc' := 48) dX8_findThrown_47 (by omega) (by first | assumption | exact va_up_self _ _ _ | exact (va_up_ne _ _ (by decide)).trans (by assumption) | exact (va_up_ne _ _ (by decide)).trans (va_up_self _ _ _) | exact (va_up_ne _ _ (by decide)).trans ((va_up_ne _ _ (by decide)).trans (by assumption)) | exact (va_up_ne _ _ (by decide)).trans ((va_up_ne _ _ (by decide)).trans (va_up_self _ _ _)) | exact (va_up_ne _ _ (by decide)).trans ((va_up_ne _ _ (by decide)).trans ((va_up_ne _ _ (by decide)).trans (by assumption))) | exact (va_up_ne _ _ (by decide)).trans ((va_up_ne _ _ (by decide)).trans ((va_up_ne _ _ (by decide)).trans ((va_up_ne _ _ (by decide)).trans (by assumption)))) | exact rfl) ((IX_nI (by omega) (by omega))) ?_
          rw [up_up]
          refine g_iconst (pc' := 49) (v := nI 0) dX8_findThrown_48 (by decide) ?_
          refine g_istore_n (pc' := 50) dX8_findThrown_49 rfl (by decide) ?_
          refine inner S 0 _ (by omega) (fun h' q1 q2 => ?_) (fun q => by omega) (fun _ => ?_)
          · rw [pk_uLn (by omega)]; exact hft h' q1 q2
          · rw [pk_uLs, th_whole h4]
  have e0 : nI (nh S D - 1) = nI (nh S D) - 1 := by
    obtain ⟨z, hz9⟩ : ∃ z, nh S D = z + 1 := ⟨nh S D - 1, by omega⟩
    rw [hz9, nI_pred]
    rfl
  have := loop (nh S D) ft (Nat.le_refl _) (fun h q1 q2 => absurd q2 (by omega)) uu
  rw [← e0] at this
  exact this
