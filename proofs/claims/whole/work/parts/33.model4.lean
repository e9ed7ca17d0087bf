theorem pw_pos {a : Nat} (h : 1 ≤ a) : ∀ k, 1 ≤ a ^ k
  | 0 => Nat.le_refl 1
  | k + 1 => by
    rw [Nat.pow_succ]
    exact Nat.mul_le_mul (pw_pos h k) h
theorem lg_le {a b : Nat} (ha : a < 2 ^ 63) (hb : b < 2 ^ 63) : lg_cmp (lN a) (lN b) ≤ 0 ↔ a ≤ b := by rw [lg_cmp_le, pk_lLE ha hb]
theorem c_findTurn {hp : AH} {n D S T R M : Nat} {fs : List Value} {fsh fz fm : Nat → Int32} {fp fv ft : Nat → Int64} {gr : Nat → Nat} {Q : Option Value → AH → Nat → Prop} (hn : 64 ≤ n) (c47 : hp 47 = ob 8 fs) (F : MF fs D S T R) (h2 : 2 ≤ S) (h6 : S ≤ 6) (hD : D ≤ 5) (hT1 : 1 ≤ T) (hT3 : T ≤ 3) (f8 : fs[8]? = some (.int (nI (nh S D)))) (c51 : hp 51 = aI 2772 fsh) (c52 : hp 52 = aI 462 fz) (c54 : hp 54 = aI 2772 fm) (c57 : hp 57 = aJ 6 fp) (c59 : hp 59 = aJ 1386 fv) (c60 : hp 60 = aJ 462 ft) (hsh : ∀ h k, h < nh S D → k < 6 → fsh (6 * h + k) = nI (sh S h k)) (hz : ∀ h, h < nh S D → fz h = nI (sz S h)) (hmo : ∀ h s, h < nh S D → sz S h < D → s < S → fm (6 * h + s) = nI (nx S h s)) (hpw : ∀ k, k < 6 → fp k = lN (S ^ k)) (hval : ∀ h, h < nh S D → sz S h = D → fv h = lN (gr h)) (hM : ∀ h, h < nh S D → sz S h = D → gr h ≤ M) (hB : M * (S ^ D) ^ T < 2 ^ 63)
    (hq : ∀ fv' ft' : Nat → Int64, (∀ k h, k < T → h < nh S D → sz S h = D → fv' (462 * k + h) = lN (vl D S gr k h)) → Q none (va_up (va_up hp 59 (aJ 1386 fv')) 60 (aJ 462 ft')) n) : CT yX8_findTurn cX8_findTurn 8 none (rmD 1) [.ref 47] hp n Q := by
  have F' := F
  obtain ⟨f99, f0, f1, f2, f3, f4, f5, f6, f9, f10, f11, f12, f13, f16, f24, f25, f26, f27, f28, f29, f30⟩ := F'
  obtain ⟨hN, hN1⟩ := nh_le h2 h6 hD
  have hb1 : 1 ≤ S ^ D := pw_pos (by omega) D
  have hMk : ∀ k, k ≤ T → M * (S ^ D) ^ k < 2 ^ 63 := fun k hk => Nat.lt_of_le_of_lt (Nat.mul_le_mul_left M (Nat.pow_le_pow_right hb1 hk)) hB
  show G yX8_findTurn cX8_findTurn 8 none (rmD 1) none Q 0 0 0 [.ref 47, uu, uu, uu, uu, uu, uu, uu] [] hp n
  have e60 : va_up hp 59 (aJ 1386 fv) 60 = aJ 462 ft := (va_up_ne _ _ (by decide)).trans c60
  rw [← up_id c59]
  rw [← up_id e60]
  refine g_iconst (pc' := 1) (v := nI 1) dX8_findTurn_0 (by decide) ?_
  refine g_istore_n (pc' := 2) dX8_findTurn_1 rfl (by decide) ?_
  have loop : ∀ j k fv ft w2 w3 w4 w5 w6 w7, k + 1 + j = T → (∀ i h, i < k + 1 → h < nh S D → sz S h = D → fv (462 * i + h) = lN (vl D S gr i h)) → G yX8_findTurn cX8_findTurn 8 none (rmD 1) none Q 0 0 2 [.ref 47, .int (nI (k + 1)), w2, w3, w4, w5, w6, w7] [] (va_up (va_up hp 59 (aJ 1386 fv)) 60 (aJ 462 ft)) n := by
    intro j
    induction j with
    | zero =>
      intro k fv ft w2 w3 w4 w5 w6 w7 hk hfv
      refine g_iload_n (pc' := 3) dX8_findTurn_2 rfl rfl ?_
      refine g_aload_n (pc' := 4) dX8_findTurn_3 rfl rfl ?_
      refine g_get (pc' := 7) fl_X8_16 dX8_findTurn_4 (by omega) (by first | assumption | exact va_up_self _ _ _ | exact (va_up_ne _ _ (by decide)).trans (by assumption) | exact (va_up_ne _ _ (by decide)).trans (va_up_self _ _ _) | exact (va_up_ne _ _ (by decide)).trans ((va_up_ne _ _ (by decide)).trans (by assumption)) | exact (va_up_ne _ _ (by decide)).trans ((va_up_ne _ _ (by decide)).trans (va_up_self _ _ _)) | exact (va_up_ne _ _ (by decide)).trans ((va_up_ne _ _ (by decide)).trans ((va_up_ne _ _ (by decide)).trans (by assumption))) | exact (va_up_ne _ _ (by decide)).trans ((va_up_ne _ _ (by decide)).trans ((va_up_ne _ _ (by decide)).trans ((va_up_ne _ _ (by decide)).trans (by assumption)))) | exact rfl) (by first | assumption | rfl | exact (List.getElem?_set_ne (by decide)).trans (by assumption) | exact List.getElem?_set_self (by omega)) ?_
      refine g_icmp_geN (tgt := 133) (pc' := 10) dX8_findTurn_7 (by decide) (by first | omega | decide) (by first | omega | decide) (fun h1 => ?_) (fun h1 => ?_)
      · exact g_vret dX8_findTurn_133 rfl (Nat.le_refl _) (Nat.le_refl _) (hq fv ft (fun i h hi hh hz => hfv i h (by omega) hh hz))
      · omega
    | succ j ih =>
      intro k fv ft w2 w3 w4 w5 w6 w7 hk hfv
      have hvM := vl_le h2 h6 hD hM k
      have hhv : ∀ g, g < nh S D → hv D S (vl D S gr k) g < 2 ^ 63 := fun g hg => by
        have h9 := hv_le h2 h6 hD hvM hg
        rw [Nat.mul_assoc, ← Nat.pow_succ] at h9
        exact Nat.lt_of_le_of_lt h9 (hMk (k + 1) (by omega))
      refine g_iload_n (pc' := 3) dX8_findTurn_2 rfl rfl ?_
      refine g_aload_n (pc' := 4) dX8_findTurn_3 rfl rfl ?_
      refine g_get (pc' := 7) fl_X8_16 dX8_findTurn_4 (by omega) (by first | assumption | exact va_up_self _ _ _ | exact (va_up_ne _ _ (by decide)).trans (by assumption) | exact (va_up_ne _ _ (by decide)).trans (va_up_self _ _ _) | exact (va_up_ne _ _ (by decide)).trans ((va_up_ne _ _ (by decide)).trans (by assumption)) | exact (va_up_ne _ _ (by decide)).trans ((va_up_ne _ _ (by decide)).trans (va_up_self _ _ _)) | exact (va_up_ne _ _ (by decide)).trans ((va_up_ne _ _ (by decide)).trans ((va_up_ne _ _ (by decide)).trans (by assumption))) | exact (va_up_ne _ _ (by decide)).trans ((va_up_ne _ _ (by decide)).trans ((va_up_ne _ _ (by decide)).trans ((va_up_ne _ _ (by decide)).trans (by assumption)))) | exact rfl) (by first | assumption | rfl | exact (List.getElem?_set_ne (by decide)).trans (by assumption) | exact List.getElem?_set_self (by omega)) ?_
      refine g_icmp_geN (tgt := 133) (pc' := 10) dX8_findTurn_7 (by decide) (by first | omega | decide) (by first | omega | decide) (fun h1 => ?_) (fun h1 => ?_)
      · omega
      · refine g_aload_n (pc' := 11) dX8_findTurn_10 rfl rfl ?_
        refine g_iload_n (pc' := 12) dX8_findTurn_11 rfl rfl ?_
        refine gc_V 15 47 [.int (nI (k + 1))] [] cw_X8_99 im_X8_findThrown se_X8_findThrown dX8_findTurn_12 (by decide) (by decide) (Nat.le_refl _) (Nat.le_refl _) (Nat.le_of_ble_eq_true rfl) rfl (Nat.le_of_ble_eq_true rfl) (by omega) (by first | assumption | exact va_up_self _ _ _ | exact (va_up_ne _ _ (by decide)).trans (by assumption) | exact (va_up_ne _ _ (by decide)).trans (va_up_self _ _ _) | exact (va_up_ne _ _ (by decide)).trans ((va_up_ne _ _ (by decide)).trans (by assumption)) | exact (va_up_ne _ _ (by decide)).trans ((va_up_ne _ _ (by decide)).trans (va_up_self _ _ _)) | exact (va_up_ne _ _ (by decide)).trans ((va_up_ne _ _ (by decide)).trans ((va_up_ne _ _ (by decide)).trans (by assumption))) | exact (va_up_ne _ _ (by decide)).trans ((va_up_ne _ _ (by decide)).trans ((va_up_ne _ _ (by decide)).trans ((va_up_ne _ _ (by decide)).trans (by assumption)))) | exact rfl) rfl rfl (c_findThrown (val := vl D S gr k) hn (by first | assumption | exact va_up_self _ _ _ | exact (va_up_ne _ _ (by decide)).trans (by assumption) | exact (va_up_ne _ _ (by decide)).trans (va_up_self _ _ _) | exact (va_up_ne _ _ (by decide)).trans ((va_up_ne _ _ (by decide)).trans (by assumption)) | exact (va_up_ne _ _ (by decide)).trans ((va_up_ne _ _ (by decide)).trans (va_up_self _ _ _)) | exact (va_up_ne _ _ (by decide)).trans ((va_up_ne _ _ (by decide)).trans ((va_up_ne _ _ (by decide)).trans (by assumption))) | exact (va_up_ne _ _ (by decide)).trans ((va_up_ne _ _ (by decide)).trans ((va_up_ne _ _ (by decide)).trans ((va_up_ne _ _ (by decide)).trans (by assumption)))) | exact rfl) F h2 h6 hD (by omega) (by omega) f8 (by first | assumption | exact va_up_self _ _ _ | exact (va_up_ne _ _ (by decide)).trans (by assumption) | exact (va_up_ne _ _ (by decide)).trans (va_up_self _ _ _) | exact (va_up_ne _ _ (by decide)).trans ((va_up_ne _ _ (by decide)).trans (by assumption)) | exact (va_up_ne _ _ (by decide)).trans ((va_up_ne _ _ (by decide)).trans (va_up_self _ _ _)) | exact (va_up_ne _ _ (by decide)).trans ((va_up_ne _ _ (by decide)).trans ((va_up_ne _ _ (by decide)).trans (by assumption))) | exact (va_up_ne _ _ (by decide)).trans ((va_up_ne _ _ (by decide)).trans ((va_up_ne _ _ (by decide)).trans ((va_up_ne _ _ (by decide)).trans (by assumption)))) | exact rfl) (by first | assumption | exact va_up_self _ _ _ | exact (va_up_ne _ _ (by decide)).trans (by assumption) | exact (va_up_ne _ _ (by decide)).trans (va_up_self _ _ _) | exact (va_up_ne _ _ (by decide)).trans ((va_up_ne _ _ (by decide)).trans (by assumption)) | exact (va_up_ne _ _ (by decide)).trans ((va_up_ne _ _ (by decide)).trans (va_up_self _ _ _)) | exact (va_up_ne _ _ (by decide)).trans ((va_up_ne _ _ (by decide)).trans ((va_up_ne _ _ (by decide)).trans (by assumption))) | exact (va_up_ne _ _ (by decide)).trans ((va_up_ne _ _ (by decide)).trans ((va_up_ne _ _ (by decide)).trans ((va_up_ne _ _ (by decide)).trans (by assumption)))) | exact rfl) (by first | assumption | exact va_up_self _ _ _ | exact (va_up_ne _ _ (by decide)).trans (by assumption) | exact (va_up_ne _ _ (by decide)).trans (va_up_self _ _ _) | exact (va_up_ne _ _ (by decide)).trans ((va_up_ne _ _ (by decide)).trans (by assumption)) | exact (va_up_ne _ _ (by decide)).trans ((va_up_ne _ _ (by decide)).trans (va_up_self _ _ _)) | exact (va_up_ne _ _ (by decide)).trans ((va_up_ne _ _ (by decide)).trans ((va_up_ne _ _ (by decide)).trans (by assumption))) | exact (va_up_ne _ _ (by decide)).trans ((va_up_ne _ _ (by decide)).trans ((va_up_ne _ _ (by decide)).trans ((va_up_ne _ _ (by decide)).trans (by assumption)))) | exact rfl) (by first | assumption | exact va_up_self _ _ _ | exact (va_up_ne _ _ (by decide)).trans (by assumption) | exact (va_up_ne _ _ (by decide)).trans (va_up_self _ _ _) | exact (va_up_ne _ _ (by decide)).trans ((va_up_ne _ _ (by decide)).trans (by assumption)) | exact (va_up_ne _ _ (by decide)).trans ((va_up_ne _ _ (by decide)).trans (va_up_self _ _ _)) | exact (va_up_ne _ _ (by decide)).trans ((va_up_ne _ _ (by decide)).trans ((va_up_ne _ _ (by decide)).trans (by assumption))) | exact (va_up_ne _ _ (by decide)).trans ((va_up_ne _ _ (by decide)).trans ((va_up_ne _ _ (by decide)).trans ((va_up_ne _ _ (by decide)).trans (by assumption)))) | exact rfl) hz hmo (fun h hh hz => hfv k h (by omega) hh hz) (fun ft' hft' => ⟨rfl, ?_⟩))
        rw [up_up]
        refine g_iconst (pc' := 16) (v := nI 0) dX8_findTurn_15 (by decide) ?_
        refine g_istore_n (pc' := 17) dX8_findTurn_16 rfl (by decide) ?_
        have mid : ∀ j2 h fv w3 w4 w5 w6 w7, h + j2 = nh S D → (∀ i h, i < k + 1 → h < nh S D → sz S h = D → fv (462 * i + h) = lN (vl D S gr i h)) → (∀ h', h' < h → sz S h' = D → fv (462 * (k + 1) + h') = lN (vl D S gr (k + 1) h')) → G yX8_findTurn cX8_findTurn 8 none (rmD 1) none Q 0 0 17 [.ref 47, .int (nI (k + 1)), .int (nI h), w3, w4, w5, w6, w7] [] (va_up (va_up hp 59 (aJ 1386 fv)) 60 (aJ 462 ft')) n := by
          intro j2
          induction j2 with
          | zero =>
            intro h fv w3 w4 w5 w6 w7 hh hfv hfk
            refine g_iload_n (pc' := 18) dX8_findTurn_17 rfl rfl ?_
            refine g_aload_n (pc' := 19) dX8_findTurn_18 rfl rfl ?_
            refine g_get (pc' := 22) fl_X8_71 dX8_findTurn_19 (by omega) (by first | assumption | exact va_up_self _ _ _ | exact (va_up_ne _ _ (by decide)).trans (by assumption) | exact (va_up_ne _ _ (by decide)).trans (va_up_self _ _ _) | exact (va_up_ne _ _ (by decide)).trans ((va_up_ne _ _ (by decide)).trans (by assumption)) | exact (va_up_ne _ _ (by decide)).trans ((va_up_ne _ _ (by decide)).trans (va_up_self _ _ _)) | exact (va_up_ne _ _ (by decide)).trans ((va_up_ne _ _ (by decide)).trans ((va_up_ne _ _ (by decide)).trans (by assumption))) | exact (va_up_ne _ _ (by decide)).trans ((va_up_ne _ _ (by decide)).trans ((va_up_ne _ _ (by decide)).trans ((va_up_ne _ _ (by decide)).trans (by assumption)))) | exact rfl) (by first | assumption | rfl | exact (List.getElem?_set_ne (by decide)).trans (by assumption) | exact List.getElem?_set_self (by omega)) ?_
            refine g_icmp_geN (tgt := 127) (pc' := 25) dX8_findTurn_22 (by decide) (by first | omega | decide) (by first | omega | decide) (fun h3 => ?_) (fun h3 => ?_)
            · first | refine g_iincN (z := 1) (pc' := 130) dX8_findTurn_127 rfl rfl (by decide) ?_ | refine g_iinc (pc' := 130) dX8_findTurn_127 rfl rfl (by decide) ?_
              refine g_goto (tgt := 2) dX8_findTurn_130 (by decide) ?_
              refine ih (k + 1) fv ft' _ _ _ _ _ _ (by omega) (fun i h' hi hh' hz => ?_)
              rcases Nat.lt_or_ge i (k + 1) with q | q
              · exact hfv i h' q hh' hz
              · have e : i = k + 1 := by omega
                subst e
                exact hfk h' (by omega) hz
            · omega
          | succ j2 ih2 =>
            intro h fv w3 w4 w5 w6 w7 hh hfv hfk
            have zl := sz_le S h
            refine g_iload_n (pc' := 18) dX8_findTurn_17 rfl rfl ?_
            refine g_aload_n (pc' := 19) dX8_findTurn_18 rfl rfl ?_
            refine g_get (pc' := 22) fl_X8_71 dX8_findTurn_19 (by omega) (by first | assumption | exact va_up_self _ _ _ | exact (va_up_ne _ _ (by decide)).trans (by assumption) | exact (va_up_ne _ _ (by decide)).trans (va_up_self _ _ _) | exact (va_up_ne _ _ (by decide)).trans ((va_up_ne _ _ (by decide)).trans (by assumption)) | exact (va_up_ne _ _ (by decide)).trans ((va_up_ne _ _ (by decide)).trans (va_up_self _ _ _)) | exact (va_up_ne _ _ (by decide)).trans ((va_up_ne _ _ (by decide)).trans ((va_up_ne _ _ (by decide)).trans (by assumption))) | exact (va_up_ne _ _ (by decide)).trans ((va_up_ne _ _ (by decide)).trans ((va_up_ne _ _ (by decide)).trans ((va_up_ne _ _ (by decide)).trans (by assumption)))) | exact rfl) (by first | assumption | rfl | exact (List.getElem?_set_ne (by decide)).trans (by assumption) | exact List.getElem?_set_self (by omega)) ?_
            refine g_icmp_geN (tgt := 127) (pc' := 25) dX8_findTurn_22 (by decide) (by first | omega | decide) (by first | omega | decide) (fun h3 => ?_) (fun h3 => ?_)
            · omega
            · refine g_aload_n (pc' := 26) dX8_findTurn_25 rfl rfl ?_
              refine g_get (pc' := 29) fl_X8_32 dX8_findTurn_26 (by omega) (by first | assumption | exact va_up_self _ _ _ | exact (va_up_ne _ _ (by decide)).trans (by assumption) | exact (va_up_ne _ _ (by decide)).trans (va_up_self _ _ _) | exact (va_up_ne _ _ (by decide)).trans ((va_up_ne _ _ (by decide)).trans (by assumption)) | exact (va_up_ne _ _ (by decide)).trans ((va_up_ne _ _ (by decide)).trans (va_up_self _ _ _)) | exact (va_up_ne _ _ (by decide)).trans ((va_up_ne _ _ (by decide)).trans ((va_up_ne _ _ (by decide)).trans (by assumption))) | exact (va_up_ne _ _ (by decide)).trans ((va_up_ne _ _ (by decide)).trans ((va_up_ne _ _ (by decide)).trans ((va_up_ne _ _ (by decide)).trans (by assumption)))) | exact rfl) (by first | assumption | rfl | exact (List.getElem?_set_ne (by decide)).trans (by assumption) | exact List.getElem?_set_self (by omega)) ?_
              refine g_iload_n (pc' := 30) dX8_findTurn_29 rfl rfl ?_
              refine g_ialdV (pc' := 31) dX8_findTurn_30 (by omega) (by first | assumption | exact va_up_self _ _ _ | exact (va_up_ne _ _ (by decide)).trans (by assumption) | exact (va_up_ne _ _ (by decide)).trans (va_up_self _ _ _) | exact (va_up_ne _ _ (by decide)).trans ((va_up_ne _ _ (by decide)).trans (by assumption)) | exact (va_up_ne _ _ (by decide)).trans ((va_up_ne _ _ (by decide)).trans (va_up_self _ _ _)) | exact (va_up_ne _ _ (by decide)).trans ((va_up_ne _ _ (by decide)).trans ((va_up_ne _ _ (by decide)).trans (by assumption))) | exact (va_up_ne _ _ (by decide)).trans ((va_up_ne _ _ (by decide)).trans ((va_up_ne _ _ (by decide)).trans ((va_up_ne _ _ (by decide)).trans (by assumption)))) | exact rfl) ((IX_nI (by omega) (by omega))) (hz _ (by omega)) ?_
              refine g_aload_n (pc' := 32) dX8_findTurn_31 rfl rfl ?_
              refine g_get (pc' := 35) fl_X8_7 dX8_findTurn_32 (by omega) (by first | assumption | exact va_up_self _ _ _ | exact (va_up_ne _ _ (by decide)).trans (by assumption) | exact (va_up_ne _ _ (by decide)).trans (va_up_self _ _ _) | exact (va_up_ne _ _ (by decide)).trans ((va_up_ne _ _ (by decide)).trans (by assumption)) | exact (va_up_ne _ _ (by decide)).trans ((va_up_ne _ _ (by decide)).trans (va_up_self _ _ _)) | exact (va_up_ne _ _ (by decide)).trans ((va_up_ne _ _ (by decide)).trans ((va_up_ne _ _ (by decide)).trans (by assumption))) | exact (va_up_ne _ _ (by decide)).trans ((va_up_ne _ _ (by decide)).trans ((va_up_ne _ _ (by decide)).trans ((va_up_ne _ _ (by decide)).trans (by assumption)))) | exact rfl) (by first | assumption | rfl | exact (List.getElem?_set_ne (by decide)).trans (by assumption) | exact List.getElem?_set_self (by omega)) ?_
              refine g_icmp_neN (tgt := 121) (pc' := 38) dX8_findTurn_35 (by decide) (by first | omega | decide) (by first | omega | decide) (fun h4 => ?_) (fun h4 => ?_)
              · first | refine g_iincN (z := 1) (pc' := 124) dX8_findTurn_121 rfl rfl (by decide) ?_ | refine g_iinc (pc' := 124) dX8_findTurn_121 rfl rfl (by decide) ?_
                refine g_goto (tgt := 17) dX8_findTurn_124 (by decide) ?_
                refine ih2 (h + 1) fv _ _ _ _ _ (by omega) hfv (fun h' q hz => ?_)
                rcases Nat.lt_or_ge h' h with q2 | q2
                · exact hfk h' q2 hz
                · have e : h' = h := by omega
                  subst e
                  exact absurd hz h4
              · refine g_lconst (pc' := 39) (v := lN 0) dX8_findTurn_38 (by decide) ?_
                refine g_lstore_n (pc' := 40) dX8_findTurn_39 rfl (by decide) ?_
                refine g_iconst (pc' := 41) (v := nI 0) dX8_findTurn_40 (by decide) ?_
                refine g_istore (pc' := 43) dX8_findTurn_41 (by decide) ?_
                have inner : ∀ j3 g w6 w7, g + j3 = nh S D → G yX8_findTurn cX8_findTurn 8 none (rmD 1) none Q 0 0 43 [.ref 47, .int (nI (k + 1)), .int (nI h), .long (lN (mxF (fun g => if ptb S g h then hv D S (vl D S gr k) g else 0) g)), uu, .int (nI g), w6, w7] [] (va_up (va_up hp 59 (aJ 1386 fv)) 60 (aJ 462 ft')) n := by
                  intro j3
                  induction j3 with
                  | zero =>
                    intro g w6 w7 hg
                    have hg' : g = nh S D := by omega
                    subst hg'
                    refine g_iload (pc' := 45) dX8_findTurn_43 rfl ?_
                    refine g_aload_n (pc' := 46) dX8_findTurn_45 rfl rfl ?_
                    refine g_get (pc' := 49) fl_X8_71 dX8_findTurn_46 (by omega) (by first | assumption | exact va_up_self _ _ _ | exact (va_up_ne _ _ (by decide)).trans (by assumption) | exact (va_up_ne _ _ (by decide)).trans (va_up_self _ _ _) | exact (va_up_ne _ _ (by decide)).trans ((va_up_ne _ _ (by decide)).trans (by assumption)) | exact (va_up_ne _ _ (by decide)).trans ((va_up_ne _ _ (by decide)).trans (va_up_self _ _ _)) | exact (va_up_ne _ _ (by decide)).trans ((va_up_ne _ _ (by decide)).trans ((va_up_ne _ _ (by decide)).trans (by assumption))) | exact (va_up_ne _ _ (by decide)).trans ((va_up_ne _ _ (by decide)).trans ((va_up_ne _ _ (by decide)).trans ((va_up_ne _ _ (by decide)).trans (by assumption)))) | exact rfl) (by first | assumption | rfl | exact (List.getElem?_set_ne (by decide)).trans (by assumption) | exact List.getElem?_set_self (by omega)) ?_
                    refine g_icmp_geN (tgt := 108) (pc' := 52) dX8_findTurn_49 (by decide) (by first | omega | decide) (by first | omega | decide) (fun h5 => ?_) (fun h5 => ?_)
                    · refine g_aload_n (pc' := 109) dX8_findTurn_108 rfl rfl ?_
                      refine g_get (pc' := 112) fl_X8_54 dX8_findTurn_109 (by omega) (by first | assumption | exact va_up_self _ _ _ | exact (va_up_ne _ _ (by decide)).trans (by assumption) | exact (va_up_ne _ _ (by decide)).trans (va_up_self _ _ _) | exact (va_up_ne _ _ (by decide)).trans ((va_up_ne _ _ (by decide)).trans (by assumption)) | exact (va_up_ne _ _ (by decide)).trans ((va_up_ne _ _ (by decide)).trans (va_up_self _ _ _)) | exact (va_up_ne _ _ (by decide)).trans ((va_up_ne _ _ (by decide)).trans ((va_up_ne _ _ (by decide)).trans (by assumption))) | exact (va_up_ne _ _ (by decide)).trans ((va_up_ne _ _ (by decide)).trans ((va_up_ne _ _ (by decide)).trans ((va_up_ne _ _ (by decide)).trans (by assumption)))) | exact rfl) (by first | assumption | rfl | exact (List.getElem?_set_ne (by decide)).trans (by assumption) | exact List.getElem?_set_self (by omega)) ?_
                      refine g_sipush (pc' := 115) (v := nI 462) dX8_findTurn_112 (by decide) ?_
                      refine g_iload_n (pc' := 116) dX8_findTurn_115 rfl rfl ?_
                      first | refine g_imulN (pc' := 117) dX8_findTurn_116 ?_ | refine g_imul (pc' := 117) dX8_findTurn_116 ?_
                      refine g_iload_n (pc' := 118) dX8_findTurn_117 rfl rfl ?_
                      first | refine g_iaddN (pc' := 119) dX8_findTurn_118 ?_ | refine g_iadd (pc' := 119) dX8_findTurn_118 ?_
                      refine g_lload_n (pc' := 120) dX8_findTurn_119 rfl rfl ?_
                      refine g_last (pc' := 121) dX8_findTurn_120 (by omega) (by first | assumption | exact va_up_self _ _ _ | exact (va_up_ne _ _ (by decide)).trans (by assumption) | exact (va_up_ne _ _ (by decide)).trans (va_up_self _ _ _) | exact (va_up_ne _ _ (by decide)).trans ((va_up_ne _ _ (by decide)).trans (by assumption)) | exact (va_up_ne _ _ (by decide)).trans ((va_up_ne _ _ (by decide)).trans (va_up_self _ _ _)) | exact (va_up_ne _ _ (by decide)).trans ((va_up_ne _ _ (by decide)).trans ((va_up_ne _ _ (by decide)).trans (by assumption))) | exact (va_up_ne _ _ (by decide)).trans ((va_up_ne _ _ (by decide)).trans ((va_up_ne _ _ (by decide)).trans ((va_up_ne _ _ (by decide)).trans (by assumption)))) | exact rfl) ((IX_nI (by omega) (by omega))) ?_
                      rw [up_comm _ (by decide), up_up]
                      first | refine g_iincN (z := 1) (pc' := 124) dX8_findTurn_121 rfl rfl (by decide) ?_ | refine g_iinc (pc' := 124) dX8_findTurn_121 rfl rfl (by decide) ?_
                      refine g_goto (tgt := 17) dX8_findTurn_124 (by decide) ?_
                      refine ih2 (h + 1) _ _ _ _ _ _ (by omega) (fun i h' hi hh' hz => ?_) (fun h' q hz => ?_)
                      · rw [pk_uLn (by omega)]; exact hfv i h' hi hh' hz
                      · rcases Nat.lt_or_ge h' h with q2 | q2
                        · rw [pk_uLn (by omega)]; exact hfk h' q2 hz
                        · have e : h' = h := by omega
                          subst e
                          rw [pk_uLs]; rfl
                    · omega
                  | succ j3 ih3 =>
                    intro g w6 w7 hg
                    have zg := sz_le S g
                    have hhg := hhv g (by omega)
                    have hmx : mxF (fun g => if ptb S g h then hv D S (vl D S gr k) g else 0) g < 2 ^ 63 := by
                      have : mxF (fun g => if ptb S g h then hv D S (vl D S gr k) g else 0) g ≤ 2 ^ 63 - 1 := mxF_le (fun i hi => by
                        split
                        · have := hhv i (by omega); omega
                        · exact Nat.zero_le _)
                      omega
                    have hb9 := bI_le (ptb S g h)
                    refine g_iload (pc' := 45) dX8_findTurn_43 rfl ?_
                    refine g_aload_n (pc' := 46) dX8_findTurn_45 rfl rfl ?_
                    refine g_get (pc' := 49) fl_X8_71 dX8_findTurn_46 (by omega) (by first | assumption | exact va_up_self _ _ _ | exact (va_up_ne _ _ (by decide)).trans (by assumption) | exact (va_up_ne _ _ (by decide)).trans (va_up_self _ _ _) | exact (va_up_ne _ _ (by decide)).trans ((va_up_ne _ _ (by decide)).trans (by assumption)) | exact (va_up_ne _ _ (by decide)).trans ((va_up_ne _ _ (by decide)).trans (va_up_self _ _ _)) | exact (va_up_ne _ _ (by decide)).trans ((va_up_ne _ _ (by decide)).trans ((va_up_ne _ _ (by decide)).trans (by assumption))) | exact (va_up_ne _ _ (by decide)).trans ((va_up_ne _ _ (by decide)).trans ((va_up_ne _ _ (by decide)).trans ((va_up_ne _ _ (by decide)).trans (by assumption)))) | exact rfl) (by first | assumption | rfl | exact (List.getElem?_set_ne (by decide)).trans (by assumption) | exact List.getElem?_set_self (by omega)) ?_
                    refine g_icmp_geN (tgt := 108) (pc' := 52) dX8_findTurn_49 (by decide) (by first | omega | decide) (by first | omega | decide) (fun h5 => ?_) (fun h5 => ?_)
                    · omega
                    · have fin : ∀ v, v < 2 ^ 63 → (if ptb S g h then hv D S (vl D S gr k) g else 0) = v → ∀ w6 w7, G yX8_findTurn cX8_findTurn 8 none (rmD 1) none Q 0 0 86 [.ref 47, .int (nI (k + 1)), .int (nI h), .long (lN (mxF (fun g => if ptb S g h then hv D S (vl D S gr k) g else 0) g)), uu, .int (nI g), w6, w7] [.long (lN v)] (va_up (va_up hp 59 (aJ 1386 fv)) 60 (aJ 462 ft')) n := by
                        intro v hv9 ev w6 w7
                        have emx : mxF (fun g => if ptb S g h then hv D S (vl D S gr k) g else 0) (g + 1) = max (mxF (fun g => if ptb S g h then hv D S (vl D S gr k) g else 0) g) v := by rw [← ev]; rfl
                        refine g_lstore (pc' := 88) dX8_findTurn_86 (by decide) ?_
                        refine g_lload (pc' := 90) dX8_findTurn_88 rfl ?_
                        refine g_lload_n (pc' := 91) dX8_findTurn_90 rfl rfl ?_
                        refine g_lcmp (pc' := 92) dX8_findTurn_91 ?_
                        refine g_if_le (tgt := 100) (pc' := 95) dX8_findTurn_92 (by decide) (fun h7 => ?_) (fun h7 => ?_)
                        · rw [lg_le hv9 hmx] at h7
                          refine g_lload_n (pc' := 101) dX8_findTurn_100 rfl rfl ?_
                          refine g_lstore_n (pc' := 102) dX8_findTurn_101 rfl (by decide) ?_
                          first | refine g_iincN (z := 1) (pc' := 105) dX8_findTurn_102 rfl rfl (by decide) ?_ | refine g_iinc (pc' := 105) dX8_findTurn_102 rfl rfl (by decide) ?_
                          refine g_goto (tgt := 43) dX8_findTurn_105 (by decide) ?_
                          have := ih3 (g + 1) (.long (lN v)) uu (by omega)
                          rw [emx, Nat.max_eq_left h7] at this
                          exact this
                        · rw [lg_le hv9 hmx] at h7
                          refine g_lload (pc' := 97) dX8_findTurn_95 rfl ?_
                          refine g_goto (tgt := 101) dX8_findTurn_97 (by decide) ?_
                          refine g_lstore_n (pc' := 102) dX8_findTurn_101 rfl (by decide) ?_
                          first | refine g_iincN (z := 1) (pc' := 105) dX8_findTurn_102 rfl rfl (by decide) ?_ | refine g_iinc (pc' := 105) dX8_findTurn_102 rfl rfl (by decide) ?_
                          refine g_goto (tgt := 43) dX8_findTurn_105 (by decide) ?_
                          have := ih3 (g + 1) (.long (lN v)) uu (by omega)
                          rw [emx, Nat.max_eq_right (by omega)] at this
                          exact this
                      refine g_aload_n (pc' := 53) dX8_findTurn_52 rfl rfl ?_
                      refine g_iload (pc' := 55) dX8_findTurn_53 rfl ?_
                      refine g_iload_n (pc' := 56) dX8_findTurn_55 rfl rfl ?_
                      refine gc_V 59 47 [.int (nI g), .int (nI h)] [] cw_X8_103 im_X8_isPart se_X8_isPart dX8_findTurn_56 (by decide) (by decide) (Nat.le_refl _) (Nat.le_refl _) (Nat.le_of_ble_eq_true rfl) rfl (Nat.le_of_ble_eq_true rfl) (by omega) (by first | assumption | exact va_up_self _ _ _ | exact (va_up_ne _ _ (by decide)).trans (by assumption) | exact (va_up_ne _ _ (by decide)).trans (va_up_self _ _ _) | exact (va_up_ne _ _ (by decide)).trans ((va_up_ne _ _ (by decide)).trans (by assumption)) | exact (va_up_ne _ _ (by decide)).trans ((va_up_ne _ _ (by decide)).trans (va_up_self _ _ _)) | exact (va_up_ne _ _ (by decide)).trans ((va_up_ne _ _ (by decide)).trans ((va_up_ne _ _ (by decide)).trans (by assumption))) | exact (va_up_ne _ _ (by decide)).trans ((va_up_ne _ _ (by decide)).trans ((va_up_ne _ _ (by decide)).trans ((va_up_ne _ _ (by decide)).trans (by assumption)))) | exact rfl) rfl rfl (c_isPart hn (by first | assumption | exact va_up_self _ _ _ | exact (va_up_ne _ _ (by decide)).trans (by assumption) | exact (va_up_ne _ _ (by decide)).trans (va_up_self _ _ _) | exact (va_up_ne _ _ (by decide)).trans ((va_up_ne _ _ (by decide)).trans (by assumption)) | exact (va_up_ne _ _ (by decide)).trans ((va_up_ne _ _ (by decide)).trans (va_up_self _ _ _)) | exact (va_up_ne _ _ (by decide)).trans ((va_up_ne _ _ (by decide)).trans ((va_up_ne _ _ (by decide)).trans (by assumption))) | exact (va_up_ne _ _ (by decide)).trans ((va_up_ne _ _ (by decide)).trans ((va_up_ne _ _ (by decide)).trans ((va_up_ne _ _ (by decide)).trans (by assumption)))) | exact rfl) F (by first | assumption | exact va_up_self _ _ _ | exact (va_up_ne _ _ (by decide)).trans (by assumption) | exact (va_up_ne _ _ (by decide)).trans (va_up_self _ _ _) | exact (va_up_ne _ _ (by decide)).trans ((va_up_ne _ _ (by decide)).trans (by assumption)) | exact (va_up_ne _ _ (by decide)).trans ((va_up_ne _ _ (by decide)).trans (va_up_self _ _ _)) | exact (va_up_ne _ _ (by decide)).trans ((va_up_ne _ _ (by decide)).trans ((va_up_ne _ _ (by decide)).trans (by assumption))) | exact (va_up_ne _ _ (by decide)).trans ((va_up_ne _ _ (by decide)).trans ((va_up_ne _ _ (by decide)).trans ((va_up_ne _ _ (by decide)).trans (by assumption)))) | exact rfl) (by omega) (by omega) (fun k hk => hsh g k (by omega) hk) (fun k hk => hsh h k (by omega) hk) ⟨rfl, ?_⟩)
                      refine g_if_eqN (tgt := 85) (pc' := 62) dX8_findTurn_59 (by decide) (by first | omega | decide) (fun h6' => ?_) (fun h6' => ?_)
                      · refine g_lconst (pc' := 86) (v := lN 0) dX8_findTurn_85 (by decide) ?_
                        have ep : ptb S g h = false := by
                          cases hx : ptb S g h with
                          | false => rfl
                          | true => rw [hx] at h6'; exact absurd h6' (by decide)
                        exact fin 0 (by decide) (by rw [ep]; rfl) _ _
                      · have ep : ptb S g h = true := by
                          cases hx : ptb S g h with
                          | true => rfl
                          | false => rw [hx] at h6'; exact absurd rfl h6'
                        refine g_aload_n (pc' := 63) dX8_findTurn_62 rfl rfl ?_
                        refine g_get (pc' := 66) fl_X8_57 dX8_findTurn_63 (by omega) (by first | assumption | exact va_up_self _ _ _ | exact (va_up_ne _ _ (by decide)).trans (by assumption) | exact (va_up_ne _ _ (by decide)).trans (va_up_self _ _ _) | exact (va_up_ne _ _ (by decide)).trans ((va_up_ne _ _ (by decide)).trans (by assumption)) | exact (va_up_ne _ _ (by decide)).trans ((va_up_ne _ _ (by decide)).trans (va_up_self _ _ _)) | exact (va_up_ne _ _ (by decide)).trans ((va_up_ne _ _ (by decide)).trans ((va_up_ne _ _ (by decide)).trans (by assumption))) | exact (va_up_ne _ _ (by decide)).trans ((va_up_ne _ _ (by decide)).trans ((va_up_ne _ _ (by decide)).trans ((va_up_ne _ _ (by decide)).trans (by assumption)))) | exact rfl) (by first | assumption | rfl | exact (List.getElem?_set_ne (by decide)).trans (by assumption) | exact List.getElem?_set_self (by omega)) ?_
                        refine g_iload (pc' := 68) dX8_findTurn_66 rfl ?_
                        refine g_laldV (pc' := 69) dX8_findTurn_68 (by omega) (by first | assumption | exact va_up_self _ _ _ | exact (va_up_ne _ _ (by decide)).trans (by assumption) | exact (va_up_ne _ _ (by decide)).trans (va_up_self _ _ _) | exact (va_up_ne _ _ (by decide)).trans ((va_up_ne _ _ (by decide)).trans (by assumption)) | exact (va_up_ne _ _ (by decide)).trans ((va_up_ne _ _ (by decide)).trans (va_up_self _ _ _)) | exact (va_up_ne _ _ (by decide)).trans ((va_up_ne _ _ (by decide)).trans ((va_up_ne _ _ (by decide)).trans (by assumption))) | exact (va_up_ne _ _ (by decide)).trans ((va_up_ne _ _ (by decide)).trans ((va_up_ne _ _ (by decide)).trans ((va_up_ne _ _ (by decide)).trans (by assumption)))) | exact rfl) ((IX_nI (by omega) (by omega))) (hft' _ (by omega)) ?_
                        refine g_aload_n (pc' := 70) dX8_findTurn_69 rfl rfl ?_
                        refine g_get (pc' := 73) fl_X8_47 dX8_findTurn_70 (by omega) (by first | assumption | exact va_up_self _ _ _ | exact (va_up_ne _ _ (by decide)).trans (by assumption) | exact (va_up_ne _ _ (by decide)).trans (va_up_self _ _ _) | exact (va_up_ne _ _ (by decide)).trans ((va_up_ne _ _ (by decide)).trans (by assumption)) | exact (va_up_ne _ _ (by decide)).trans ((va_up_ne _ _ (by decide)).trans (va_up_self _ _ _)) | exact (va_up_ne _ _ (by decide)).trans ((va_up_ne _ _ (by decide)).trans ((va_up_ne _ _ (by decide)).trans (by assumption))) | exact (va_up_ne _ _ (by decide)).trans ((va_up_ne _ _ (by decide)).trans ((va_up_ne _ _ (by decide)).trans ((va_up_ne _ _ (by decide)).trans (by assumption)))) | exact rfl) (by first | assumption | rfl | exact (List.getElem?_set_ne (by decide)).trans (by assumption) | exact List.getElem?_set_self (by omega)) ?_
                        refine g_aload_n (pc' := 74) dX8_findTurn_73 rfl rfl ?_
                        refine g_get (pc' := 77) fl_X8_32 dX8_findTurn_74 (by omega) (by first | assumption | exact va_up_self _ _ _ | exact (va_up_ne _ _ (by decide)).trans (by assumption) | exact (va_up_ne _ _ (by decide)).trans (va_up_self _ _ _) | exact (va_up_ne _ _ (by decide)).trans ((va_up_ne _ _ (by decide)).trans (by assumption)) | exact (va_up_ne _ _ (by decide)).trans ((va_up_ne _ _ (by decide)).trans (va_up_self _ _ _)) | exact (va_up_ne _ _ (by decide)).trans ((va_up_ne _ _ (by decide)).trans ((va_up_ne _ _ (by decide)).trans (by assumption))) | exact (va_up_ne _ _ (by decide)).trans ((va_up_ne _ _ (by decide)).trans ((va_up_ne _ _ (by decide)).trans ((va_up_ne _ _ (by decide)).trans (by assumption)))) | exact rfl) (by first | assumption | rfl | exact (List.getElem?_set_ne (by decide)).trans (by assumption) | exact List.getElem?_set_self (by omega)) ?_
                        refine g_iload (pc' := 79) dX8_findTurn_77 rfl ?_
                        refine g_ialdV (pc' := 80) dX8_findTurn_79 (by omega) (by first | assumption | exact va_up_self _ _ _ | exact (va_up_ne _ _ (by decide)).trans (by assumption) | exact (va_up_ne _ _ (by decide)).trans (va_up_self _ _ _) | exact (va_up_ne _ _ (by decide)).trans ((va_up_ne _ _ (by decide)).trans (by assumption)) | exact (va_up_ne _ _ (by decide)).trans ((va_up_ne _ _ (by decide)).trans (va_up_self _ _ _)) | exact (va_up_ne _ _ (by decide)).trans ((va_up_ne _ _ (by decide)).trans ((va_up_ne _ _ (by decide)).trans (by assumption))) | exact (va_up_ne _ _ (by decide)).trans ((va_up_ne _ _ (by decide)).trans ((va_up_ne _ _ (by decide)).trans ((va_up_ne _ _ (by decide)).trans (by assumption)))) | exact rfl) ((IX_nI (by omega) (by omega))) (hz _ (by omega)) ?_
                        refine g_laldV (pc' := 81) dX8_findTurn_80 (by omega) (by first | assumption | exact va_up_self _ _ _ | exact (va_up_ne _ _ (by decide)).trans (by assumption) | exact (va_up_ne _ _ (by decide)).trans (va_up_self _ _ _) | exact (va_up_ne _ _ (by decide)).trans ((va_up_ne _ _ (by decide)).trans (by assumption)) | exact (va_up_ne _ _ (by decide)).trans ((va_up_ne _ _ (by decide)).trans (va_up_self _ _ _)) | exact (va_up_ne _ _ (by decide)).trans ((va_up_ne _ _ (by decide)).trans ((va_up_ne _ _ (by decide)).trans (by assumption))) | exact (va_up_ne _ _ (by decide)).trans ((va_up_ne _ _ (by decide)).trans ((va_up_ne _ _ (by decide)).trans ((va_up_ne _ _ (by decide)).trans (by assumption)))) | exact rfl) ((IX_nI (by omega) (by omega))) (hpw _ (by omega)) ?_
                        first | refine g_lmulN (pc' := 82) dX8_findTurn_81 ?_ | refine g_lmul (pc' := 82) dX8_findTurn_81 ?_
                        refine g_goto (tgt := 86) dX8_findTurn_82 (by decide) ?_
                        exact fin _ hhg (by rw [ep]; rfl) _ _
                exact inner (nh S D) 0 _ _ (by omega)
        exact mid (nh S D) 0 fv _ _ _ _ _ (by omega) hfv (fun h' q => absurd q (Nat.not_lt_zero _))
  obtain ⟨t, ht⟩ : ∃ t, T = t + 1 := ⟨T - 1, by omega⟩
  exact loop t 0 fv ft _ _ _ _ _ _ (by omega) (fun i h hi hh hz => by
    have e : i = 0 := by omega
    subst e
    rw [Nat.mul_zero, Nat.zero_add]
    exact hval h hh hz)
