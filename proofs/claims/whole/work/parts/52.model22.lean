def okT (S : Nat) : Bool := al (fun h => decide (td S h < 100000)) (nh S 5)
theorem okT_all {S : Nat} (h2 : 2 ≤ S) (h6 : S ≤ 6) : okT S = true := by
  have h : S = 2 ∨ S = 3 ∨ S = 4 ∨ S = 5 ∨ S = 6 := by omega
  rcases h with rfl | rfl | rfl | rfl | rfl <;> decide +kernel
theorem td_lt {S h : Nat} (h2 : 2 ≤ S) (h6 : S ≤ 6) (hh : h < nh S 5) : td S h < 2 ^ 31 := by
  have := al_spec (okT_all h2 h6) h hh
  have := of_decide_eq_true this
  omega
theorem lg_eq0 (x y : Int64) : lg_cmp x y = 0 ↔ x = y := by
  unfold lg_cmp
  by_cases h1 : x > y
  · rw [if_pos h1]
    constructor
    · intro q; exact absurd q (by decide)
    · intro q
      rw [q] at h1
      exact absurd h1 Int64.lt_irrefl
  · rw [if_neg h1]
    by_cases h2 : x = y
    · rw [if_pos h2]; exact ⟨fun _ => h2, fun _ => rfl⟩
    · rw [if_neg h2]
      exact ⟨fun q => absurd q (by decide), fun q => absurd q h2⟩
theorem c_isBetter {hp : AH} {n D S T R g b : Nat} {fs : List Value} {fz ftd : Nat → Int32} {fsp ft : Nat → Int64} {val : Nat → Nat} {Q : Option Value → AH → Nat → Prop} (hn : 64 ≤ n) (c47 : hp 47 = ob 8 fs) (F : MF fs D S T R) (h2 : 2 ≤ S) (h6 : S ≤ 6) (hD : D ≤ 5) (c52 : hp 52 = aI 462 fz) (c53 : hp 53 = aI 462 ftd) (c57 : hp 57 = aJ 6 fsp) (c60 : hp 60 = aJ 462 ft) (hz : ∀ h, h < nh S D → fz h = nI (sz S h)) (htd : ∀ h, h < nh S D → ftd h = nI (td S h)) (hpw : ∀ k, k < 6 → fsp k = lN (S ^ k)) (hft : ∀ h, h < nh S D → ft h = lN (th D S val h)) (hg : g < nh S D) (hbg : b < g) (hv1 : hv D S val g < 2 ^ 63) (hv2 : hv D S val b < 2 ^ 63) (hq : Q (some (.int (nI (bI (decide (hv D S val b < hv D S val g)))))) hp n) : CT yX8_isBetter cX8_isBetter 7 (some .boolean) (rmD 0) [.ref 47, .int (nI g), .int (nI b)] hp n Q := by
  obtain ⟨f99, f0, f1, f2, f3, f4, f5, f6, f9, f10, f11, f12, f13, f16, f24, f25, f26, f27, f28, f29, f30⟩ := id F
  obtain ⟨hN, hN1⟩ := nh_le h2 h6 hD
  have hN5 := nh_mono h2 h6 hD (Nat.le_refl 5)
  have zg := sz_le S g
  have zb := sz_le S b
  have hszle : sz S b ≤ sz S g := (sz_iff h2 h6 zg (by omega)).mpr (by
    have := (sz_iff h2 h6 zg (show g < nh S 5 by omega)).mp (Nat.le_refl _)
    omega)
  have htdlt : td S b < td S g := by
    have := td_mono h2 h6 (a := b) (g - b - 1) (by omega)
    rw [show b + (g - b - 1) + 1 = g by omega] at this
    exact this
  have htd5 : td S g < 2 ^ 31 := td_lt h2 h6 (by omega)
  show G yX8_isBetter cX8_isBetter 7 (some .boolean) (rmD 0) none Q 0 0 0 [.ref 47, .int (nI g), .int (nI b), uu, uu, uu, uu] [] hp n
  refine g_aload_n (pc' := 1) dX8_isBetter_0 rfl rfl ?_
  refine g_get (pc' := 4) fl_X8_57 dX8_isBetter_1 (by omega) (by first | assumption | exact va_up_self _ _ _ | exact (va_up_ne _ _ (by decide)).trans (by assumption) | exact (va_up_ne _ _ (by decide)).trans (va_up_self _ _ _) | exact (va_up_ne _ _ (by decide)).trans ((va_up_ne _ _ (by decide)).trans (by assumption)) | exact (va_up_ne _ _ (by decide)).trans ((va_up_ne _ _ (by decide)).trans (va_up_self _ _ _)) | exact (va_up_ne _ _ (by decide)).trans ((va_up_ne _ _ (by decide)).trans ((va_up_ne _ _ (by decide)).trans (by assumption))) | exact (va_up_ne _ _ (by decide)).trans ((va_up_ne _ _ (by decide)).trans ((va_up_ne _ _ (by decide)).trans ((va_up_ne _ _ (by decide)).trans (by assumption)))) | exact rfl) (by first | assumption | rfl | exact (List.getElem?_set_ne (by decide)).trans (by assumption) | exact List.getElem?_set_self (by omega)) ?_
  refine g_iload_n (pc' := 5) dX8_isBetter_4 rfl rfl ?_
  refine g_laldV (pc' := 6) dX8_isBetter_5 (by omega) (by first | assumption | exact va_up_self _ _ _ | exact (va_up_ne _ _ (by decide)).trans (by assumption) | exact (va_up_ne _ _ (by decide)).trans (va_up_self _ _ _) | exact (va_up_ne _ _ (by decide)).trans ((va_up_ne _ _ (by decide)).trans (by assumption)) | exact (va_up_ne _ _ (by decide)).trans ((va_up_ne _ _ (by decide)).trans (va_up_self _ _ _)) | exact (va_up_ne _ _ (by decide)).trans ((va_up_ne _ _ (by decide)).trans ((va_up_ne _ _ (by decide)).trans (by assumption))) | exact (va_up_ne _ _ (by decide)).trans ((va_up_ne _ _ (by decide)).trans ((va_up_ne _ _ (by decide)).trans ((va_up_ne _ _ (by decide)).trans (by assumption)))) | exact rfl) ((IX_nI (by omega) (by omega))) (hft _ hg) ?_
  refine g_aload_n (pc' := 7) dX8_isBetter_6 rfl rfl ?_
  refine g_get (pc' := 10) fl_X8_47 dX8_isBetter_7 (by omega) (by first | assumption | exact va_up_self _ _ _ | exact (va_up_ne _ _ (by decide)).trans (by assumption) | exact (va_up_ne _ _ (by decide)).trans (va_up_self _ _ _) | exact (va_up_ne _ _ (by decide)).trans ((va_up_ne _ _ (by decide)).trans (by assumption)) | exact (va_up_ne _ _ (by decide)).trans ((va_up_ne _ _ (by decide)).trans (va_up_self _ _ _)) | exact (va_up_ne _ _ (by decide)).trans ((va_up_ne _ _ (by decide)).trans ((va_up_ne _ _ (by decide)).trans (by assumption))) | exact (va_up_ne _ _ (by decide)).trans ((va_up_ne _ _ (by decide)).trans ((va_up_ne _ _ (by decide)).trans ((va_up_ne _ _ (by decide)).trans (by assumption)))) | exact rfl) (by first | assumption | rfl | exact (List.getElem?_set_ne (by decide)).trans (by assumption) | exact List.getElem?_set_self (by omega)) ?_
  refine g_aload_n (pc' := 11) dX8_isBetter_10 rfl rfl ?_
  refine g_get (pc' := 14) fl_X8_32 dX8_isBetter_11 (by omega) (by first | assumption | exact va_up_self _ _ _ | exact (va_up_ne _ _ (by decide)).trans (by assumption) | exact (va_up_ne _ _ (by decide)).trans (va_up_self _ _ _) | exact (va_up_ne _ _ (by decide)).trans ((va_up_ne _ _ (by decide)).trans (by assumption)) | exact (va_up_ne _ _ (by decide)).trans ((va_up_ne _ _ (by decide)).trans (va_up_self _ _ _)) | exact (va_up_ne _ _ (by decide)).trans ((va_up_ne _ _ (by decide)).trans ((va_up_ne _ _ (by decide)).trans (by assumption))) | exact (va_up_ne _ _ (by decide)).trans ((va_up_ne _ _ (by decide)).trans ((va_up_ne _ _ (by decide)).trans ((va_up_ne _ _ (by decide)).trans (by assumption)))) | exact rfl) (by first | assumption | rfl | exact (List.getElem?_set_ne (by decide)).trans (by assumption) | exact List.getElem?_set_self (by omega)) ?_
  refine g_iload_n (pc' := 15) dX8_isBetter_14 rfl rfl ?_
  refine g_ialdV (pc' := 16) dX8_isBetter_15 (by omega) (by first | assumption | exact va_up_self _ _ _ | exact (va_up_ne _ _ (by decide)).trans (by assumption) | exact (va_up_ne _ _ (by decide)).trans (va_up_self _ _ _) | exact (va_up_ne _ _ (by decide)).trans ((va_up_ne _ _ (by decide)).trans (by assumption)) | exact (va_up_ne _ _ (by decide)).trans ((va_up_ne _ _ (by decide)).trans (va_up_self _ _ _)) | exact (va_up_ne _ _ (by decide)).trans ((va_up_ne _ _ (by decide)).trans ((va_up_ne _ _ (by decide)).trans (by assumption))) | exact (va_up_ne _ _ (by decide)).trans ((va_up_ne _ _ (by decide)).trans ((va_up_ne _ _ (by decide)).trans ((va_up_ne _ _ (by decide)).trans (by assumption)))) | exact rfl) ((IX_nI (by omega) (by omega))) (hz _ hg) ?_
  refine g_laldV (pc' := 17) dX8_isBetter_16 (by omega) (by first | assumption | exact va_up_self _ _ _ | exact (va_up_ne _ _ (by decide)).trans (by assumption) | exact (va_up_ne _ _ (by decide)).trans (va_up_self _ _ _) | exact (va_up_ne _ _ (by decide)).trans ((va_up_ne _ _ (by decide)).trans (by assumption)) | exact (va_up_ne _ _ (by decide)).trans ((va_up_ne _ _ (by decide)).trans (va_up_self _ _ _)) | exact (va_up_ne _ _ (by decide)).trans ((va_up_ne _ _ (by decide)).trans ((va_up_ne _ _ (by decide)).trans (by assumption))) | exact (va_up_ne _ _ (by decide)).trans ((va_up_ne _ _ (by decide)).trans ((va_up_ne _ _ (by decide)).trans ((va_up_ne _ _ (by decide)).trans (by assumption)))) | exact rfl) ((IX_nI (by omega) (by omega))) (hpw _ (by omega)) ?_
  first | refine g_lmulN (pc' := 18) dX8_isBetter_17 ?_ | refine g_lmul (pc' := 18) dX8_isBetter_17 ?_
  refine g_lstore_n (pc' := 19) dX8_isBetter_18 rfl (by decide) ?_
  refine g_aload_n (pc' := 20) dX8_isBetter_19 rfl rfl ?_
  refine g_get (pc' := 23) fl_X8_57 dX8_isBetter_20 (by omega) (by first | assumption | exact va_up_self _ _ _ | exact (va_up_ne _ _ (by decide)).trans (by assumption) | exact (va_up_ne _ _ (by decide)).trans (va_up_self _ _ _) | exact (va_up_ne _ _ (by decide)).trans ((va_up_ne _ _ (by decide)).trans (by assumption)) | exact (va_up_ne _ _ (by decide)).trans ((va_up_ne _ _ (by decide)).trans (va_up_self _ _ _)) | exact (va_up_ne _ _ (by decide)).trans ((va_up_ne _ _ (by decide)).trans ((va_up_ne _ _ (by decide)).trans (by assumption))) | exact (va_up_ne _ _ (by decide)).trans ((va_up_ne _ _ (by decide)).trans ((va_up_ne _ _ (by decide)).trans ((va_up_ne _ _ (by decide)).trans (by assumption)))) | exact rfl) (by first | assumption | rfl | exact (List.getElem?_set_ne (by decide)).trans (by assumption) | exact List.getElem?_set_self (by omega)) ?_
  refine g_iload_n (pc' := 24) dX8_isBetter_23 rfl rfl ?_
  refine g_laldV (pc' := 25) dX8_isBetter_24 (by omega) (by first | assumption | exact va_up_self _ _ _ | exact (va_up_ne _ _ (by decide)).trans (by assumption) | exact (va_up_ne _ _ (by decide)).trans (va_up_self _ _ _) | exact (va_up_ne _ _ (by decide)).trans ((va_up_ne _ _ (by decide)).trans (by assumption)) | exact (va_up_ne _ _ (by decide)).trans ((va_up_ne _ _ (by decide)).trans (va_up_self _ _ _)) | exact (va_up_ne _ _ (by decide)).trans ((va_up_ne _ _ (by decide)).trans ((va_up_ne _ _ (by decide)).trans (by assumption))) | exact (va_up_ne _ _ (by decide)).trans ((va_up_ne _ _ (by decide)).trans ((va_up_ne _ _ (by decide)).trans ((va_up_ne _ _ (by decide)).trans (by assumption)))) | exact rfl) ((IX_nI (by omega) (by omega))) (hft _ (by omega)) ?_
  refine g_aload_n (pc' := 26) dX8_isBetter_25 rfl rfl ?_
  refine g_get (pc' := 29) fl_X8_47 dX8_isBetter_26 (by omega) (by first | assumption | exact va_up_self _ _ _ | exact (va_up_ne _ _ (by decide)).trans (by assumption) | exact (va_up_ne _ _ (by decide)).trans (va_up_self _ _ _) | exact (va_up_ne _ _ (by decide)).trans ((va_up_ne _ _ (by decide)).trans (by assumption)) | exact (va_up_ne _ _ (by decide)).trans ((va_up_ne _ _ (by decide)).trans (va_up_self _ _ _)) | exact (va_up_ne _ _ (by decide)).trans ((va_up_ne _ _ (by decide)).trans ((va_up_ne _ _ (by decide)).trans (by assumption))) | exact (va_up_ne _ _ (by decide)).trans ((va_up_ne _ _ (by decide)).trans ((va_up_ne _ _ (by decide)).trans ((va_up_ne _ _ (by decide)).trans (by assumption)))) | exact rfl) (by first | assumption | rfl | exact (List.getElem?_set_ne (by decide)).trans (by assumption) | exact List.getElem?_set_self (by omega)) ?_
  refine g_aload_n (pc' := 30) dX8_isBetter_29 rfl rfl ?_
  refine g_get (pc' := 33) fl_X8_32 dX8_isBetter_30 (by omega) (by first | assumption | exact va_up_self _ _ _ | exact (va_up_ne _ _ (by decide)).trans (by assumption) | exact (va_up_ne _ _ (by decide)).trans (va_up_self _ _ _) | exact (va_up_ne _ _ (by decide)).trans ((va_up_ne _ _ (by decide)).trans (by assumption)) | exact (va_up_ne _ _ (by decide)).trans ((va_up_ne _ _ (by decide)).trans (va_up_self _ _ _)) | exact (va_up_ne _ _ (by decide)).trans ((va_up_ne _ _ (by decide)).trans ((va_up_ne _ _ (by decide)).trans (by assumption))) | exact (va_up_ne _ _ (by decide)).trans ((va_up_ne _ _ (by decide)).trans ((va_up_ne _ _ (by decide)).trans ((va_up_ne _ _ (by decide)).trans (by assumption)))) | exact rfl) (by first | assumption | rfl | exact (List.getElem?_set_ne (by decide)).trans (by assumption) | exact List.getElem?_set_self (by omega)) ?_
  refine g_iload_n (pc' := 34) dX8_isBetter_33 rfl rfl ?_
  refine g_ialdV (pc' := 35) dX8_isBetter_34 (by omega) (by first | assumption | exact va_up_self _ _ _ | exact (va_up_ne _ _ (by decide)).trans (by assumption) | exact (va_up_ne _ _ (by decide)).trans (va_up_self _ _ _) | exact (va_up_ne _ _ (by decide)).trans ((va_up_ne _ _ (by decide)).trans (by assumption)) | exact (va_up_ne _ _ (by decide)).trans ((va_up_ne _ _ (by decide)).trans (va_up_self _ _ _)) | exact (va_up_ne _ _ (by decide)).trans ((va_up_ne _ _ (by decide)).trans ((va_up_ne _ _ (by decide)).trans (by assumption))) | exact (va_up_ne _ _ (by decide)).trans ((va_up_ne _ _ (by decide)).trans ((va_up_ne _ _ (by decide)).trans ((va_up_ne _ _ (by decide)).trans (by assumption)))) | exact rfl) ((IX_nI (by omega) (by omega))) (hz _ (by omega)) ?_
  refine g_laldV (pc' := 36) dX8_isBetter_35 (by omega) (by first | assumption | exact va_up_self _ _ _ | exact (va_up_ne _ _ (by decide)).trans (by assumption) | exact (va_up_ne _ _ (by decide)).trans (va_up_self _ _ _) | exact (va_up_ne _ _ (by decide)).trans ((va_up_ne _ _ (by decide)).trans (by assumption)) | exact (va_up_ne _ _ (by decide)).trans ((va_up_ne _ _ (by decide)).trans (va_up_self _ _ _)) | exact (va_up_ne _ _ (by decide)).trans ((va_up_ne _ _ (by decide)).trans ((va_up_ne _ _ (by decide)).trans (by assumption))) | exact (va_up_ne _ _ (by decide)).trans ((va_up_ne _ _ (by decide)).trans ((va_up_ne _ _ (by decide)).trans ((va_up_ne _ _ (by decide)).trans (by assumption)))) | exact rfl) ((IX_nI (by omega) (by omega))) (hpw _ (by omega)) ?_
  first | refine g_lmulN (pc' := 37) dX8_isBetter_36 ?_ | refine g_lmul (pc' := 37) dX8_isBetter_36 ?_
  refine g_lstore (pc' := 39) dX8_isBetter_37 (by decide) ?_
  refine g_lload_n (pc' := 40) dX8_isBetter_39 rfl rfl ?_
  refine g_lload (pc' := 42) dX8_isBetter_40 rfl ?_
  rw [show th D S val g * S ^ sz S g = hv D S val g from rfl, show th D S val b * S ^ sz S b = hv D S val b from rfl]
  refine g_lcmp (pc' := 43) dX8_isBetter_42 ?_
  refine g_if_eq (tgt := 59) (pc' := 46) dX8_isBetter_43 (by decide) (fun y1 => ?_) (fun y1 => ?_)
  · rw [lg_eq0, pk_lEQ hv1 hv2] at y1
    rw [decide_eq_false (by omega)] at hq
    refine g_aload_n (pc' := 60) dX8_isBetter_59 rfl rfl ?_
    refine g_get (pc' := 63) fl_X8_32 dX8_isBetter_60 (by omega) (by first | assumption | exact va_up_self _ _ _ | exact (va_up_ne _ _ (by decide)).trans (by assumption) | exact (va_up_ne _ _ (by decide)).trans (va_up_self _ _ _) | exact (va_up_ne _ _ (by decide)).trans ((va_up_ne _ _ (by decide)).trans (by assumption)) | exact (va_up_ne _ _ (by decide)).trans ((va_up_ne _ _ (by decide)).trans (va_up_self _ _ _)) | exact (va_up_ne _ _ (by decide)).trans ((va_up_ne _ _ (by decide)).trans ((va_up_ne _ _ (by decide)).trans (by assumption))) | exact (va_up_ne _ _ (by decide)).trans ((va_up_ne _ _ (by decide)).trans ((va_up_ne _ _ (by decide)).trans ((va_up_ne _ _ (by decide)).trans (by assumption)))) | exact rfl) (by first | assumption | rfl | exact (List.getElem?_set_ne (by decide)).trans (by assumption) | exact List.getElem?_set_self (by omega)) ?_
    refine g_iload_n (pc' := 64) dX8_isBetter_63 rfl rfl ?_
    refine g_ialdV (pc' := 65) dX8_isBetter_64 (by omega) (by first | assumption | exact va_up_self _ _ _ | exact (va_up_ne _ _ (by decide)).trans (by assumption) | exact (va_up_ne _ _ (by decide)).trans (va_up_self _ _ _) | exact (va_up_ne _ _ (by decide)).trans ((va_up_ne _ _ (by decide)).trans (by assumption)) | exact (va_up_ne _ _ (by decide)).trans ((va_up_ne _ _ (by decide)).trans (va_up_self _ _ _)) | exact (va_up_ne _ _ (by decide)).trans ((va_up_ne _ _ (by decide)).trans ((va_up_ne _ _ (by decide)).trans (by assumption))) | exact (va_up_ne _ _ (by decide)).trans ((va_up_ne _ _ (by decide)).trans ((va_up_ne _ _ (by decide)).trans ((va_up_ne _ _ (by decide)).trans (by assumption)))) | exact rfl) ((IX_nI (by omega) (by omega))) (hz _ hg) ?_
    refine g_aload_n (pc' := 66) dX8_isBetter_65 rfl rfl ?_
    refine g_get (pc' := 69) fl_X8_32 dX8_isBetter_66 (by omega) (by first | assumption | exact va_up_self _ _ _ | exact (va_up_ne _ _ (by decide)).trans (by assumption) | exact (va_up_ne _ _ (by decide)).trans (va_up_self _ _ _) | exact (va_up_ne _ _ (by decide)).trans ((va_up_ne _ _ (by decide)).trans (by assumption)) | exact (va_up_ne _ _ (by decide)).trans ((va_up_ne _ _ (by decide)).trans (va_up_self _ _ _)) | exact (va_up_ne _ _ (by decide)).trans ((va_up_ne _ _ (by decide)).trans ((va_up_ne _ _ (by decide)).trans (by assumption))) | exact (va_up_ne _ _ (by decide)).trans ((va_up_ne _ _ (by decide)).trans ((va_up_ne _ _ (by decide)).trans ((va_up_ne _ _ (by decide)).trans (by assumption)))) | exact rfl) (by first | assumption | rfl | exact (List.getElem?_set_ne (by decide)).trans (by assumption) | exact List.getElem?_set_self (by omega)) ?_
    refine g_iload_n (pc' := 70) dX8_isBetter_69 rfl rfl ?_
    refine g_ialdV (pc' := 71) dX8_isBetter_70 (by omega) (by first | assumption | exact va_up_self _ _ _ | exact (va_up_ne _ _ (by decide)).trans (by assumption) | exact (va_up_ne _ _ (by decide)).trans (va_up_self _ _ _) | exact (va_up_ne _ _ (by decide)).trans ((va_up_ne _ _ (by decide)).trans (by assumption)) | exact (va_up_ne _ _ (by decide)).trans ((va_up_ne _ _ (by decide)).trans (va_up_self _ _ _)) | exact (va_up_ne _ _ (by decide)).trans ((va_up_ne _ _ (by decide)).trans ((va_up_ne _ _ (by decide)).trans (by assumption))) | exact (va_up_ne _ _ (by decide)).trans ((va_up_ne _ _ (by decide)).trans ((va_up_ne _ _ (by decide)).trans ((va_up_ne _ _ (by decide)).trans (by assumption)))) | exact rfl) ((IX_nI (by omega) (by omega))) (hz _ (by omega)) ?_
    refine g_icmp_eqN (tgt := 97) (pc' := 74) dX8_isBetter_71 (by decide) (by first | omega | decide) (by first | omega | decide) (fun y2 => ?_) (fun y2 => ?_)
    · refine g_aload_n (pc' := 98) dX8_isBetter_97 rfl rfl ?_
      refine g_get (pc' := 101) fl_X8_35 dX8_isBetter_98 (by omega) (by first | assumption | exact va_up_self _ _ _ | exact (va_up_ne _ _ (by decide)).trans (by assumption) | exact (va_up_ne _ _ (by decide)).trans (va_up_self _ _ _) | exact (va_up_ne _ _ (by decide)).trans ((va_up_ne _ _ (by decide)).trans (by assumption)) | exact (va_up_ne _ _ (by decide)).trans ((va_up_ne _ _ (by decide)).trans (va_up_self _ _ _)) | exact (va_up_ne _ _ (by decide)).trans ((va_up_ne _ _ (by decide)).trans ((va_up_ne _ _ (by decide)).trans (by assumption))) | exact (va_up_ne _ _ (by decide)).trans ((va_up_ne _ _ (by decide)).trans ((va_up_ne _ _ (by decide)).trans ((va_up_ne _ _ (by decide)).trans (by assumption)))) | exact rfl) (by first | assumption | rfl | exact (List.getElem?_set_ne (by decide)).trans (by assumption) | exact List.getElem?_set_self (by omega)) ?_
      refine g_iload_n (pc' := 102) dX8_isBetter_101 rfl rfl ?_
      refine g_ialdV (pc' := 103) dX8_isBetter_102 (by omega) (by first | assumption | exact va_up_self _ _ _ | exact (va_up_ne _ _ (by decide)).trans (by assumption) | exact (va_up_ne _ _ (by decide)).trans (va_up_self _ _ _) | exact (va_up_ne _ _ (by decide)).trans ((va_up_ne _ _ (by decide)).trans (by assumption)) | exact (va_up_ne _ _ (by decide)).trans ((va_up_ne _ _ (by decide)).trans (va_up_self _ _ _)) | exact (va_up_ne _ _ (by decide)).trans ((va_up_ne _ _ (by decide)).trans ((va_up_ne _ _ (by decide)).trans (by assumption))) | exact (va_up_ne _ _ (by decide)).trans ((va_up_ne _ _ (by decide)).trans ((va_up_ne _ _ (by decide)).trans ((va_up_ne _ _ (by decide)).trans (by assumption)))) | exact rfl) ((IX_nI (by omega) (by omega))) (htd _ hg) ?_
      refine g_aload_n (pc' := 104) dX8_isBetter_103 rfl rfl ?_
      refine g_get (pc' := 107) fl_X8_35 dX8_isBetter_104 (by omega) (by first | assumption | exact va_up_self _ _ _ | exact (va_up_ne _ _ (by decide)).trans (by assumption) | exact (va_up_ne _ _ (by decide)).trans (va_up_self _ _ _) | exact (va_up_ne _ _ (by decide)).trans ((va_up_ne _ _ (by decide)).trans (by assumption)) | exact (va_up_ne _ _ (by decide)).trans ((va_up_ne _ _ (by decide)).trans (va_up_self _ _ _)) | exact (va_up_ne _ _ (by decide)).trans ((va_up_ne _ _ (by decide)).trans ((va_up_ne _ _ (by decide)).trans (by assumption))) | exact (va_up_ne _ _ (by decide)).trans ((va_up_ne _ _ (by decide)).trans ((va_up_ne _ _ (by decide)).trans ((va_up_ne _ _ (by decide)).trans (by assumption)))) | exact rfl) (by first | assumption | rfl | exact (List.getElem?_set_ne (by decide)).trans (by assumption) | exact List.getElem?_set_self (by omega)) ?_
      refine g_iload_n (pc' := 108) dX8_isBetter_107 rfl rfl ?_
      refine g_ialdV (pc' := 109) dX8_isBetter_108 (by omega) (by first | assumption | exact va_up_self _ _ _ | exact (va_up_ne _ _ (by decide)).trans (by assumption) | exact (va_up_ne _ _ (by decide)).trans (va_up_self _ _ _) | exact (va_up_ne _ _ (by decide)).trans ((va_up_ne _ _ (by decide)).trans (by assumption)) | exact (va_up_ne _ _ (by decide)).trans ((va_up_ne _ _ (by decide)).trans (va_up_self _ _ _)) | exact (va_up_ne _ _ (by decide)).trans ((va_up_ne _ _ (by decide)).trans ((va_up_ne _ _ (by decide)).trans (by assumption))) | exact (va_up_ne _ _ (by decide)).trans ((va_up_ne _ _ (by decide)).trans ((va_up_ne _ _ (by decide)).trans ((va_up_ne _ _ (by decide)).trans (by assumption)))) | exact rfl) ((IX_nI (by omega) (by omega))) (htd _ (by omega)) ?_
      refine g_icmp_geN (tgt := 116) (pc' := 112) dX8_isBetter_109 (by decide) (by first | omega | decide) (by first | omega | decide) (fun y3 => ?_) (fun y3 => ?_)
      · refine g_iconst (pc' := 117) (v := nI 0) dX8_isBetter_116 (by decide) ?_
        exact g_zret dX8_isBetter_117 rfl (by decide) (Nat.le_refl _) (Nat.le_refl _) hq
      · omega
    · refine g_aload_n (pc' := 75) dX8_isBetter_74 rfl rfl ?_
      refine g_get (pc' := 78) fl_X8_32 dX8_isBetter_75 (by omega) (by first | assumption | exact va_up_self _ _ _ | exact (va_up_ne _ _ (by decide)).trans (by assumption) | exact (va_up_ne _ _ (by decide)).trans (va_up_self _ _ _) | exact (va_up_ne _ _ (by decide)).trans ((va_up_ne _ _ (by decide)).trans (by assumption)) | exact (va_up_ne _ _ (by decide)).trans ((va_up_ne _ _ (by decide)).trans (va_up_self _ _ _)) | exact (va_up_ne _ _ (by decide)).trans ((va_up_ne _ _ (by decide)).trans ((va_up_ne _ _ (by decide)).trans (by assumption))) | exact (va_up_ne _ _ (by decide)).trans ((va_up_ne _ _ (by decide)).trans ((va_up_ne _ _ (by decide)).trans ((va_up_ne _ _ (by decide)).trans (by assumption)))) | exact rfl) (by first | assumption | rfl | exact (List.getElem?_set_ne (by decide)).trans (by assumption) | exact List.getElem?_set_self (by omega)) ?_
      refine g_iload_n (pc' := 79) dX8_isBetter_78 rfl rfl ?_
      refine g_ialdV (pc' := 80) dX8_isBetter_79 (by omega) (by first | assumption | exact va_up_self _ _ _ | exact (va_up_ne _ _ (by decide)).trans (by assumption) | exact (va_up_ne _ _ (by decide)).trans (va_up_self _ _ _) | exact (va_up_ne _ _ (by decide)).trans ((va_up_ne _ _ (by decide)).trans (by assumption)) | exact (va_up_ne _ _ (by decide)).trans ((va_up_ne _ _ (by decide)).trans (va_up_self _ _ _)) | exact (va_up_ne _ _ (by decide)).trans ((va_up_ne _ _ (by decide)).trans ((va_up_ne _ _ (by decide)).trans (by assumption))) | exact (va_up_ne _ _ (by decide)).trans ((va_up_ne _ _ (by decide)).trans ((va_up_ne _ _ (by decide)).trans ((va_up_ne _ _ (by decide)).trans (by assumption)))) | exact rfl) ((IX_nI (by omega) (by omega))) (hz _ hg) ?_
      refine g_aload_n (pc' := 81) dX8_isBetter_80 rfl rfl ?_
      refine g_get (pc' := 84) fl_X8_32 dX8_isBetter_81 (by omega) (by first | assumption | exact va_up_self _ _ _ | exact (va_up_ne _ _ (by decide)).trans (by assumption) | exact (va_up_ne _ _ (by decide)).trans (va_up_self _ _ _) | exact (va_up_ne _ _ (by decide)).trans ((va_up_ne _ _ (by decide)).trans (by assumption)) | exact (va_up_ne _ _ (by decide)).trans ((va_up_ne _ _ (by decide)).trans (va_up_self _ _ _)) | exact (va_up_ne _ _ (by decide)).trans ((va_up_ne _ _ (by decide)).trans ((va_up_ne _ _ (by decide)).trans (by assumption))) | exact (va_up_ne _ _ (by decide)).trans ((va_up_ne _ _ (by decide)).trans ((va_up_ne _ _ (by decide)).trans ((va_up_ne _ _ (by decide)).trans (by assumption)))) | exact rfl) (by first | assumption | rfl | exact (List.getElem?_set_ne (by decide)).trans (by assumption) | exact List.getElem?_set_self (by omega)) ?_
      refine g_iload_n (pc' := 85) dX8_isBetter_84 rfl rfl ?_
      refine g_ialdV (pc' := 86) dX8_isBetter_85 (by omega) (by first | assumption | exact va_up_self _ _ _ | exact (va_up_ne _ _ (by decide)).trans (by assumption) | exact (va_up_ne _ _ (by decide)).trans (va_up_self _ _ _) | exact (va_up_ne _ _ (by decide)).trans ((va_up_ne _ _ (by decide)).trans (by assumption)) | exact (va_up_ne _ _ (by decide)).trans ((va_up_ne _ _ (by decide)).trans (va_up_self _ _ _)) | exact (va_up_ne _ _ (by decide)).trans ((va_up_ne _ _ (by decide)).trans ((va_up_ne _ _ (by decide)).trans (by assumption))) | exact (va_up_ne _ _ (by decide)).trans ((va_up_ne _ _ (by decide)).trans ((va_up_ne _ _ (by decide)).trans ((va_up_ne _ _ (by decide)).trans (by assumption)))) | exact rfl) ((IX_nI (by omega) (by omega))) (hz _ (by omega)) ?_
      refine g_icmp_geN (tgt := 93) (pc' := 89) dX8_isBetter_86 (by decide) (by first | omega | decide) (by first | omega | decide) (fun y3 => ?_) (fun y3 => ?_)
      · refine g_iconst (pc' := 94) (v := nI 0) dX8_isBetter_93 (by decide) ?_
        refine g_goto (tgt := 117) dX8_isBetter_94 (by decide) ?_
        exact g_zret dX8_isBetter_117 rfl (by decide) (Nat.le_refl _) (Nat.le_refl _) hq
      · omega
  · rw [lg_eq0, pk_lEQ hv1 hv2] at y1
    refine g_lload_n (pc' := 47) dX8_isBetter_46 rfl rfl ?_
    refine g_lload (pc' := 49) dX8_isBetter_47 rfl ?_
    refine g_lcmp (pc' := 50) dX8_isBetter_49 ?_
    refine g_if_le (tgt := 57) (pc' := 53) dX8_isBetter_50 (by decide) (fun y2 => ?_) (fun y2 => ?_)
    · rw [lg_le hv1 hv2] at y2
      rw [decide_eq_false (by omega)] at hq
      refine g_iconst (pc' := 58) (v := nI 0) dX8_isBetter_57 (by decide) ?_
      exact g_zret dX8_isBetter_58 rfl (by decide) (Nat.le_refl _) (Nat.le_refl _) hq
    · rw [lg_le hv1 hv2] at y2
      rw [decide_eq_true (by omega)] at hq
      refine g_iconst (pc' := 54) (v := nI 1) dX8_isBetter_53 (by decide) ?_
      refine g_goto (tgt := 58) dX8_isBetter_54 (by decide) ?_
      exact g_zret dX8_isBetter_58 rfl (by decide) (Nat.le_refl _) (Nat.le_refl _) hq
def aO : Option Nat → Int32
  | none => -1
  | some j => nI j
theorem c_bestHold {hp : AH} {n D S T R s sm h k : Nat} {kd nn pp fl : Nat → Nat} {bg it tt : Bool} {lu sl : Int64} {Q : Option Value → AH → Nat → Prop} (hn : 64 ≤ n) (M : MS hp D S T R kd nn pp bg it tt s sm h k fl lu sl) (hk31 : k < 2 ^ 31) (G0 : bg = true → WG D S T R it tt s h k)
    (hq0 : mhB bg it tt k = false → Q (some (.int (-4))) hp n)
    (hq1 : mhB bg it tt k = true → ∀ j, argF (fun g => ptb S g h) (hv D S (vl D S (gd D S T R (Pf kd nn pp S) s) (k - 1))) (nh S D) = some j → ∀ hp' : AH, MS hp' D S T R kd nn pp bg it tt s sm h k fl lu sl → FRm hp hp' → Q (some (.int (nI (td S j)))) hp' n) : CT yX8_bestHold cX8_bestHold 3 (some .int) (rmD 4) [.ref 47] hp n Q := by
  obtain ⟨⟨h2, h6, hD1, hD, hT1, hT3, hR, hRV⟩, ⟨x8, x23, x31, c47, hb⟩, -⟩ := id M
  obtain ⟨hN, hN1⟩ := nh_le h2 h6 hD
  show G yX8_bestHold cX8_bestHold 3 (some .int) (rmD 4) none Q 0 0 0 [.ref 47, uu, uu] [] hp n
  refine g_aload_n (pc' := 1) dX8_bestHold_0 rfl rfl ?_
  refine gc_V 4 47 [] [] cw_X8_192 im_X8_mayHold se_X8_mayHold dX8_bestHold_1 (by decide) (by decide) (Nat.le_refl _) (Nat.le_refl _) (Nat.le_of_ble_eq_true rfl) rfl (Nat.le_of_ble_eq_true rfl) (by omega) (by first | assumption | exact va_up_self _ _ _ | exact (va_up_ne _ _ (by decide)).trans (by assumption) | exact (va_up_ne _ _ (by decide)).trans (va_up_self _ _ _) | exact (va_up_ne _ _ (by decide)).trans ((va_up_ne _ _ (by decide)).trans (by assumption)) | exact (va_up_ne _ _ (by decide)).trans ((va_up_ne _ _ (by decide)).trans (va_up_self _ _ _)) | exact (va_up_ne _ _ (by decide)).trans ((va_up_ne _ _ (by decide)).trans ((va_up_ne _ _ (by decide)).trans (by assumption))) | exact (va_up_ne _ _ (by decide)).trans ((va_up_ne _ _ (by decide)).trans ((va_up_ne _ _ (by decide)).trans ((va_up_ne _ _ (by decide)).trans (by assumption)))) | exact rfl) rfl rfl (c_mayHold (D := D) (S := S) (T := T) (R := R) (bg := bg) (it := it) (tt := tt) (k := k) hn c47 mo_MF rfl rfl rfl rfl hk31 ⟨rfl, ?_⟩)
  cases hm : mhB bg it tt k with
  | false =>
    refine g_if_neN (tgt := 10) (pc' := 7) dX8_bestHold_4 (by decide) (by first | omega | decide) (fun z1 => ?_) (fun z1 => ?_)
    · exact absurd rfl z1
    · refine g_bipush (pc' := 9) (v := -4) dX8_bestHold_7 (by decide) ?_
      exact g_iret dX8_bestHold_9 rfl (Nat.le_refl _) (Nat.le_refl _) (hq0 hm)
  | true =>
    have hq1' := hq1 hm
    clear hq1
    simp only [mhB, Bool.and_eq_true, Bool.not_eq_true', decide_eq_true_eq] at hm
    obtain ⟨⟨⟨rfl, rfl⟩, rfl⟩, hk0⟩ := hm
    have G1 := G0 rfl
    obtain ⟨i1, i2, i3, -, i5⟩ := G1.2.1 rfl
    obtain ⟨x0, B⟩ := MS_B M
    have c47' := B.1
    have hL := B.2.2.2.1
    clear c47
    have hvb : ∀ g, g < nh S D → hv D S (vl D S (gd D S T R (Pf kd nn pp S) s) (k - 1)) g < 2 ^ 63 := fun g hg => by
      have h1 := gd_le (P := Pf kd nn pp S) h2 h6 hD hT1 (fun r x hr _ _ => Pf_le hRV hr) i1
      have h3 := hv_le h2 h6 hD (vl_le h2 h6 hD h1 (k - 1)) hg
      have h4 := gd_room (D := D) (s := s) hT1 hR (by omega) hL i1
      rw [Nat.mul_assoc (210 * opn s R * _), ← Nat.pow_succ] at h3
      have h5 : (S ^ D) ^ (k - 1).succ ≤ (S ^ D) ^ T := Nat.pow_le_pow_right (pw_pos (by omega) D) (by omega)
      have h6' := Nat.mul_le_mul_left (210 * opn s R * (S ^ D) ^ (T * (opn s R - 1))) h5
      omega
    refine g_if_neN (tgt := 10) (pc' := 7) dX8_bestHold_4 (by decide) (by first | omega | decide) (fun z1 => ?_) (fun z1 => ?_)
    · refine g_aload_n (pc' := 11) dX8_bestHold_10 rfl rfl ?_
      refine g_aload_n (pc' := 12) dX8_bestHold_11 rfl rfl ?_
      refine g_get (pc' := 15) fl_X8_141 dX8_bestHold_12 (by omega) (by first | assumption | exact va_up_self _ _ _ | exact (va_up_ne _ _ (by decide)).trans (by assumption) | exact (va_up_ne _ _ (by decide)).trans (va_up_self _ _ _) | exact (va_up_ne _ _ (by decide)).trans ((va_up_ne _ _ (by decide)).trans (by assumption)) | exact (va_up_ne _ _ (by decide)).trans ((va_up_ne _ _ (by decide)).trans (va_up_self _ _ _)) | exact (va_up_ne _ _ (by decide)).trans ((va_up_ne _ _ (by decide)).trans ((va_up_ne _ _ (by decide)).trans (by assumption))) | exact (va_up_ne _ _ (by decide)).trans ((va_up_ne _ _ (by decide)).trans ((va_up_ne _ _ (by decide)).trans ((va_up_ne _ _ (by decide)).trans (by assumption)))) | exact rfl) (by first | assumption | rfl | exact (List.getElem?_set_ne (by decide)).trans (by assumption) | exact List.getElem?_set_self (by omega)) ?_
      refine gc_V 18 47 [.int (nI s)] [] cw_X8_138 im_X8_findWorths se_X8_findWorths dX8_bestHold_15 (by decide) (by decide) (Nat.le_refl _) (Nat.le_refl _) (Nat.le_of_ble_eq_true rfl) rfl (Nat.le_of_ble_eq_true rfl) (by omega) (by first | assumption | exact va_up_self _ _ _ | exact (va_up_ne _ _ (by decide)).trans (by assumption) | exact (va_up_ne _ _ (by decide)).trans (va_up_self _ _ _) | exact (va_up_ne _ _ (by decide)).trans ((va_up_ne _ _ (by decide)).trans (by assumption)) | exact (va_up_ne _ _ (by decide)).trans ((va_up_ne _ _ (by decide)).trans (va_up_self _ _ _)) | exact (va_up_ne _ _ (by decide)).trans ((va_up_ne _ _ (by decide)).trans ((va_up_ne _ _ (by decide)).trans (by assumption))) | exact (va_up_ne _ _ (by decide)).trans ((va_up_ne _ _ (by decide)).trans ((va_up_ne _ _ (by decide)).trans ((va_up_ne _ _ (by decide)).trans (by assumption)))) | exact rfl) rfl rfl (c_fW hn B G1.1 i1 (fun hp1 fv S1 c59 hv1 => ⟨rfl, ?_⟩))
      obtain ⟨x1, d47, B1⟩ := MBg_SCr B S1
      refine g_aload_n (pc' := 19) dX8_bestHold_18 rfl rfl ?_
      refine g_aload_n (pc' := 20) dX8_bestHold_19 rfl rfl ?_
      refine g_get (pc' := 23) fl_X8_156 dX8_bestHold_20 (by omega) (by first | assumption | exact va_up_self _ _ _ | exact (va_up_ne _ _ (by decide)).trans (by assumption) | exact (va_up_ne _ _ (by decide)).trans (va_up_self _ _ _) | exact (va_up_ne _ _ (by decide)).trans ((va_up_ne _ _ (by decide)).trans (by assumption)) | exact (va_up_ne _ _ (by decide)).trans ((va_up_ne _ _ (by decide)).trans (va_up_self _ _ _)) | exact (va_up_ne _ _ (by decide)).trans ((va_up_ne _ _ (by decide)).trans ((va_up_ne _ _ (by decide)).trans (by assumption))) | exact (va_up_ne _ _ (by decide)).trans ((va_up_ne _ _ (by decide)).trans ((va_up_ne _ _ (by decide)).trans ((va_up_ne _ _ (by decide)).trans (by assumption)))) | exact rfl) (by first | assumption | rfl | exact (List.getElem?_set_ne (by decide)).trans (by assumption) | exact List.getElem?_set_self (by omega)) ?_
      refine gc_V 26 47 [.int (nI k)] [] cw_X8_99 im_X8_findThrown se_X8_findThrown dX8_bestHold_23 (by decide) (by decide) (Nat.le_refl _) (Nat.le_refl _) (Nat.le_of_ble_eq_true rfl) rfl (Nat.le_of_ble_eq_true rfl) (by omega) (by first | assumption | exact va_up_self _ _ _ | exact (va_up_ne _ _ (by decide)).trans (by assumption) | exact (va_up_ne _ _ (by decide)).trans (va_up_self _ _ _) | exact (va_up_ne _ _ (by decide)).trans ((va_up_ne _ _ (by decide)).trans (by assumption)) | exact (va_up_ne _ _ (by decide)).trans ((va_up_ne _ _ (by decide)).trans (va_up_self _ _ _)) | exact (va_up_ne _ _ (by decide)).trans ((va_up_ne _ _ (by decide)).trans ((va_up_ne _ _ (by decide)).trans (by assumption))) | exact (va_up_ne _ _ (by decide)).trans ((va_up_ne _ _ (by decide)).trans ((va_up_ne _ _ (by decide)).trans ((va_up_ne _ _ (by decide)).trans (by assumption)))) | exact rfl) rfl rfl (c_fT (val := vl D S (gd D S T R (Pf kd nn pp S) s) (k - 1)) hn B1 (by omega) (by omega) c59 (fun h hh hz => hv1 (k - 1) h (by omega) hh hz) (fun hp2 ft S2 d59 d60 hft => ⟨rfl, ?_⟩))
      obtain ⟨x2, e47, B2⟩ := MBg_SCr B1 S2
      have S12 := SCr_tr S1 S2
      obtain ⟨-, F2, -, -, -, -, -, -, ⟨fsh, fz, ftd, fm, fpt, fsp, fw, c51, c52, c53, c54, c55, c57, c58, hTB, hTM, hpt, hpw, hw⟩, -, -⟩ := id B2
      have i2' : h < 462 := by omega
      generalize hval : vl D S (gd D S T R (Pf kd nn pp S) s) (k - 1) = val at hft hvb hq1'
      refine g_iconst (pc' := 27) (v := -1) dX8_bestHold_26 (by decide) ?_
      refine g_istore_n (pc' := 28) dX8_bestHold_27 rfl (by decide) ?_
      refine g_iconst (pc' := 29) (v := nI 0) dX8_bestHold_28 (by decide) ?_
      refine g_istore_n (pc' := 30) dX8_bestHold_29 rfl (by decide) ?_
      have loop : ∀ j g, g + j = nh S D → G yX8_bestHold cX8_bestHold 3 (some .int) (rmD 4) none Q 0 0 30 [.ref 47, .int (aO (argF (fun g => ptb S g h) (hv D S val) g)), .int (nI g)] [] hp2 n := by
        intro j
        induction j with
        | zero =>
          intro g hg
          have hg' : g = nh S D := by omega
          subst hg'
          have sp := argF_spec (fun g => ptb S g h) (hv D S val) (nh S D)
          refine g_iload_n (pc' := 31) dX8_bestHold_30 rfl rfl ?_
          refine g_aload_n (pc' := 32) dX8_bestHold_31 rfl rfl ?_
          refine g_get (pc' := 35) fl_X8_71 dX8_bestHold_32 (by omega) (by first | assumption | exact va_up_self _ _ _ | exact (va_up_ne _ _ (by decide)).trans (by assumption) | exact (va_up_ne _ _ (by decide)).trans (va_up_self _ _ _) | exact (va_up_ne _ _ (by decide)).trans ((va_up_ne _ _ (by decide)).trans (by assumption)) | exact (va_up_ne _ _ (by decide)).trans ((va_up_ne _ _ (by decide)).trans (va_up_self _ _ _)) | exact (va_up_ne _ _ (by decide)).trans ((va_up_ne _ _ (by decide)).trans ((va_up_ne _ _ (by decide)).trans (by assumption))) | exact (va_up_ne _ _ (by decide)).trans ((va_up_ne _ _ (by decide)).trans ((va_up_ne _ _ (by decide)).trans ((va_up_ne _ _ (by decide)).trans (by assumption)))) | exact rfl) (by first | assumption | rfl | exact (List.getElem?_set_ne (by decide)).trans (by assumption) | exact List.getElem?_set_self (by omega)) ?_
          refine g_icmp_geN (tgt := 72) (pc' := 38) dX8_bestHold_35 (by decide) (by first | omega | decide) (by first | omega | decide) (fun y1 => ?_) (fun y1 => ?_)
          · cases ha : argF (fun g => ptb S g h) (hv D S val) (nh S D) with
            | none =>
              rw [ha] at sp
              exact absurd (sp.1 h i2) (by rw [ptb_iff.mpr pt_rf]; decide)
            | some b =>
              rw [ha] at sp
              show G yX8_bestHold cX8_bestHold 3 (some .int) (rmD 4) none Q 0 0 72 [.ref 47, .int (nI b), .int (nI (nh S D))] [] hp2 n
              refine g_aload_n (pc' := 73) dX8_bestHold_72 rfl rfl ?_
              refine g_get (pc' := 76) fl_X8_35 dX8_bestHold_73 (by omega) (by first | assumption | exact va_up_self _ _ _ | exact (va_up_ne _ _ (by decide)).trans (by assumption) | exact (va_up_ne _ _ (by decide)).trans (va_up_self _ _ _) | exact (va_up_ne _ _ (by decide)).trans ((va_up_ne _ _ (by decide)).trans (by assumption)) | exact (va_up_ne _ _ (by decide)).trans ((va_up_ne _ _ (by decide)).trans (va_up_self _ _ _)) | exact (va_up_ne _ _ (by decide)).trans ((va_up_ne _ _ (by decide)).trans ((va_up_ne _ _ (by decide)).trans (by assumption))) | exact (va_up_ne _ _ (by decide)).trans ((va_up_ne _ _ (by decide)).trans ((va_up_ne _ _ (by decide)).trans ((va_up_ne _ _ (by decide)).trans (by assumption)))) | exact rfl) (by first | assumption | rfl | exact (List.getElem?_set_ne (by decide)).trans (by assumption) | exact List.getElem?_set_self (by omega)) ?_
              refine g_iload_n (pc' := 77) dX8_bestHold_76 rfl rfl ?_
              refine g_ialdV (pc' := 78) dX8_bestHold_77 (by omega) (by first | assumption | exact va_up_self _ _ _ | exact (va_up_ne _ _ (by decide)).trans (by assumption) | exact (va_up_ne _ _ (by decide)).trans (va_up_self _ _ _) | exact (va_up_ne _ _ (by decide)).trans ((va_up_ne _ _ (by decide)).trans (by assumption)) | exact (va_up_ne _ _ (by decide)).trans ((va_up_ne _ _ (by decide)).trans (va_up_self _ _ _)) | exact (va_up_ne _ _ (by decide)).trans ((va_up_ne _ _ (by decide)).trans ((va_up_ne _ _ (by decide)).trans (by assumption))) | exact (va_up_ne _ _ (by decide)).trans ((va_up_ne _ _ (by decide)).trans ((va_up_ne _ _ (by decide)).trans ((va_up_ne _ _ (by decide)).trans (by assumption)))) | exact rfl) (IX_nI (show b < 462 by have := sp.1; omega) (by decide)) (hTB.2.2 _ sp.1) ?_
              exact g_iret dX8_bestHold_78 rfl (Nat.le_refl _) (Nat.le_refl _) (hq1' b ha hp2 (MS_S M S12) (SCr_FR S12))
          · omega
        | succ j ih =>
          intro g hg
          have sp := argF_spec (fun g => ptb S g h) (hv D S val) g
          have nxt := ih (g + 1) (by omega)
          have earg : argF (fun g => ptb S g h) (hv D S val) (g + 1) = (match argF (fun g => ptb S g h) (hv D S val) g with | none => if ptb S g h then some g else none | some b => if ptb S g h && decide (hv D S val b < hv D S val g) then some g else some b) := rfl
          have b1 := bI_le (ptb S g h)
          have same : ∀ o, argF (fun g => ptb S g h) (hv D S val) (g + 1) = o → G yX8_bestHold cX8_bestHold 3 (some .int) (rmD 4) none Q 0 0 66 [.ref 47, .int (aO o), .int (nI g)] [] hp2 n := by
            intro o ho
            rw [ho] at nxt
            first | refine g_iincN (z := 1) (pc' := 69) dX8_bestHold_66 rfl rfl (by decide) ?_ | refine g_iinc (pc' := 69) dX8_bestHold_66 rfl rfl (by decide) ?_
            refine g_goto (tgt := 30) dX8_bestHold_69 (by decide) ?_
            exact nxt
          have take : ∀ y : Int32, argF (fun g => ptb S g h) (hv D S val) (g + 1) = some g → G yX8_bestHold cX8_bestHold 3 (some .int) (rmD 4) none Q 0 0 64 [.ref 47, .int y, .int (nI g)] [] hp2 n := by
            intro y ho
            refine g_iload_n (pc' := 65) dX8_bestHold_64 rfl rfl ?_
            refine g_istore_n (pc' := 66) dX8_bestHold_65 rfl (by decide) ?_
            exact same _ ho
          refine g_iload_n (pc' := 31) dX8_bestHold_30 rfl rfl ?_
          refine g_aload_n (pc' := 32) dX8_bestHold_31 rfl rfl ?_
          refine g_get (pc' := 35) fl_X8_71 dX8_bestHold_32 (by omega) (by first | assumption | exact va_up_self _ _ _ | exact (va_up_ne _ _ (by decide)).trans (by assumption) | exact (va_up_ne _ _ (by decide)).trans (va_up_self _ _ _) | exact (va_up_ne _ _ (by decide)).trans ((va_up_ne _ _ (by decide)).trans (by assumption)) | exact (va_up_ne _ _ (by decide)).trans ((va_up_ne _ _ (by decide)).trans (va_up_self _ _ _)) | exact (va_up_ne _ _ (by decide)).trans ((va_up_ne _ _ (by decide)).trans ((va_up_ne _ _ (by decide)).trans (by assumption))) | exact (va_up_ne _ _ (by decide)).trans ((va_up_ne _ _ (by decide)).trans ((va_up_ne _ _ (by decide)).trans ((va_up_ne _ _ (by decide)).trans (by assumption)))) | exact rfl) (by first | assumption | rfl | exact (List.getElem?_set_ne (by decide)).trans (by assumption) | exact List.getElem?_set_self (by omega)) ?_
          refine g_icmp_geN (tgt := 72) (pc' := 38) dX8_bestHold_35 (by decide) (by first | omega | decide) (by first | omega | decide) (fun y1 => ?_) (fun y1 => ?_)
          · omega
          · refine g_aload_n (pc' := 39) dX8_bestHold_38 rfl rfl ?_
            refine g_iload_n (pc' := 40) dX8_bestHold_39 rfl rfl ?_
            refine g_aload_n (pc' := 41) dX8_bestHold_40 rfl rfl ?_
            refine g_get (pc' := 44) fl_X8_153 dX8_bestHold_41 (by omega) (by first | assumption | exact va_up_self _ _ _ | exact (va_up_ne _ _ (by decide)).trans (by assumption) | exact (va_up_ne _ _ (by decide)).trans (va_up_self _ _ _) | exact (va_up_ne _ _ (by decide)).trans ((va_up_ne _ _ (by decide)).trans (by assumption)) | exact (va_up_ne _ _ (by decide)).trans ((va_up_ne _ _ (by decide)).trans (va_up_self _ _ _)) | exact (va_up_ne _ _ (by decide)).trans ((va_up_ne _ _ (by decide)).trans ((va_up_ne _ _ (by decide)).trans (by assumption))) | exact (va_up_ne _ _ (by decide)).trans ((va_up_ne _ _ (by decide)).trans ((va_up_ne _ _ (by decide)).trans ((va_up_ne _ _ (by decide)).trans (by assumption)))) | exact rfl) (by first | assumption | rfl | exact (List.getElem?_set_ne (by decide)).trans (by assumption) | exact List.getElem?_set_self (by omega)) ?_
            refine gc_V 47 47 [.int (nI g), .int (nI h)] [] cw_X8_103 im_X8_isPart se_X8_isPart dX8_bestHold_44 (by decide) (by decide) (Nat.le_refl _) (Nat.le_refl _) (Nat.le_of_ble_eq_true rfl) rfl (Nat.le_of_ble_eq_true rfl) (by omega) (by first | assumption | exact va_up_self _ _ _ | exact (va_up_ne _ _ (by decide)).trans (by assumption) | exact (va_up_ne _ _ (by decide)).trans (va_up_self _ _ _) | exact (va_up_ne _ _ (by decide)).trans ((va_up_ne _ _ (by decide)).trans (by assumption)) | exact (va_up_ne _ _ (by decide)).trans ((va_up_ne _ _ (by decide)).trans (va_up_self _ _ _)) | exact (va_up_ne _ _ (by decide)).trans ((va_up_ne _ _ (by decide)).trans ((va_up_ne _ _ (by decide)).trans (by assumption))) | exact (va_up_ne _ _ (by decide)).trans ((va_up_ne _ _ (by decide)).trans ((va_up_ne _ _ (by decide)).trans ((va_up_ne _ _ (by decide)).trans (by assumption)))) | exact rfl) rfl rfl (c_isPart hn e47 F2 c51 (by omega) (by omega) (fun k hk => hTB.1 g k (by omega) hk) (fun k hk => hTB.1 h k i2 hk) ⟨rfl, ?_⟩)
            cases hp1 : ptb S g h with
            | false =>
              rw [hp1] at earg
              refine g_if_eqN (tgt := 66) (pc' := 50) dX8_bestHold_47 (by decide) (by first | omega | decide) (fun y2 => ?_) (fun y2 => ?_)
              · refine same _ ?_
                rw [earg]
                cases argF (fun g => ptb S g h) (hv D S val) g <;> rfl
              · exact absurd rfl y2
            | true =>
              rw [hp1] at earg
              refine g_if_eqN (tgt := 66) (pc' := 50) dX8_bestHold_47 (by decide) (by first | omega | decide) (fun y2 => ?_) (fun y2 => ?_)
              · exact absurd y2 (by decide)
              · refine g_iload_n (pc' := 51) dX8_bestHold_50 rfl rfl ?_
                refine g_iconst (pc' := 52) (v := -1) dX8_bestHold_51 (by decide) ?_
                cases ha : argF (fun g => ptb S g h) (hv D S val) g with
                | none =>
                  rw [ha] at earg
                  refine g_icmp_eq (tgt := 64) (pc' := 55) dX8_bestHold_52 (by decide) (fun y3 => ?_) (fun y3 => ?_)
                  · exact take _ earg
                  · exact absurd rfl y3
                | some b =>
                  rw [ha] at earg sp
                  have hb3 := sp.1
                  refine g_icmp_eq (tgt := 64) (pc' := 55) dX8_bestHold_52 (by decide) (fun y3 => ?_) (fun y3 => ?_)
                  · exact absurd y3 (nI_nm1 (by omega))
                  · refine g_aload_n (pc' := 56) dX8_bestHold_55 rfl rfl ?_
                    refine g_iload_n (pc' := 57) dX8_bestHold_56 rfl rfl ?_
                    refine g_iload_n (pc' := 58) dX8_bestHold_57 rfl rfl ?_
                    refine gc_V 61 47 [.int (nI g), .int (nI b)] [] cw_X8_202 im_X8_isBetter se_X8_isBetter dX8_bestHold_58 (by decide) (by decide) (Nat.le_refl _) (Nat.le_refl _) (Nat.le_of_ble_eq_true rfl) rfl (Nat.le_of_ble_eq_true rfl) (by omega) (by first | assumption | exact va_up_self _ _ _ | exact (va_up_ne _ _ (by decide)).trans (by assumption) | exact (va_up_ne _ _ (by decide)).trans (va_up_self _ _ _) | exact (va_up_ne _ _ (by decide)).trans ((va_up_ne _ _ (by decide)).trans (by assumption)) | exact (va_up_ne _ _ (by decide)).trans ((va_up_ne _ _ (by decide)).trans (va_up_self _ _ _)) | exact (va_up_ne _ _ (by decide)).trans ((va_up_ne _ _ (by decide)).trans ((va_up_ne _ _ (by decide)).trans (by assumption))) | exact (va_up_ne _ _ (by decide)).trans ((va_up_ne _ _ (by decide)).trans ((va_up_ne _ _ (by decide)).trans ((va_up_ne _ _ (by decide)).trans (by assumption)))) | exact rfl) rfl rfl (c_isBetter (val := val) hn e47 F2 h2 h6 hD c52 c53 c57 d60 hTB.2.1 hTB.2.2 hpw hft (by omega) hb3 (hvb g (by omega)) (hvb b (by omega)) ⟨rfl, ?_⟩)
                    simp only [Bool.true_and] at earg
                    cases hl : decide (hv D S val b < hv D S val g) with
                    | true =>
                      rw [hl] at earg
                      refine g_if_eqN (tgt := 66) (pc' := 64) dX8_bestHold_61 (by decide) (by first | omega | decide) (fun y4 => ?_) (fun y4 => ?_)
                      · exact absurd y4 (by decide)
                      · exact take _ earg
                    | false =>
                      rw [hl] at earg
                      refine g_if_eqN (tgt := 66) (pc' := 64) dX8_bestHold_61 (by decide) (by first | omega | decide) (fun y4 => ?_) (fun y4 => ?_)
                      · exact same _ earg
                      · exact absurd rfl y4
      exact loop (nh S D) 0 (by omega)
    · exact absurd z1 (by decide)
