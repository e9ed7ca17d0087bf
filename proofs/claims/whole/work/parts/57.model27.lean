/-! chance: chanceOf, ask -/
/-- only the rows value and thrown may have changed -/
def NCr (hp hp' : AH) : Prop := (∀ i, i ≠ 59 → i ≠ 60 → hp' i = hp i) ∧ (∃ fv, hp' 59 = aJ 1386 fv) ∧ ∃ ft, hp' 60 = aJ 462 ft
theorem MBg_of {fs : List Value} {hp hp' : AH} {D S T R : Nat} {P : Nat → Nat → Nat} (B : MBg hp fs D S T R P) (h : ∀ i, 47 ≤ i → i < 59 → hp' i = hp i) (h59 : ∃ fv, hp' 59 = aJ 1386 fv) (h60 : ∃ ft, hp' 60 = aJ 462 ft) : MBg hp' fs D S T R P := by
  obtain ⟨b1, b2, b3, b4, b5, b6, b7, b8, b9, b10, b11⟩ := B
  exact ⟨(h 47 (by decide) (by decide)).trans b1, b2, b3, b4, b5, b6, b7, b8, MG_of (fun i q1 q2 => h i (by omega) q2) b9, h59, h60⟩
theorem MBg_N {fs : List Value} {hp hp' : AH} {D S T R : Nat} {P : Nat → Nat → Nat} (B : MBg hp fs D S T R P) (h : NCr hp hp') : MBg hp' fs D S T R P := MBg_of B (fun i q1 q2 => h.1 i (by omega) (by omega)) h.2.1 h.2.2
theorem NCr_tr {a b c : AH} (h1 : NCr a b) (h2 : NCr b c) : NCr a c := ⟨fun i q1 q2 => (h2.1 i q1 q2).trans (h1.1 i q1 q2), h2.2⟩
theorem c_fCT {hp : AH} {n D S T R s w : Nat} {fs : List Value} {P : Nat → Nat → Nat} {fc : Nat → Int64} {Q : Option Value → AH → Nat → Prop} (hn : 64 ≤ n) (B : MBg hp fs D S T R P) (hs : s < 2 ^ R) (hop : 1 ≤ opn s R) (hw : w ≤ 500) (c61 : hp 61 = aJ 128256 fc) (hc : ∀ h r, h < nh S D → sz S h = D → r < R → bt0 s r = true → fc (501 * (s ||| 2 ^ r) + (w - P r h)) = lN (chN D S T R P (s ||| 2 ^ r) (w - P r h)))
    (hq : ∀ (hp' : AH) (fv : Nat → Int64), NCr hp hp' → hp' 59 = aJ 1386 fv → (∀ k h, k < T → h < nh S D → sz S h = D → fv (462 * k + h) = lN (vl D S (gc D S T R P s w) k h)) → Q none hp' n) : CT yX8_findChanceTurn cX8_findChanceTurn 9 none (rmD 2) [.ref 47, .int (nI s), .int (nI w)] hp n Q := by
  obtain ⟨c47, F, ⟨h2, h6, hD1, hD, hT1, hT3, hR1, hR⟩, hL, hP, f8, f23, ⟨x0, f31⟩, ⟨fsh, fz, ft, fm, fpt, fsp, fw, c51, c52, c53, c54, c55, c57, c58, hTB, hTM, hpt, hpw, hw9⟩, ⟨fv, c59⟩, fth, c60⟩ := B
  have h2R : 2 ^ R ≤ 256 := Nat.pow_le_pow_right (by decide) hR
  exact c_findChanceTurn (P := P) (C := chN D S T R P) (M := (S ^ D) ^ (T * (opn s R - 1))) hn c47 F h2 h6 hD hT1 hT3 hR (by omega) hw f8 c51 c52 c54 c55 c57 c59 c60 c61 hTB.1 hTB.2.1 hTM hpw hpt (fun h r hh hz hr => by have := hP r h hr; omega) hc (gc_le h2 h6 hD hT1 hop) (gc_room hT1 (by omega) hL hop) (fun fv' ft' hv => hq _ fv' ⟨fun i i1 i2 => by rw [va_up_ne _ _ i2, va_up_ne _ _ i1], ⟨fv', rfl⟩, ⟨ft', rfl⟩⟩ rfl hv)
theorem c_fTN {hp : AH} {n D S T R k : Nat} {fs : List Value} {fv : Nat → Int64} {P : Nat → Nat → Nat} {val : Nat → Nat} {Q : Option Value → AH → Nat → Prop} (hn : 64 ≤ n) (B : MBg hp fs D S T R P) (hk1 : 1 ≤ k) (hk3 : k ≤ 3) (c59 : hp 59 = aJ 1386 fv) (hval : ∀ h, h < nh S D → sz S h = D → fv (462 * (k - 1) + h) = lN (val h))
    (hq : ∀ (hp' : AH) (ft : Nat → Int64), NCr hp hp' → hp' 60 = aJ 462 ft → (∀ h, h < nh S D → ft h = lN (th D S val h)) → Q none hp' n) : CT yX8_findThrown cX8_findThrown 4 none (rmD 0) [.ref 47, .int (nI k)] hp n Q := by
  obtain ⟨c47, F, ⟨h2, h6, hD1, hD, hT1, hT3, hR1, hR⟩, hL, hP, f8, f23, ⟨x0, f31⟩, ⟨fsh, fz, ft, fm, fpt, fsp, fw, c51, c52, c53, c54, c55, c57, c58, hTB, hTM, hpt, hpw, hw⟩, -, fth, c60⟩ := B
  exact c_findThrown (val := val) hn c47 F h2 h6 hD hk1 hk3 f8 c52 c54 c59 c60 hTB.2.1 hTM hval (fun ft' hft' => hq _ ft' ⟨fun i i1 i2 => va_up_ne _ _ i2, ⟨fv, (va_up_ne _ _ (by decide)).trans c59⟩, ft', rfl⟩ rfl hft')
theorem c_chanceOf {hp : AH} {n D S T R s w : Nat} {fs : List Value} {P : Nat → Nat → Nat} {fc : Nat → Int64} {Q : Option Value → AH → Nat → Prop} (hn : 64 ≤ n) (B : MBg hp fs D S T R P) (hs : s < 2 ^ R) (hw : w ≤ 500) (c61 : hp 61 = aJ 128256 fc) (hc : ∀ h r, h < nh S D → sz S h = D → r < R → bt0 s r = true → fc (501 * (s ||| 2 ^ r) + (w - P r h)) = lN (chN D S T R P (s ||| 2 ^ r) (w - P r h)))
    (hq : ∀ (hp' : AH), NCr hp hp' → Q (some (.long (lN (chN D S T R P s w)))) hp' n) : CT yX8_chanceOf cX8_chanceOf 4 (some .long) (rmD 3) [.ref 47, .int (nI s), .int (nI w), .int (nI (2 ^ R - 1))] hp n Q := by
  obtain ⟨c47, F, ⟨h2, h6, hD1, hD, hT1, hT3, hR1, hR⟩, -, -, -, -, -, -, h59, h60⟩ := id B
  obtain ⟨f99, f0, f1, f2, f3, f4, f5, f6, f9, f10, f11, f12, f13, f16, f24, f25, f26, f27, f28, f29, f30⟩ := id F
  obtain ⟨hN, hN1⟩ := nh_le h2 h6 hD
  have h2R : 2 ^ R ≤ 256 := Nat.pow_le_pow_right (by decide) hR
  have N0 : NCr hp hp := ⟨fun _ _ _ => rfl, h59, h60⟩
  show G yX8_chanceOf cX8_chanceOf 4 (some .long) (rmD 3) none Q 0 0 0 [.ref 47, .int (nI s), .int (nI w), .int (nI (2 ^ R - 1))] [] hp n
  refine g_iload_n (pc' := 1) dX8_chanceOf_0 rfl rfl ?_
  refine g_iload_n (pc' := 2) dX8_chanceOf_1 rfl rfl ?_
  refine g_icmp_neN (tgt := 15) (pc' := 5) dX8_chanceOf_2 (by decide) (by first | omega | decide) (by first | omega | decide) (fun h1 => ?_) (fun h1 => ?_)
  · have hop : 1 ≤ opn s R := by
      rcases Nat.eq_zero_or_pos (opn s R) with q | q
      · exact absurd (full_of hs q) h1
      · exact q
    have hq' := hq
    rw [ch_step hop] at hq'
    refine g_aload_n (pc' := 16) dX8_chanceOf_15 rfl rfl ?_
    refine g_iload_n (pc' := 17) dX8_chanceOf_16 rfl rfl ?_
    refine g_iload_n (pc' := 18) dX8_chanceOf_17 rfl rfl ?_
    refine gc_V 21 47 [.int (nI s), .int (nI w)] [] cw_X8_216 im_X8_findChanceTurn se_X8_findChanceTurn dX8_chanceOf_18 (by decide) (by decide) (Nat.le_refl _) (Nat.le_refl _) (Nat.le_of_ble_eq_true rfl) rfl (Nat.le_of_ble_eq_true rfl) (by omega) (by first | assumption | exact va_up_self _ _ _ | exact (va_up_ne _ _ (by decide)).trans (by assumption) | exact (va_up_ne _ _ (by decide)).trans (va_up_self _ _ _) | exact (va_up_ne _ _ (by decide)).trans ((va_up_ne _ _ (by decide)).trans (by assumption)) | exact (va_up_ne _ _ (by decide)).trans ((va_up_ne _ _ (by decide)).trans (va_up_self _ _ _)) | exact (va_up_ne _ _ (by decide)).trans ((va_up_ne _ _ (by decide)).trans ((va_up_ne _ _ (by decide)).trans (by assumption))) | exact (va_up_ne _ _ (by decide)).trans ((va_up_ne _ _ (by decide)).trans ((va_up_ne _ _ (by decide)).trans ((va_up_ne _ _ (by decide)).trans (by assumption)))) | exact rfl) rfl rfl (c_fCT hn B hs hop hw c61 hc (fun hp1 fv S1 c59 hv1 => ⟨rfl, ?_⟩))
    have B1 := MBg_N B S1
    have c47' := B1.1
    refine g_aload_n (pc' := 22) dX8_chanceOf_21 rfl rfl ?_
    refine g_aload_n (pc' := 23) dX8_chanceOf_22 rfl rfl ?_
    refine g_get (pc' := 26) fl_X8_16 dX8_chanceOf_23 (by omega) (by first | assumption | exact va_up_self _ _ _ | exact (va_up_ne _ _ (by decide)).trans (by assumption) | exact (va_up_ne _ _ (by decide)).trans (va_up_self _ _ _) | exact (va_up_ne _ _ (by decide)).trans ((va_up_ne _ _ (by decide)).trans (by assumption)) | exact (va_up_ne _ _ (by decide)).trans ((va_up_ne _ _ (by decide)).trans (va_up_self _ _ _)) | exact (va_up_ne _ _ (by decide)).trans ((va_up_ne _ _ (by decide)).trans ((va_up_ne _ _ (by decide)).trans (by assumption))) | exact (va_up_ne _ _ (by decide)).trans ((va_up_ne _ _ (by decide)).trans ((va_up_ne _ _ (by decide)).trans ((va_up_ne _ _ (by decide)).trans (by assumption)))) | exact rfl) (by first | assumption | rfl | exact (List.getElem?_set_ne (by decide)).trans (by assumption) | exact List.getElem?_set_self (by omega)) ?_
    refine gc_V 29 47 [.int (nI T)] [] cw_X8_99 im_X8_findThrown se_X8_findThrown dX8_chanceOf_26 (by decide) (by decide) (Nat.le_refl _) (Nat.le_refl _) (Nat.le_of_ble_eq_true rfl) rfl (Nat.le_of_ble_eq_true rfl) (by omega) (by first | assumption | exact va_up_self _ _ _ | exact (va_up_ne _ _ (by decide)).trans (by assumption) | exact (va_up_ne _ _ (by decide)).trans (va_up_self _ _ _) | exact (va_up_ne _ _ (by decide)).trans ((va_up_ne _ _ (by decide)).trans (by assumption)) | exact (va_up_ne _ _ (by decide)).trans ((va_up_ne _ _ (by decide)).trans (va_up_self _ _ _)) | exact (va_up_ne _ _ (by decide)).trans ((va_up_ne _ _ (by decide)).trans ((va_up_ne _ _ (by decide)).trans (by assumption))) | exact (va_up_ne _ _ (by decide)).trans ((va_up_ne _ _ (by decide)).trans ((va_up_ne _ _ (by decide)).trans ((va_up_ne _ _ (by decide)).trans (by assumption)))) | exact rfl) rfl rfl (c_fTN (val := vl D S (gc D S T R P s w) (T - 1)) hn B1 hT1 hT3 c59 (fun h hh hz => hv1 (T - 1) h (by omega) hh hz) (fun hp2 ft S2 d60 hft => ⟨rfl, ?_⟩))
    have B2 := MBg_N B1 S2
    have c47'' := B2.1
    refine g_aload_n (pc' := 30) dX8_chanceOf_29 rfl rfl ?_
    refine g_get (pc' := 33) fl_X8_57 dX8_chanceOf_30 (by omega) (by first | assumption | exact va_up_self _ _ _ | exact (va_up_ne _ _ (by decide)).trans (by assumption) | exact (va_up_ne _ _ (by decide)).trans (va_up_self _ _ _) | exact (va_up_ne _ _ (by decide)).trans ((va_up_ne _ _ (by decide)).trans (by assumption)) | exact (va_up_ne _ _ (by decide)).trans ((va_up_ne _ _ (by decide)).trans (va_up_self _ _ _)) | exact (va_up_ne _ _ (by decide)).trans ((va_up_ne _ _ (by decide)).trans ((va_up_ne _ _ (by decide)).trans (by assumption))) | exact (va_up_ne _ _ (by decide)).trans ((va_up_ne _ _ (by decide)).trans ((va_up_ne _ _ (by decide)).trans ((va_up_ne _ _ (by decide)).trans (by assumption)))) | exact rfl) (by first | assumption | rfl | exact (List.getElem?_set_ne (by decide)).trans (by assumption) | exact List.getElem?_set_self (by omega)) ?_
    refine g_iconst (pc' := 34) (v := nI 0) dX8_chanceOf_33 (by decide) ?_
    refine g_laldV (pc' := 35) dX8_chanceOf_34 (by omega) (by first | assumption | exact va_up_self _ _ _ | exact (va_up_ne _ _ (by decide)).trans (by assumption) | exact (va_up_ne _ _ (by decide)).trans (va_up_self _ _ _) | exact (va_up_ne _ _ (by decide)).trans ((va_up_ne _ _ (by decide)).trans (by assumption)) | exact (va_up_ne _ _ (by decide)).trans ((va_up_ne _ _ (by decide)).trans (va_up_self _ _ _)) | exact (va_up_ne _ _ (by decide)).trans ((va_up_ne _ _ (by decide)).trans ((va_up_ne _ _ (by decide)).trans (by assumption))) | exact (va_up_ne _ _ (by decide)).trans ((va_up_ne _ _ (by decide)).trans ((va_up_ne _ _ (by decide)).trans ((va_up_ne _ _ (by decide)).trans (by assumption)))) | exact rfl) ((IX_nI (by omega) (by omega))) (hft 0 hN1) ?_
    exact g_lret dX8_chanceOf_35 rfl (Nat.le_refl _) (Nat.le_refl _) (hq' hp2 (NCr_tr S1 S2))
  · have hop : opn s R = 0 := by rw [h1]; exact opn_full R
    have hq' := hq hp N0
    rw [ch_full hop] at hq'
    refine g_iload_n (pc' := 6) dX8_chanceOf_5 rfl rfl ?_
    refine g_if_neN (tgt := 13) (pc' := 9) dX8_chanceOf_6 (by decide) (by first | omega | decide) (fun h3 => ?_) (fun h3 => ?_)
    · refine g_lconst (pc' := 14) (v := lN 0) dX8_chanceOf_13 (by decide) ?_
      rw [if_neg h3] at hq'
      exact g_lret dX8_chanceOf_14 rfl (Nat.le_refl _) (Nat.le_refl _) hq'
    · refine g_lconst (pc' := 10) (v := lN 1) dX8_chanceOf_9 (by decide) ?_
      refine g_goto (tgt := 14) dX8_chanceOf_10 (by decide) ?_
      rw [if_pos h3] at hq'
      exact g_lret dX8_chanceOf_14 rfl (Nat.le_refl _) (Nat.le_refl _) hq'
theorem c_ask {hp : AH} {n D S T R s w : Nat} {fs : List Value} {P : Nat → Nat → Nat} {fa : Nat → Int32} {Q : Option Value → AH → Nat → Prop} (hn : 64 ≤ n) (B : MBg hp fs D S T R P) (hs : s < 2 ^ R) (hw : w ≤ 500) (c62 : hp 62 = aZ 128256 fa)
    (hq : ∀ (fa' : Nat → Int32), (∀ i, i < 501 * (s + 1) → fa' i = fa i) → (∀ i, fa' i = 0 → fa i = 0) → (∀ h r, h < nh S D → sz S h = D → r < R → bt0 s r = true → ¬ fa' (501 * (s ||| 2 ^ r) + (w - P r h)) = 0) → Q none (va_up hp 62 (aZ 128256 fa')) n) : CT yX8_ask cX8_ask 5 none (rmD 1) [.ref 47, .int (nI s), .int (nI w)] hp n Q := by
  obtain ⟨c47, F, ⟨h2, h6, hD1, hD, hT1, hT3, hR1, hR⟩, -, hP, f8, -, -, ⟨fsh, fz, ft, fm, fpt, fsp, fw, c51, c52, c53, c54, c55, c57, c58, hTB, hTM, hpt, hpw, hw9⟩, -, -⟩ := B
  obtain ⟨f99, f0, f1, f2, f3, f4, f5, f6, f9, f10, f11, f12, f13, f16, f24, f25, f26, f27, f28, f29, f30⟩ := id F
  obtain ⟨hN, hN1⟩ := nh_le h2 h6 hD
  have h2R : 2 ^ R ≤ 256 := Nat.pow_le_pow_right (by decide) hR
  show G yX8_ask cX8_ask 5 none (rmD 1) none Q 0 0 0 [.ref 47, .int (nI s), .int (nI w), uu, uu] [] hp n
  rw [← up_id c62]
  refine g_iconst (pc' := 1) (v := nI 0) dX8_ask_0 (by decide) ?_
  refine g_istore_n (pc' := 2) dX8_ask_1 rfl (by decide) ?_
  have loop : ∀ k h fa', h + k = nh S D → (∀ i, i < 501 * (s + 1) → fa' i = fa i) → (∀ i, fa' i = 0 → fa i = 0) → (∀ h' r, h' < h → sz S h' = D → r < R → bt0 s r = true → ¬ fa' (501 * (s ||| 2 ^ r) + (w - P r h')) = 0) → G yX8_ask cX8_ask 5 none (rmD 1) none Q 0 0 2 [.ref 47, .int (nI s), .int (nI w), .int (nI h), uu] [] (va_up hp 62 (aZ 128256 fa')) n := by
    intro k
    induction k with
    | zero =>
      intro h fa' hh a1 a2 a3
      refine g_iload_n (pc' := 3) dX8_ask_2 rfl rfl ?_
      refine g_aload_n (pc' := 4) dX8_ask_3 rfl rfl ?_
      refine g_get (pc' := 7) fl_X8_71 dX8_ask_4 (by omega) (by first | assumption | exact va_up_self _ _ _ | exact (va_up_ne _ _ (by decide)).trans (by assumption) | exact (va_up_ne _ _ (by decide)).trans (va_up_self _ _ _) | exact (va_up_ne _ _ (by decide)).trans ((va_up_ne _ _ (by decide)).trans (by assumption)) | exact (va_up_ne _ _ (by decide)).trans ((va_up_ne _ _ (by decide)).trans (va_up_self _ _ _)) | exact (va_up_ne _ _ (by decide)).trans ((va_up_ne _ _ (by decide)).trans ((va_up_ne _ _ (by decide)).trans (by assumption))) | exact (va_up_ne _ _ (by decide)).trans ((va_up_ne _ _ (by decide)).trans ((va_up_ne _ _ (by decide)).trans ((va_up_ne _ _ (by decide)).trans (by assumption)))) | exact rfl) (by first | assumption | rfl | exact (List.getElem?_set_ne (by decide)).trans (by assumption) | exact List.getElem?_set_self (by omega)) ?_
      refine g_icmp_geN (tgt := 86) (pc' := 10) dX8_ask_7 (by decide) (by first | omega | decide) (by first | omega | decide) (fun h1 => ?_) (fun h1 => ?_)
      · exact g_vret dX8_ask_86 rfl (Nat.le_refl _) (Nat.le_refl _) (hq fa' a1 a2 (fun h' r q1 => a3 h' r (by omega)))
      · omega
    | succ k ih =>
      intro h fa' hh a1 a2 a3
      have zl := sz_le S h
      refine g_iload_n (pc' := 3) dX8_ask_2 rfl rfl ?_
      refine g_aload_n (pc' := 4) dX8_ask_3 rfl rfl ?_
      refine g_get (pc' := 7) fl_X8_71 dX8_ask_4 (by omega) (by first | assumption | exact va_up_self _ _ _ | exact (va_up_ne _ _ (by decide)).trans (by assumption) | exact (va_up_ne _ _ (by decide)).trans (va_up_self _ _ _) | exact (va_up_ne _ _ (by decide)).trans ((va_up_ne _ _ (by decide)).trans (by assumption)) | exact (va_up_ne _ _ (by decide)).trans ((va_up_ne _ _ (by decide)).trans (va_up_self _ _ _)) | exact (va_up_ne _ _ (by decide)).trans ((va_up_ne _ _ (by decide)).trans ((va_up_ne _ _ (by decide)).trans (by assumption))) | exact (va_up_ne _ _ (by decide)).trans ((va_up_ne _ _ (by decide)).trans ((va_up_ne _ _ (by decide)).trans ((va_up_ne _ _ (by decide)).trans (by assumption)))) | exact rfl) (by first | assumption | rfl | exact (List.getElem?_set_ne (by decide)).trans (by assumption) | exact List.getElem?_set_self (by omega)) ?_
      refine g_icmp_geN (tgt := 86) (pc' := 10) dX8_ask_7 (by decide) (by first | omega | decide) (by first | omega | decide) (fun h1 => ?_) (fun h1 => ?_)
      · omega
      · refine g_iconst (pc' := 11) (v := nI 0) dX8_ask_10 (by decide) ?_
        refine g_istore (pc' := 13) dX8_ask_11 (by decide) ?_
        have inner : ∀ j r fa', r + j = R → (∀ i, i < 501 * (s + 1) → fa' i = fa i) → (∀ i, fa' i = 0 → fa i = 0) → (∀ h' r, h' < h → sz S h' = D → r < R → bt0 s r = true → ¬ fa' (501 * (s ||| 2 ^ r) + (w - P r h')) = 0) → (∀ r', r' < r → sz S h = D → bt0 s r' = true → ¬ fa' (501 * (s ||| 2 ^ r') + (w - P r' h)) = 0) → G yX8_ask cX8_ask 5 none (rmD 1) none Q 0 0 13 [.ref 47, .int (nI s), .int (nI w), .int (nI h), .int (nI r)] [] (va_up hp 62 (aZ 128256 fa')) n := by
          intro j
          induction j with
          | zero =>
            intro r fa' hr a1 a2 a3 a4
            refine g_iload (pc' := 15) dX8_ask_13 rfl ?_
            refine g_aload_n (pc' := 16) dX8_ask_15 rfl rfl ?_
            refine g_get (pc' := 19) fl_X8_86 dX8_ask_16 (by omega) (by first | assumption | exact va_up_self _ _ _ | exact (va_up_ne _ _ (by decide)).trans (by assumption) | exact (va_up_ne _ _ (by decide)).trans (va_up_self _ _ _) | exact (va_up_ne _ _ (by decide)).trans ((va_up_ne _ _ (by decide)).trans (by assumption)) | exact (va_up_ne _ _ (by decide)).trans ((va_up_ne _ _ (by decide)).trans (va_up_self _ _ _)) | exact (va_up_ne _ _ (by decide)).trans ((va_up_ne _ _ (by decide)).trans ((va_up_ne _ _ (by decide)).trans (by assumption))) | exact (va_up_ne _ _ (by decide)).trans ((va_up_ne _ _ (by decide)).trans ((va_up_ne _ _ (by decide)).trans ((va_up_ne _ _ (by decide)).trans (by assumption)))) | exact rfl) (by first | assumption | rfl | exact (List.getElem?_set_ne (by decide)).trans (by assumption) | exact List.getElem?_set_self (by omega)) ?_
            refine g_icmp_geN (tgt := 80) (pc' := 22) dX8_ask_19 (by decide) (by first | omega | decide) (by first | omega | decide) (fun h3 => ?_) (fun h3 => ?_)
            · first | refine g_iincN (z := 1) (pc' := 83) dX8_ask_80 rfl rfl (by decide) ?_ | refine g_iinc (pc' := 83) dX8_ask_80 rfl rfl (by decide) ?_
              refine g_goto (tgt := 2) dX8_ask_83 (by decide) ?_
              refine g_fg (by repeat (first | exact trivial | refine ⟨Or.inr rfl, ?_⟩ | refine ⟨Or.inl rfl, ?_⟩)) (ih (h + 1) fa' (by omega) a1 a2 (fun h' r' q1 q2 q3 q4 => ?_))
              rcases Nat.lt_or_ge h' h with q | q
              · exact a3 h' r' q q2 q3 q4
              · have e : h' = h := by omega
                subst e
                exact a4 r' (by omega) q2 q4
            · omega
          | succ j ih2 =>
            intro r fa' hr a1 a2 a3 a4
            have hb9 : s / 2 ^ r % 2 < 2 := Nat.mod_lt _ (by decide)
            have h2r : 2 ^ r ≤ 2 ^ 7 := Nat.pow_le_pow_right (by decide) (by omega)
            have hor : s ||| 2 ^ r < 2 ^ 8 := Nat.or_lt_two_pow (by omega) (by omega)
            have hP9 := hP r h (by omega)
            refine g_iload (pc' := 15) dX8_ask_13 rfl ?_
            refine g_aload_n (pc' := 16) dX8_ask_15 rfl rfl ?_
            refine g_get (pc' := 19) fl_X8_86 dX8_ask_16 (by omega) (by first | assumption | exact va_up_self _ _ _ | exact (va_up_ne _ _ (by decide)).trans (by assumption) | exact (va_up_ne _ _ (by decide)).trans (va_up_self _ _ _) | exact (va_up_ne _ _ (by decide)).trans ((va_up_ne _ _ (by decide)).trans (by assumption)) | exact (va_up_ne _ _ (by decide)).trans ((va_up_ne _ _ (by decide)).trans (va_up_self _ _ _)) | exact (va_up_ne _ _ (by decide)).trans ((va_up_ne _ _ (by decide)).trans ((va_up_ne _ _ (by decide)).trans (by assumption))) | exact (va_up_ne _ _ (by decide)).trans ((va_up_ne _ _ (by decide)).trans ((va_up_ne _ _ (by decide)).trans ((va_up_ne _ _ (by decide)).trans (by assumption)))) | exact rfl) (by first | assumption | rfl | exact (List.getElem?_set_ne (by decide)).trans (by assumption) | exact List.getElem?_set_self (by omega)) ?_
            refine g_icmp_geN (tgt := 80) (pc' := 22) dX8_ask_19 (by decide) (by first | omega | decide) (by first | omega | decide) (fun h3 => ?_) (fun h3 => ?_)
            · omega
            · refine g_aload_n (pc' := 23) dX8_ask_22 rfl rfl ?_
              refine g_get (pc' := 26) fl_X8_32 dX8_ask_23 (by omega) (by first | assumption | exact va_up_self _ _ _ | exact (va_up_ne _ _ (by decide)).trans (by assumption) | exact (va_up_ne _ _ (by decide)).trans (va_up_self _ _ _) | exact (va_up_ne _ _ (by decide)).trans ((va_up_ne _ _ (by decide)).trans (by assumption)) | exact (va_up_ne _ _ (by decide)).trans ((va_up_ne _ _ (by decide)).trans (va_up_self _ _ _)) | exact (va_up_ne _ _ (by decide)).trans ((va_up_ne _ _ (by decide)).trans ((va_up_ne _ _ (by decide)).trans (by assumption))) | exact (va_up_ne _ _ (by decide)).trans ((va_up_ne _ _ (by decide)).trans ((va_up_ne _ _ (by decide)).trans ((va_up_ne _ _ (by decide)).trans (by assumption)))) | exact rfl) (by first | assumption | rfl | exact (List.getElem?_set_ne (by decide)).trans (by assumption) | exact List.getElem?_set_self (by omega)) ?_
              refine g_iload_n (pc' := 27) dX8_ask_26 rfl rfl ?_
              refine g_ialdV (pc' := 28) dX8_ask_27 (by omega) (by first | assumption | exact va_up_self _ _ _ | exact (va_up_ne _ _ (by decide)).trans (by assumption) | exact (va_up_ne _ _ (by decide)).trans (va_up_self _ _ _) | exact (va_up_ne _ _ (by decide)).trans ((va_up_ne _ _ (by decide)).trans (by assumption)) | exact (va_up_ne _ _ (by decide)).trans ((va_up_ne _ _ (by decide)).trans (va_up_self _ _ _)) | exact (va_up_ne _ _ (by decide)).trans ((va_up_ne _ _ (by decide)).trans ((va_up_ne _ _ (by decide)).trans (by assumption))) | exact (va_up_ne _ _ (by decide)).trans ((va_up_ne _ _ (by decide)).trans ((va_up_ne _ _ (by decide)).trans ((va_up_ne _ _ (by decide)).trans (by assumption)))) | exact rfl) ((IX_nI (by omega) (by omega))) (hTB.2.1 _ (by omega)) ?_
              refine g_aload_n (pc' := 29) dX8_ask_28 rfl rfl ?_
              refine g_get (pc' := 32) fl_X8_7 dX8_ask_29 (by omega) (by first | assumption | exact va_up_self _ _ _ | exact (va_up_ne _ _ (by decide)).trans (by assumption) | exact (va_up_ne _ _ (by decide)).trans (va_up_self _ _ _) | exact (va_up_ne _ _ (by decide)).trans ((va_up_ne _ _ (by decide)).trans (by assumption)) | exact (va_up_ne _ _ (by decide)).trans ((va_up_ne _ _ (by decide)).trans (va_up_self _ _ _)) | exact (va_up_ne _ _ (by decide)).trans ((va_up_ne _ _ (by decide)).trans ((va_up_ne _ _ (by decide)).trans (by assumption))) | exact (va_up_ne _ _ (by decide)).trans ((va_up_ne _ _ (by decide)).trans ((va_up_ne _ _ (by decide)).trans ((va_up_ne _ _ (by decide)).trans (by assumption)))) | exact rfl) (by first | assumption | rfl | exact (List.getElem?_set_ne (by decide)).trans (by assumption) | exact List.getElem?_set_self (by omega)) ?_
              refine g_icmp_neN (tgt := 80) (pc' := 35) dX8_ask_32 (by decide) (by first | omega | decide) (by first | omega | decide) (fun h4 => ?_) (fun h4 => ?_)
              · first | refine g_iincN (z := 1) (pc' := 83) dX8_ask_80 rfl rfl (by decide) ?_ | refine g_iinc (pc' := 83) dX8_ask_80 rfl rfl (by decide) ?_
                refine g_goto (tgt := 2) dX8_ask_83 (by decide) ?_
                refine g_fg (by repeat (first | exact trivial | refine ⟨Or.inr rfl, ?_⟩ | refine ⟨Or.inl rfl, ?_⟩)) (ih (h + 1) fa' (by omega) a1 a2 (fun h' r' q1 q2 q3 q4 => ?_))
                rcases Nat.lt_or_ge h' h with q | q
                · exact a3 h' r' q q2 q3 q4
                · have e : h' = h := by omega
                  subst e
                  exact absurd q2 h4
              · refine g_iload_n (pc' := 36) dX8_ask_35 rfl rfl ?_
                refine g_iload (pc' := 38) dX8_ask_36 rfl ?_
                refine g_ishr (pc' := 39) dX8_ask_38 ?_
                refine g_iconst (pc' := 40) (v := nI 1) dX8_ask_39 (by decide) ?_
                refine g_iand (pc' := 41) dX8_ask_40 ?_
                rw [sh_b (by omega) (by omega)]
                refine g_if_neN (tgt := 74) (pc' := 44) dX8_ask_41 (by decide) (by first | omega | decide) (fun h5 => ?_) (fun h5 => ?_)
                · first | refine g_iincN (z := 1) (pc' := 77) dX8_ask_74 rfl rfl (by decide) ?_ | refine g_iinc (pc' := 77) dX8_ask_74 rfl rfl (by decide) ?_
                  refine g_goto (tgt := 13) dX8_ask_77 (by decide) ?_
                  have hb : bt0 s r = false := by unfold bt0; simpa using h5
                  refine ih2 (r + 1) fa' (by omega) a1 a2 a3 (fun r' q1 q2 q3 => ?_)
                  by_cases e : r' = r
                  · rw [e, hb] at q3
                    cases q3
                  · exact a4 r' (by omega) q2 q3
                · have hb : bt0 s r = true := by unfold bt0; simpa using h5
                  have hog := or_gt hb
                  refine g_aload_n (pc' := 45) dX8_ask_44 rfl rfl ?_
                  refine g_get (pc' := 48) fl_X8_64 dX8_ask_45 (by omega) (by first | assumption | exact va_up_self _ _ _ | exact (va_up_ne _ _ (by decide)).trans (by assumption) | exact (va_up_ne _ _ (by decide)).trans (va_up_self _ _ _) | exact (va_up_ne _ _ (by decide)).trans ((va_up_ne _ _ (by decide)).trans (by assumption)) | exact (va_up_ne _ _ (by decide)).trans ((va_up_ne _ _ (by decide)).trans (va_up_self _ _ _)) | exact (va_up_ne _ _ (by decide)).trans ((va_up_ne _ _ (by decide)).trans ((va_up_ne _ _ (by decide)).trans (by assumption))) | exact (va_up_ne _ _ (by decide)).trans ((va_up_ne _ _ (by decide)).trans ((va_up_ne _ _ (by decide)).trans ((va_up_ne _ _ (by decide)).trans (by assumption)))) | exact rfl) (by first | assumption | rfl | exact (List.getElem?_set_ne (by decide)).trans (by assumption) | exact List.getElem?_set_self (by omega)) ?_
                  refine g_aload_n (pc' := 49) dX8_ask_48 rfl rfl ?_
                  refine g_iload_n (pc' := 50) dX8_ask_49 rfl rfl ?_
                  refine g_iconst (pc' := 51) (v := nI 1) dX8_ask_50 (by decide) ?_
                  refine g_iload (pc' := 53) dX8_ask_51 rfl ?_
                  refine g_ishl (pc' := 54) dX8_ask_53 ?_
                  rw [sh_l (by omega) (by omega), Nat.one_mul]
                  refine g_ior (pc' := 55) dX8_ask_54 ?_
                  rw [or_n]
                  refine g_iload_n (pc' := 56) dX8_ask_55 rfl rfl ?_
                  refine g_aload_n (pc' := 57) dX8_ask_56 rfl rfl ?_
                  refine g_get (pc' := 60) fl_X8_41 dX8_ask_57 (by omega) (by first | assumption | exact va_up_self _ _ _ | exact (va_up_ne _ _ (by decide)).trans (by assumption) | exact (va_up_ne _ _ (by decide)).trans (va_up_self _ _ _) | exact (va_up_ne _ _ (by decide)).trans ((va_up_ne _ _ (by decide)).trans (by assumption)) | exact (va_up_ne _ _ (by decide)).trans ((va_up_ne _ _ (by decide)).trans (va_up_self _ _ _)) | exact (va_up_ne _ _ (by decide)).trans ((va_up_ne _ _ (by decide)).trans ((va_up_ne _ _ (by decide)).trans (by assumption))) | exact (va_up_ne _ _ (by decide)).trans ((va_up_ne _ _ (by decide)).trans ((va_up_ne _ _ (by decide)).trans ((va_up_ne _ _ (by decide)).trans (by assumption)))) | exact rfl) (by first | assumption | rfl | exact (List.getElem?_set_ne (by decide)).trans (by assumption) | exact List.getElem?_set_self (by omega)) ?_
                  refine g_bipush (pc' := 62) (v := nI 8) dX8_ask_60 (by decide) ?_
                  refine g_iload_n (pc' := 63) dX8_ask_62 rfl rfl ?_
                  first | refine g_imulN (pc' := 64) dX8_ask_63 ?_ | refine g_imul (pc' := 64) dX8_ask_63 ?_
                  refine g_iload (pc' := 66) dX8_ask_64 rfl ?_
                  first | refine g_iaddN (pc' := 67) dX8_ask_66 ?_ | refine g_iadd (pc' := 67) dX8_ask_66 ?_
                  refine g_ialdV (pc' := 68) dX8_ask_67 (by omega) (by first | assumption | exact va_up_self _ _ _ | exact (va_up_ne _ _ (by decide)).trans (by assumption) | exact (va_up_ne _ _ (by decide)).trans (va_up_self _ _ _) | exact (va_up_ne _ _ (by decide)).trans ((va_up_ne _ _ (by decide)).trans (by assumption)) | exact (va_up_ne _ _ (by decide)).trans ((va_up_ne _ _ (by decide)).trans (va_up_self _ _ _)) | exact (va_up_ne _ _ (by decide)).trans ((va_up_ne _ _ (by decide)).trans ((va_up_ne _ _ (by decide)).trans (by assumption))) | exact (va_up_ne _ _ (by decide)).trans ((va_up_ne _ _ (by decide)).trans ((va_up_ne _ _ (by decide)).trans ((va_up_ne _ _ (by decide)).trans (by assumption)))) | exact rfl) ((IX_nI (by omega) (by omega))) (hpt _ _ (by omega) h4 (by omega)) ?_
                  refine g_isub (pc' := 69) dX8_ask_68 ?_
                  refine gc_V 72 47 [.int (nI (s ||| 2 ^ r)), .int (nI w - nI (P r h))] [.ref 62] cw_X8_205 im_X8_wants se_X8_wants dX8_ask_69 (by decide) (by decide) (Nat.le_refl _) (Nat.le_refl _) (Nat.le_of_ble_eq_true rfl) rfl (Nat.le_of_ble_eq_true rfl) (by omega) (by first | assumption | exact va_up_self _ _ _ | exact (va_up_ne _ _ (by decide)).trans (by assumption) | exact (va_up_ne _ _ (by decide)).trans (va_up_self _ _ _) | exact (va_up_ne _ _ (by decide)).trans ((va_up_ne _ _ (by decide)).trans (by assumption)) | exact (va_up_ne _ _ (by decide)).trans ((va_up_ne _ _ (by decide)).trans (va_up_self _ _ _)) | exact (va_up_ne _ _ (by decide)).trans ((va_up_ne _ _ (by decide)).trans ((va_up_ne _ _ (by decide)).trans (by assumption))) | exact (va_up_ne _ _ (by decide)).trans ((va_up_ne _ _ (by decide)).trans ((va_up_ne _ _ (by decide)).trans ((va_up_ne _ _ (by decide)).trans (by assumption)))) | exact rfl) rfl rfl (c_wants (by omega) (by omega) ⟨rfl, ?_⟩)
                  show G yX8_ask cX8_ask 5 none (rmD 1) none Q 0 0 72 [.ref 47, .int (nI s), .int (nI w), .int (nI h), .int (nI r)] [.int (nI (501 * (s ||| 2 ^ r) + (w - P r h))), .ref 62] (va_up hp 62 (aZ 128256 fa')) n
                  refine g_iconst (pc' := 73) (v := nI 1) dX8_ask_72 (by decide) ?_
                  refine g_zast (pc' := 74) dX8_ask_73 (by omega) (by first | assumption | exact va_up_self _ _ _ | exact (va_up_ne _ _ (by decide)).trans (by assumption) | exact (va_up_ne _ _ (by decide)).trans (va_up_self _ _ _) | exact (va_up_ne _ _ (by decide)).trans ((va_up_ne _ _ (by decide)).trans (by assumption)) | exact (va_up_ne _ _ (by decide)).trans ((va_up_ne _ _ (by decide)).trans (va_up_self _ _ _)) | exact (va_up_ne _ _ (by decide)).trans ((va_up_ne _ _ (by decide)).trans ((va_up_ne _ _ (by decide)).trans (by assumption))) | exact (va_up_ne _ _ (by decide)).trans ((va_up_ne _ _ (by decide)).trans ((va_up_ne _ _ (by decide)).trans ((va_up_ne _ _ (by decide)).trans (by assumption)))) | exact rfl) ((IX_nI (by omega) (by omega))) (by decide) ?_
                  rw [up_up]
                  first | refine g_iincN (z := 1) (pc' := 77) dX8_ask_74 rfl rfl (by decide) ?_ | refine g_iinc (pc' := 77) dX8_ask_74 rfl rfl (by decide) ?_
                  refine g_goto (tgt := 13) dX8_ask_77 (by decide) ?_
                  have n1 : ∀ i, upd fa' (501 * (s ||| 2 ^ r) + (w - P r h)) (nI 1) i = 0 → i ≠ 501 * (s ||| 2 ^ r) + (w - P r h) := fun i q e => by
                    rw [e, pk_us] at q
                    exact absurd q (by decide)
                  have n2 : ∀ i, upd fa' (501 * (s ||| 2 ^ r) + (w - P r h)) (nI 1) i = 0 → fa' i = 0 := fun i q => by
                    rw [pk_un (n1 i q)] at q
                    exact q
                  refine ih2 (r + 1) _ (by omega) (fun i hi => ?_) (fun i hi => a2 i (n2 i hi)) (fun h' r' q1 q2 q3 q4 q5 => a3 h' r' q1 q2 q3 q4 (n2 _ q5)) (fun r' q1 q2 q3 q5 => ?_)
                  · rw [pk_un (by omega)]; exact a1 i hi
                  · by_cases e : r' = r
                    · rw [e] at q5
                      exact n1 _ q5 rfl
                    · exact a4 r' (by omega) q2 q3 (n2 _ q5)
        exact inner R 0 fa' (by omega) a1 a2 a3 (fun r' q => absurd q (Nat.not_lt_zero r'))
  exact loop (nh S D) 0 fa (by omega) (fun _ _ => rfl) (fun _ q => q) (fun h' r q => absurd q (Nat.not_lt_zero h'))
