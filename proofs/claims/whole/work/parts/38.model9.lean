def ccT (S h : Nat) : Nat := if sz S h = 5 then nh S 5 else nx S h (f1 S h - 1)
theorem nx_00 {S : Nat} (h2 : 2 ≤ S) (h6 : S ≤ 6) : ccT S 0 = 1 := by
  have hS : S = 2 ∨ S = 3 ∨ S = 4 ∨ S = 5 ∨ S = 6 := by omega
  rcases hS with rfl | rfl | rfl | rfl | rfl <;> decide +kernel
theorem cc_fh {S D : Nat} (h2 : 2 ≤ S) (h6 : S ≤ 6) (h1 : 1 ≤ D) (hD : D ≤ 5) : ccT S (nh S (D - 1)) = nh S D := by
  have hS : S = 2 ∨ S = 3 ∨ S = 4 ∨ S = 5 ∨ S = 6 := by omega
  have hE : D = 1 ∨ D = 2 ∨ D = 3 ∨ D = 4 ∨ D = 5 := by omega
  rcases hS with rfl | rfl | rfl | rfl | rfl <;> rcases hE with rfl | rfl | rfl | rfl | rfl <;> decide +kernel
theorem cc_next {S h : Nat} (h2 : 2 ≤ S) (h6 : S ≤ 6) (hh : h < nh S 5) (hz : sz S h < 5) : nx S h (S - 1) + 1 = ccT S (h + 1) := by
  rcases (okP_at h2 h6 hh).2.2.2 with q | q
  · omega
  · exact q.2
theorem f1_ge (S h : Nat) : 1 ≤ f1 S h := Nat.le_max_left _ _
theorem f1_le {S h : Nat} (h2 : 2 ≤ S) (h6 : S ≤ 6) (hh : h < nh S 5) : f1 S h ≤ S := by
  have := (okP_at h2 h6 hh).1
  unfold f1
  omega
theorem nx_new {S h s : Nat} (h2 : 2 ≤ S) (h6 : S ≤ 6) (hh : h < nh S 5) (hz : sz S h < 5) (hs : s < S) (hf : f1 S h ≤ s + 1) : nx S h s = ccT S h + (s + 1 - f1 S h) ∧ td S (nx S h s) = td S h * 10 + (s + 1) := by
  rcases (okP_at h2 h6 hh).2.2.2 with q | q
  · omega
  · have := q.1 s hs
    rw [if_pos hf] at this
    unfold ccT
    rw [if_neg (by omega)]
    exact this
theorem nx_old {S h s : Nat} (h2 : 2 ≤ S) (h6 : S ≤ 6) (hh : h < nh S 5) (hz : sz S h < 5) (hs : s < S) (hf : ¬ f1 S h ≤ s + 1) : nx S h s < ccT S h := by
  rcases (okP_at h2 h6 hh).2.2.2 with q | q
  · omega
  · have := q.1 s hs
    rw [if_neg hf] at this
    unfold ccT
    rw [if_neg (by omega)]
    exact this
theorem cc_gt {S h : Nat} (h2 : 2 ≤ S) (h6 : S ≤ 6) (hh : h < nh S 5) (hz : sz S h < 5) : h < ccT S h := by
  unfold ccT
  rw [if_neg (by omega)]
  have := f1_le h2 h6 hh
  have := f1_ge S h
  exact (nx_ok h2 h6 (Nat.le_refl 5) hh hz (show f1 S h - 1 < S by omega)).1
/-- the cells that findHeaps writes -/
def hF (hp : AH) (fs : List Value) (c : Nat) (fsh fz ft fm fa : Nat → Int32) : AH := va_up (va_up (va_up (va_up (va_up (va_up hp 47 (ob 8 (fs.set 8 (.int (nI c))))) 51 (aI 2772 fsh)) 52 (aI 462 fz)) 53 (aI 462 ft)) 54 (aI 2772 fm)) 63 (aI 6 fa)
theorem hF_47 {hp : AH} {fs : List Value} {c c' : Nat} {fsh fz ft fm fa : Nat → Int32} : va_up (hF hp fs c fsh fz ft fm fa) 47 (ob 8 ((fs.set 8 (.int (nI c))).set 8 (.int (nI c')))) = hF hp fs c' fsh fz ft fm fa := by
  funext i
  by_cases h : i = 47 <;> simp [hF, va_up, h]
theorem hF_51 {hp : AH} {fs : List Value} {c : Nat} {fsh fz ft fm fa g : Nat → Int32} : va_up (hF hp fs c fsh fz ft fm fa) 51 (aI 2772 g) = hF hp fs c g fz ft fm fa := by
  funext i
  by_cases h : i = 51 <;> simp [hF, va_up, h]
theorem hF_52 {hp : AH} {fs : List Value} {c : Nat} {fsh fz ft fm fa g : Nat → Int32} : va_up (hF hp fs c fsh fz ft fm fa) 52 (aI 462 g) = hF hp fs c fsh g ft fm fa := by
  funext i
  by_cases h : i = 52 <;> simp [hF, va_up, h]
theorem hF_53 {hp : AH} {fs : List Value} {c : Nat} {fsh fz ft fm fa g : Nat → Int32} : va_up (hF hp fs c fsh fz ft fm fa) 53 (aI 462 g) = hF hp fs c fsh fz g fm fa := by
  funext i
  by_cases h : i = 53 <;> simp [hF, va_up, h]
theorem hF_54 {hp : AH} {fs : List Value} {c : Nat} {fsh fz ft fm fa g : Nat → Int32} : va_up (hF hp fs c fsh fz ft fm fa) 54 (aI 2772 g) = hF hp fs c fsh fz ft g fa := by
  funext i
  by_cases h : i = 54 <;> simp [hF, va_up, h]
theorem hF_63 {hp : AH} {fs : List Value} {c : Nat} {fsh fz ft fm fa g : Nat → Int32} : va_up (hF hp fs c fsh fz ft fm fa) 63 (aI 6 g) = hF hp fs c fsh fz ft fm g := by
  funext i
  by_cases h : i = 63 <;> simp [hF, va_up, h]
/-- the heaps below c are as the tables have them -/
def TB (S c : Nat) (fsh fz ft : Nat → Int32) : Prop := (∀ h k, h < c → k < 6 → fsh (6 * h + k) = nI (sh S h k)) ∧ (∀ h, h < c → fz h = nI (sz S h)) ∧ (∀ h, h < c → ft h = nI (td S h))
def TM (S D h : Nat) (fm : Nat → Int32) : Prop := ∀ g s, g < h → sz S g < D → s < S → fm (6 * g + s) = nI (nx S g s)
theorem mtB_iff {S m : Nat} {ck : Nat → Nat} {h : Nat} : mtB S m ck h 6 = true ↔ sz S h = m ∧ ∀ k, k < 6 → sh S h k = ck k := by
  unfold mtB
  rw [Bool.and_eq_true, decide_eq_true_eq]
  constructor
  · rintro ⟨a, b⟩
    exact ⟨a, fun k hk => by have := al_spec b k hk; simpa using this⟩
  · rintro ⟨a, b⟩
    exact ⟨a, al_of (fun k hk => by simpa using b k hk)⟩
theorem nI_nm1 {g : Nat} (h : g < 2 ^ 31) : ¬ nI g = -1 := fun q => by
  have := nI_pos' h
  rw [q] at this
  exact absurd this (by decide)
set_option maxHeartbeats 4000000 in
theorem c_findHeaps {hp : AH} {n D S T R : Nat} {fs : List Value} {x8 : Int32} {fsh0 fz0 ft0 fm0 fa0 : Nat → Int32} {Q : Option Value → AH → Nat → Prop} (hn : 64 ≤ n) (c47 : hp 47 = ob 8 fs) (F : MF fs D S T R) (h2 : 2 ≤ S) (h6 : S ≤ 6) (hD1 : 1 ≤ D) (hD : D ≤ 5) (f8 : fs[8]? = some (.int x8)) (c51 : hp 51 = aI 2772 fsh0) (c52 : hp 52 = aI 462 fz0) (c53 : hp 53 = aI 462 ft0) (c54 : hp 54 = aI 2772 fm0) (c63 : hp 63 = aI 6 fa0)
    (hq : ∀ fsh fz ft fm fa : Nat → Int32, TB S (nh S D) fsh fz ft → TM S D (nh S D) fm → Q none (hF hp fs (nh S D) fsh fz ft fm fa) n) : CT yX8_findHeaps cX8_findHeaps 7 none (rmD 1) [.ref 47] hp n Q := by
  have F' := F
  obtain ⟨f99, f0, f1', f2, f3, f4, f5, f6, f9, f10, f11, f12, f13, f16, f24, f25, f26, f27, f28, f29, f30⟩ := F'
  obtain ⟨hN, hN1⟩ := nh_le h2 h6 hD
  have hN5 := nh_mono h2 h6 hD (Nat.le_refl 5)
  have hNf := nh_lt h2 h6 (show D - 1 < D by omega) hD
  show G yX8_findHeaps cX8_findHeaps 7 none (rmD 1) none Q 0 0 0 [.ref 47, uu, uu, uu, uu, uu, uu] [] hp n
  refine g_aload_n (pc' := 1) dX8_findHeaps_0 rfl rfl ?_
  refine g_iconst (pc' := 2) (v := nI 1) dX8_findHeaps_1 (by decide) ?_
  refine g_put (pc' := 5) fl_X8_71 ft_8_8 dX8_findHeaps_2 (by omega) (by first | assumption | exact va_up_self _ _ _ | exact (va_up_ne _ _ (by decide)).trans (by assumption) | exact (va_up_ne _ _ (by decide)).trans (va_up_self _ _ _) | exact (va_up_ne _ _ (by decide)).trans ((va_up_ne _ _ (by decide)).trans (by assumption)) | exact (va_up_ne _ _ (by decide)).trans ((va_up_ne _ _ (by decide)).trans (va_up_self _ _ _)) | exact (va_up_ne _ _ (by decide)).trans ((va_up_ne _ _ (by decide)).trans ((va_up_ne _ _ (by decide)).trans (by assumption))) | exact (va_up_ne _ _ (by decide)).trans ((va_up_ne _ _ (by decide)).trans ((va_up_ne _ _ (by decide)).trans ((va_up_ne _ _ (by decide)).trans (by assumption)))) | exact rfl) (by first | exact Nat.le_of_ble_eq_true rfl | omega | (simp only [List.length_set]; omega)) rfl rfl ?_
  have eh : va_up hp 47 (ob 8 (fs.set 8 (.int (nI 1)))) = hF hp fs 1 fsh0 fz0 ft0 fm0 fa0 := by
    funext i
    by_cases h63 : i = 63
    · subst h63; simp [hF, va_up, c63]
    by_cases h54 : i = 54
    · subst h54; simp [hF, va_up, c54]
    by_cases h53 : i = 53
    · subst h53; simp [hF, va_up, c53]
    by_cases h52 : i = 52
    · subst h52; simp [hF, va_up, c52]
    by_cases h51 : i = 51
    · subst h51; simp [hF, va_up, c51]
    simp [hF, va_up, h63, h54, h53, h52, h51]
  rw [eh]
  have g0 : ∀ j w, j ≠ 8 → fs[j]? = some w → ∀ v, (fs.set 8 v)[j]? = some w := fun j w hj h v => by
    rw [List.getElem?_set_ne (Ne.symm hj)]; exact h
  refine g_aload_n (pc' := 6) dX8_findHeaps_5 rfl rfl ?_
  refine g_get (pc' := 9) fl_X8_32 dX8_findHeaps_6 (by omega) (by first | assumption | exact va_up_self _ _ _ | exact (va_up_ne _ _ (by decide)).trans (by assumption) | exact (va_up_ne _ _ (by decide)).trans (va_up_self _ _ _) | exact (va_up_ne _ _ (by decide)).trans ((va_up_ne _ _ (by decide)).trans (by assumption)) | exact (va_up_ne _ _ (by decide)).trans ((va_up_ne _ _ (by decide)).trans (va_up_self _ _ _)) | exact (va_up_ne _ _ (by decide)).trans ((va_up_ne _ _ (by decide)).trans ((va_up_ne _ _ (by decide)).trans (by assumption))) | exact (va_up_ne _ _ (by decide)).trans ((va_up_ne _ _ (by decide)).trans ((va_up_ne _ _ (by decide)).trans ((va_up_ne _ _ (by decide)).trans (by assumption)))) | exact rfl) (by first | assumption | rfl | exact (List.getElem?_set_ne (by decide)).trans (by assumption) | exact List.getElem?_set_self (by omega)) ?_
  refine g_iconst (pc' := 10) (v := nI 0) dX8_findHeaps_9 (by decide) ?_
  refine g_iconst (pc' := 11) (v := nI 0) dX8_findHeaps_10 (by decide) ?_
  refine g_iast (pc' := 12) dX8_findHeaps_11 (by omega) (by first | assumption | exact va_up_self _ _ _ | exact (va_up_ne _ _ (by decide)).trans (by assumption) | exact (va_up_ne _ _ (by decide)).trans (va_up_self _ _ _) | exact (va_up_ne _ _ (by decide)).trans ((va_up_ne _ _ (by decide)).trans (by assumption)) | exact (va_up_ne _ _ (by decide)).trans ((va_up_ne _ _ (by decide)).trans (va_up_self _ _ _)) | exact (va_up_ne _ _ (by decide)).trans ((va_up_ne _ _ (by decide)).trans ((va_up_ne _ _ (by decide)).trans (by assumption))) | exact (va_up_ne _ _ (by decide)).trans ((va_up_ne _ _ (by decide)).trans ((va_up_ne _ _ (by decide)).trans ((va_up_ne _ _ (by decide)).trans (by assumption)))) | exact rfl) ((IX_nI (by omega) (by omega))) ?_
  rw [hF_52]
  refine g_aload_n (pc' := 13) dX8_findHeaps_12 rfl rfl ?_
  refine g_get (pc' := 16) fl_X8_35 dX8_findHeaps_13 (by omega) (by first | assumption | exact va_up_self _ _ _ | exact (va_up_ne _ _ (by decide)).trans (by assumption) | exact (va_up_ne _ _ (by decide)).trans (va_up_self _ _ _) | exact (va_up_ne _ _ (by decide)).trans ((va_up_ne _ _ (by decide)).trans (by assumption)) | exact (va_up_ne _ _ (by decide)).trans ((va_up_ne _ _ (by decide)).trans (va_up_self _ _ _)) | exact (va_up_ne _ _ (by decide)).trans ((va_up_ne _ _ (by decide)).trans ((va_up_ne _ _ (by decide)).trans (by assumption))) | exact (va_up_ne _ _ (by decide)).trans ((va_up_ne _ _ (by decide)).trans ((va_up_ne _ _ (by decide)).trans ((va_up_ne _ _ (by decide)).trans (by assumption)))) | exact rfl) (by first | assumption | rfl | exact (List.getElem?_set_ne (by decide)).trans (by assumption) | exact List.getElem?_set_self (by omega)) ?_
  refine g_iconst (pc' := 17) (v := nI 0) dX8_findHeaps_16 (by decide) ?_
  refine g_iconst (pc' := 18) (v := nI 0) dX8_findHeaps_17 (by decide) ?_
  refine g_iast (pc' := 19) dX8_findHeaps_18 (by omega) (by first | assumption | exact va_up_self _ _ _ | exact (va_up_ne _ _ (by decide)).trans (by assumption) | exact (va_up_ne _ _ (by decide)).trans (va_up_self _ _ _) | exact (va_up_ne _ _ (by decide)).trans ((va_up_ne _ _ (by decide)).trans (by assumption)) | exact (va_up_ne _ _ (by decide)).trans ((va_up_ne _ _ (by decide)).trans (va_up_self _ _ _)) | exact (va_up_ne _ _ (by decide)).trans ((va_up_ne _ _ (by decide)).trans ((va_up_ne _ _ (by decide)).trans (by assumption))) | exact (va_up_ne _ _ (by decide)).trans ((va_up_ne _ _ (by decide)).trans ((va_up_ne _ _ (by decide)).trans ((va_up_ne _ _ (by decide)).trans (by assumption)))) | exact rfl) ((IX_nI (by omega) (by omega))) ?_
  rw [hF_53]
  generalize hfz1 : upd fz0 0 (nI 0) = fz1
  generalize hft1 : upd ft0 0 (nI 0) = ft1
  have ez : fz1 0 = nI 0 := by rw [← hfz1]; exact pk_us
  have et : ft1 0 = nI 0 := by rw [← hft1]; exact pk_us
  refine g_iconst (pc' := 20) (v := nI 0) dX8_findHeaps_19 (by decide) ?_
  refine g_istore_n (pc' := 21) dX8_findHeaps_20 rfl (by decide) ?_
  have loop1 : ∀ k i fsh, i + k = 6 → (∀ j, j < i → fsh j = nI 0) → G yX8_findHeaps cX8_findHeaps 7 none (rmD 1) none Q 0 0 21 [.ref 47, .int (nI i), uu, uu, uu, uu, uu] [] (hF hp fs 1 fsh fz1 ft1 fm0 fa0) n := by
    intro k
    induction k with
    | zero =>
      intro i fsh hi hf
      refine g_iload_n (pc' := 22) dX8_findHeaps_21 rfl rfl ?_
      refine g_bipush (pc' := 24) (v := nI 6) dX8_findHeaps_22 (by decide) ?_
      refine g_icmp_geN (tgt := 40) (pc' := 27) dX8_findHeaps_24 (by decide) (by first | omega | decide) (by first | omega | decide) (fun h1 => ?_) (fun h1 => ?_)
      · refine g_iconst (pc' := 41) (v := nI 0) dX8_findHeaps_40 (by decide) ?_
        refine g_istore_n (pc' := 42) dX8_findHeaps_41 rfl (by decide) ?_
        have outer : ∀ k h fsh fz ft fm fa, h + k = nh S D → TB S (if h ≤ nh S (D - 1) then ccT S h else nh S D) fsh fz ft → TM S D h fm → G yX8_findHeaps cX8_findHeaps 7 none (rmD 1) none Q 0 0 42 [.ref 47, .int (nI h), uu, uu, uu, uu, uu] [] (hF hp fs (if h ≤ nh S (D - 1) then ccT S h else nh S D) fsh fz ft fm fa) n := by
          intro k
          induction k with
          | zero =>
            intro h fsh fz ft fm fa hh hTB hTM
            rw [if_neg (by omega)] at hTB ⊢
            refine g_iload_n (pc' := 43) dX8_findHeaps_42 rfl rfl ?_
            refine g_aload_n (pc' := 44) dX8_findHeaps_43 rfl rfl ?_
            refine g_get (pc' := 47) fl_X8_71 dX8_findHeaps_44 (by omega) (by first | assumption | exact va_up_self _ _ _ | exact (va_up_ne _ _ (by decide)).trans (by assumption) | exact (va_up_ne _ _ (by decide)).trans (va_up_self _ _ _) | exact (va_up_ne _ _ (by decide)).trans ((va_up_ne _ _ (by decide)).trans (by assumption)) | exact (va_up_ne _ _ (by decide)).trans ((va_up_ne _ _ (by decide)).trans (va_up_self _ _ _)) | exact (va_up_ne _ _ (by decide)).trans ((va_up_ne _ _ (by decide)).trans ((va_up_ne _ _ (by decide)).trans (by assumption))) | exact (va_up_ne _ _ (by decide)).trans ((va_up_ne _ _ (by decide)).trans ((va_up_ne _ _ (by decide)).trans ((va_up_ne _ _ (by decide)).trans (by assumption)))) | exact rfl) (by first | assumption | rfl | exact (List.getElem?_set_ne (by decide)).trans (by assumption) | exact List.getElem?_set_self (by omega)) ?_
            refine g_icmp_geN (tgt := 269) (pc' := 50) dX8_findHeaps_47 (by decide) (by first | omega | decide) (by first | omega | decide) (fun h3 => ?_) (fun h3 => ?_)
            · have e : h = nh S D := by omega
              rw [e] at hTM
              exact g_vret dX8_findHeaps_269 rfl (Nat.le_refl _) (Nat.le_refl _) (hq fsh fz ft fm fa hTB hTM)
            · omega
          | succ k ih =>
            intro h fsh fz ft fm fa hh hTB hTM
            have zl := sz_of h2 h6 hD (h := h) (by omega)
            have hh5 : h < nh S 5 := by omega
            have hzi : sz S h < D ↔ h < nh S (D - 1) := by
              have := sz_iff h2 h6 (d := D - 1) (by omega) hh5
              omega
            have hfl := f1_le h2 h6 hh5
            have hfg := f1_ge S h
            by_cases hw : h < nh S (D - 1)
            · -- a row of heaps that may grow
              have hz1 : sz S h < D := hzi.mpr hw
              have hcg := cc_gt h2 h6 hh5 (by omega)
              rw [if_pos (by omega)] at hTB ⊢
              have hcs : ∀ s, s ≤ S → ccT S h + (s - (f1 S h - 1)) ≤ nh S D := fun s hs => by
                by_cases q : f1 S h ≤ s
                · obtain ⟨s', rfl⟩ : ∃ s', s = s' + 1 := ⟨s - 1, by omega⟩
                  have e := (nx_new h2 h6 hh5 (by omega) (show s' < S by omega) q).1
                  have := (nx_ok h2 h6 hD (by omega) hz1 (show s' < S by omega)).2.1
                  omega
                · have := (nx_ok h2 h6 hD (by omega) hz1 (show f1 S h - 1 < S by omega)).2.1
                  have e := (nx_new h2 h6 hh5 (by omega) (show f1 S h - 1 < S by omega) (by omega)).1
                  omega
              have hc0 := hcs 0 (by omega)
              have inner : ∀ k2 s fsh fz ft fm fa, s + k2 = S → TB S (ccT S h + (s - (f1 S h - 1))) fsh fz ft → TM S D h fm → (∀ s', s' < s → fm (6 * h + s') = nI (nx S h s')) → G yX8_findHeaps cX8_findHeaps 7 none (rmD 1) none Q 0 0 52 [.ref 47, .int (nI h), .int (nI s), uu, uu, uu, uu] [] (hF hp fs (ccT S h + (s - (f1 S h - 1))) fsh fz ft fm fa) n := by
                intro k2
                induction k2 with
                | zero =>
                  intro s fsh fz ft fm fa hs hTB hTM hrow
                  have hs' : s = S := by omega
                  subst hs'
                  refine g_iload_n (pc' := 53) dX8_findHeaps_52 rfl rfl ?_
                  refine g_aload_n (pc' := 54) dX8_findHeaps_53 rfl rfl ?_
                  refine g_get (pc' := 57) fl_X8_13 dX8_findHeaps_54 (by omega) (by first | assumption | exact va_up_self _ _ _ | exact (va_up_ne _ _ (by decide)).trans (by assumption) | exact (va_up_ne _ _ (by decide)).trans (va_up_self _ _ _) | exact (va_up_ne _ _ (by decide)).trans ((va_up_ne _ _ (by decide)).trans (by assumption)) | exact (va_up_ne _ _ (by decide)).trans ((va_up_ne _ _ (by decide)).trans (va_up_self _ _ _)) | exact (va_up_ne _ _ (by decide)).trans ((va_up_ne _ _ (by decide)).trans ((va_up_ne _ _ (by decide)).trans (by assumption))) | exact (va_up_ne _ _ (by decide)).trans ((va_up_ne _ _ (by decide)).trans ((va_up_ne _ _ (by decide)).trans ((va_up_ne _ _ (by decide)).trans (by assumption)))) | exact rfl) (by first | assumption | rfl | exact (List.getElem?_set_ne (by decide)).trans (by assumption) | exact List.getElem?_set_self (by omega)) ?_
                  refine g_icmp_geN (tgt := 263) (pc' := 60) dX8_findHeaps_57 (by decide) (by first | omega | decide) (by first | omega | decide) (fun h5 => ?_) (fun h5 => ?_)
                  · first | refine g_iincN (z := 1) (pc' := 266) dX8_findHeaps_263 rfl rfl (by decide) ?_ | refine g_iinc (pc' := 266) dX8_findHeaps_263 rfl rfl (by decide) ?_
                    refine g_goto (tgt := 42) dX8_findHeaps_266 (by decide) ?_
                    have e1 : ccT s h + (s - (f1 s h - 1)) = ccT s (h + 1) := by
                      have := cc_next h2 h6 hh5 (by omega)
                      have e := (nx_new h2 h6 hh5 (by omega) (show s - 1 < s by omega) (by omega)).1
                      omega
                    rw [e1] at hTB ⊢
                    have := ih (h + 1) fsh fz ft fm fa (by omega) (by rw [if_pos (by omega)]; exact hTB) (fun g s' hg hz hs => by
                      rcases Nat.lt_or_ge g h with q | q
                      · exact hTM g s' q hz hs
                      · have e : g = h := by omega
                        subst e
                        exact hrow s' hs)
                    rw [if_pos (by omega)] at this
                    exact g_fg (by repeat (first | exact trivial | refine ⟨Or.inr rfl, ?_⟩ | refine ⟨Or.inl rfl, ?_⟩)) this
                  · omega
                | succ k2 ih2 =>
                  intro s fsh fz ft fm fa hs hTB hTM hrow
                  have hcc := hcs s (by omega)
                  obtain ⟨n1, n2, n3, n4⟩ := nx_ok h2 h6 hD (show h < nh S D by omega) hz1 (show s < S by omega)
                  have nxt := ih2 (s + 1)
                  refine g_iload_n (pc' := 53) dX8_findHeaps_52 rfl rfl ?_
                  refine g_aload_n (pc' := 54) dX8_findHeaps_53 rfl rfl ?_
                  refine g_get (pc' := 57) fl_X8_13 dX8_findHeaps_54 (by omega) (by first | assumption | exact va_up_self _ _ _ | exact (va_up_ne _ _ (by decide)).trans (by assumption) | exact (va_up_ne _ _ (by decide)).trans (va_up_self _ _ _) | exact (va_up_ne _ _ (by decide)).trans ((va_up_ne _ _ (by decide)).trans (by assumption)) | exact (va_up_ne _ _ (by decide)).trans ((va_up_ne _ _ (by decide)).trans (va_up_self _ _ _)) | exact (va_up_ne _ _ (by decide)).trans ((va_up_ne _ _ (by decide)).trans ((va_up_ne _ _ (by decide)).trans (by assumption))) | exact (va_up_ne _ _ (by decide)).trans ((va_up_ne _ _ (by decide)).trans ((va_up_ne _ _ (by decide)).trans ((va_up_ne _ _ (by decide)).trans (by assumption)))) | exact rfl) (by first | assumption | rfl | exact (List.getElem?_set_ne (by decide)).trans (by assumption) | exact List.getElem?_set_self (by omega)) ?_
                  refine g_icmp_geN (tgt := 263) (pc' := 60) dX8_findHeaps_57 (by decide) (by first | omega | decide) (by first | omega | decide) (fun h5 => ?_) (fun h5 => ?_)
                  · omega
                  · refine g_aload_n (pc' := 61) dX8_findHeaps_60 rfl rfl ?_
                    refine g_get (pc' := 64) fl_X8_32 dX8_findHeaps_61 (by omega) (by first | assumption | exact va_up_self _ _ _ | exact (va_up_ne _ _ (by decide)).trans (by assumption) | exact (va_up_ne _ _ (by decide)).trans (va_up_self _ _ _) | exact (va_up_ne _ _ (by decide)).trans ((va_up_ne _ _ (by decide)).trans (by assumption)) | exact (va_up_ne _ _ (by decide)).trans ((va_up_ne _ _ (by decide)).trans (va_up_self _ _ _)) | exact (va_up_ne _ _ (by decide)).trans ((va_up_ne _ _ (by decide)).trans ((va_up_ne _ _ (by decide)).trans (by assumption))) | exact (va_up_ne _ _ (by decide)).trans ((va_up_ne _ _ (by decide)).trans ((va_up_ne _ _ (by decide)).trans ((va_up_ne _ _ (by decide)).trans (by assumption)))) | exact rfl) (by first | assumption | rfl | exact (List.getElem?_set_ne (by decide)).trans (by assumption) | exact List.getElem?_set_self (by omega)) ?_
                    refine g_iload_n (pc' := 65) dX8_findHeaps_64 rfl rfl ?_
                    refine g_ialdV (pc' := 66) dX8_findHeaps_65 (by omega) (by first | assumption | exact va_up_self _ _ _ | exact (va_up_ne _ _ (by decide)).trans (by assumption) | exact (va_up_ne _ _ (by decide)).trans (va_up_self _ _ _) | exact (va_up_ne _ _ (by decide)).trans ((va_up_ne _ _ (by decide)).trans (by assumption)) | exact (va_up_ne _ _ (by decide)).trans ((va_up_ne _ _ (by decide)).trans (va_up_self _ _ _)) | exact (va_up_ne _ _ (by decide)).trans ((va_up_ne _ _ (by decide)).trans ((va_up_ne _ _ (by decide)).trans (by assumption))) | exact (va_up_ne _ _ (by decide)).trans ((va_up_ne _ _ (by decide)).trans ((va_up_ne _ _ (by decide)).trans ((va_up_ne _ _ (by decide)).trans (by assumption)))) | exact rfl) ((IX_nI (by omega) (by omega))) (hTB.2.1 _ (by omega)) ?_
                    refine g_aload_n (pc' := 67) dX8_findHeaps_66 rfl rfl ?_
                    refine g_get (pc' := 70) fl_X8_7 dX8_findHeaps_67 (by omega) (by first | assumption | exact va_up_self _ _ _ | exact (va_up_ne _ _ (by decide)).trans (by assumption) | exact (va_up_ne _ _ (by decide)).trans (va_up_self _ _ _) | exact (va_up_ne _ _ (by decide)).trans ((va_up_ne _ _ (by decide)).trans (by assumption)) | exact (va_up_ne _ _ (by decide)).trans ((va_up_ne _ _ (by decide)).trans (va_up_self _ _ _)) | exact (va_up_ne _ _ (by decide)).trans ((va_up_ne _ _ (by decide)).trans ((va_up_ne _ _ (by decide)).trans (by assumption))) | exact (va_up_ne _ _ (by decide)).trans ((va_up_ne _ _ (by decide)).trans ((va_up_ne _ _ (by decide)).trans ((va_up_ne _ _ (by decide)).trans (by assumption)))) | exact rfl) (by first | assumption | rfl | exact (List.getElem?_set_ne (by decide)).trans (by assumption) | exact List.getElem?_set_self (by omega)) ?_
                    refine g_icmp_geN (tgt := 263) (pc' := 73) dX8_findHeaps_70 (by decide) (by first | omega | decide) (by first | omega | decide) (fun h7 => ?_) (fun h7 => ?_)
                    · omega
                    · refine g_iconst (pc' := 74) (v := nI 0) dX8_findHeaps_73 (by decide) ?_
                      refine g_istore_n (pc' := 75) dX8_findHeaps_74 rfl (by decide) ?_
                      have atl : ∀ k3 i fa, i + k3 = 6 → (∀ j, j < i → fa j = nI (sh S (nx S h s) j)) → G yX8_findHeaps cX8_findHeaps 7 none (rmD 1) none Q 0 0 75 [.ref 47, .int (nI h), .int (nI s), .int (nI i), uu, uu, uu] [] (hF hp fs (ccT S h + (s - (f1 S h - 1))) fsh fz ft fm fa) n := by
                        intro k3
                        induction k3 with
                        | zero =>
                          intro i fa hi hfa
                          have hi' : i = 6 := by omega
                          subst hi'
                          refine g_iload_n (pc' := 76) dX8_findHeaps_75 rfl rfl ?_
                          refine g_bipush (pc' := 78) (v := nI 6) dX8_findHeaps_76 (by decide) ?_
                          refine g_icmp_geN (tgt := 115) (pc' := 81) dX8_findHeaps_78 (by decide) (by first | omega | decide) (by first | omega | decide) (fun h8 => ?_) (fun h8 => ?_)
                          · refine g_aload_n (pc' := 116) dX8_findHeaps_115 rfl rfl ?_
                            refine g_aload_n (pc' := 117) dX8_findHeaps_116 rfl rfl ?_
                            refine g_get (pc' := 120) fl_X8_68 dX8_findHeaps_117 (by omega) (by first | assumption | exact va_up_self _ _ _ | exact (va_up_ne _ _ (by decide)).trans (by assumption) | exact (va_up_ne _ _ (by decide)).trans (va_up_self _ _ _) | exact (va_up_ne _ _ (by decide)).trans ((va_up_ne _ _ (by decide)).trans (by assumption)) | exact (va_up_ne _ _ (by decide)).trans ((va_up_ne _ _ (by decide)).trans (va_up_self _ _ _)) | exact (va_up_ne _ _ (by decide)).trans ((va_up_ne _ _ (by decide)).trans ((va_up_ne _ _ (by decide)).trans (by assumption))) | exact (va_up_ne _ _ (by decide)).trans ((va_up_ne _ _ (by decide)).trans ((va_up_ne _ _ (by decide)).trans ((va_up_ne _ _ (by decide)).trans (by assumption)))) | exact rfl) (by first | assumption | rfl | exact (List.getElem?_set_ne (by decide)).trans (by assumption) | exact List.getElem?_set_self (by omega)) ?_
                            refine g_aload_n (pc' := 121) dX8_findHeaps_120 rfl rfl ?_
                            refine g_get (pc' := 124) fl_X8_32 dX8_findHeaps_121 (by omega) (by first | assumption | exact va_up_self _ _ _ | exact (va_up_ne _ _ (by decide)).trans (by assumption) | exact (va_up_ne _ _ (by decide)).trans (va_up_self _ _ _) | exact (va_up_ne _ _ (by decide)).trans ((va_up_ne _ _ (by decide)).trans (by assumption)) | exact (va_up_ne _ _ (by decide)).trans ((va_up_ne _ _ (by decide)).trans (va_up_self _ _ _)) | exact (va_up_ne _ _ (by decide)).trans ((va_up_ne _ _ (by decide)).trans ((va_up_ne _ _ (by decide)).trans (by assumption))) | exact (va_up_ne _ _ (by decide)).trans ((va_up_ne _ _ (by decide)).trans ((va_up_ne _ _ (by decide)).trans ((va_up_ne _ _ (by decide)).trans (by assumption)))) | exact rfl) (by first | assumption | rfl | exact (List.getElem?_set_ne (by decide)).trans (by assumption) | exact List.getElem?_set_self (by omega)) ?_
                            refine g_iload_n (pc' := 125) dX8_findHeaps_124 rfl rfl ?_
                            refine g_ialdV (pc' := 126) dX8_findHeaps_125 (by omega) (by first | assumption | exact va_up_self _ _ _ | exact (va_up_ne _ _ (by decide)).trans (by assumption) | exact (va_up_ne _ _ (by decide)).trans (va_up_self _ _ _) | exact (va_up_ne _ _ (by decide)).trans ((va_up_ne _ _ (by decide)).trans (by assumption)) | exact (va_up_ne _ _ (by decide)).trans ((va_up_ne _ _ (by decide)).trans (va_up_self _ _ _)) | exact (va_up_ne _ _ (by decide)).trans ((va_up_ne _ _ (by decide)).trans ((va_up_ne _ _ (by decide)).trans (by assumption))) | exact (va_up_ne _ _ (by decide)).trans ((va_up_ne _ _ (by decide)).trans ((va_up_ne _ _ (by decide)).trans ((va_up_ne _ _ (by decide)).trans (by assumption)))) | exact rfl) ((IX_nI (by omega) (by omega))) (hTB.2.1 _ (by omega)) ?_
                            refine g_iconst (pc' := 127) (v := nI 1) dX8_findHeaps_126 (by decide) ?_
                            first | refine g_iaddN (pc' := 128) dX8_findHeaps_127 ?_ | refine g_iadd (pc' := 128) dX8_findHeaps_127 ?_
                            have fin : ∀ fsh fz ft c to, c = ccT S h + (s + 1 - (f1 S h - 1)) → to = nx S h s → TB S c fsh fz ft → G yX8_findHeaps cX8_findHeaps 7 none (rmD 1) none Q 0 0 245 [.ref 47, .int (nI h), .int (nI s), .int (nI to), uu, uu, uu] [] (hF hp fs c fsh fz ft fm fa) n := by
                              intro fsh fz ft c to hc hto hTB
                              refine g_aload_n (pc' := 246) dX8_findHeaps_245 rfl rfl ?_
                              refine g_get (pc' := 249) fl_X8_38 dX8_findHeaps_246 (by omega) (by first | assumption | exact va_up_self _ _ _ | exact (va_up_ne _ _ (by decide)).trans (by assumption) | exact (va_up_ne _ _ (by decide)).trans (va_up_self _ _ _) | exact (va_up_ne _ _ (by decide)).trans ((va_up_ne _ _ (by decide)).trans (by assumption)) | exact (va_up_ne _ _ (by decide)).trans ((va_up_ne _ _ (by decide)).trans (va_up_self _ _ _)) | exact (va_up_ne _ _ (by decide)).trans ((va_up_ne _ _ (by decide)).trans ((va_up_ne _ _ (by decide)).trans (by assumption))) | exact (va_up_ne _ _ (by decide)).trans ((va_up_ne _ _ (by decide)).trans ((va_up_ne _ _ (by decide)).trans ((va_up_ne _ _ (by decide)).trans (by assumption)))) | exact rfl) (by first | assumption | rfl | exact (List.getElem?_set_ne (by decide)).trans (by assumption) | exact List.getElem?_set_self (by omega)) ?_
                              refine g_bipush (pc' := 251) (v := nI 6) dX8_findHeaps_249 (by decide) ?_
                              refine g_iload_n (pc' := 252) dX8_findHeaps_251 rfl rfl ?_
                              first | refine g_imulN (pc' := 253) dX8_findHeaps_252 ?_ | refine g_imul (pc' := 253) dX8_findHeaps_252 ?_
                              refine g_iload_n (pc' := 254) dX8_findHeaps_253 rfl rfl ?_
                              first | refine g_iaddN (pc' := 255) dX8_findHeaps_254 ?_ | refine g_iadd (pc' := 255) dX8_findHeaps_254 ?_
                              refine g_iload_n (pc' := 256) dX8_findHeaps_255 rfl rfl ?_
                              refine g_iast (pc' := 257) dX8_findHeaps_256 (by omega) (by first | assumption | exact va_up_self _ _ _ | exact (va_up_ne _ _ (by decide)).trans (by assumption) | exact (va_up_ne _ _ (by decide)).trans (va_up_self _ _ _) | exact (va_up_ne _ _ (by decide)).trans ((va_up_ne _ _ (by decide)).trans (by assumption)) | exact (va_up_ne _ _ (by decide)).trans ((va_up_ne _ _ (by decide)).trans (va_up_self _ _ _)) | exact (va_up_ne _ _ (by decide)).trans ((va_up_ne _ _ (by decide)).trans ((va_up_ne _ _ (by decide)).trans (by assumption))) | exact (va_up_ne _ _ (by decide)).trans ((va_up_ne _ _ (by decide)).trans ((va_up_ne _ _ (by decide)).trans ((va_up_ne _ _ (by decide)).trans (by assumption)))) | exact rfl) ((IX_nI (by omega) (by omega))) ?_
                              rw [hF_54]
                              first | refine g_iincN (z := 1) (pc' := 260) dX8_findHeaps_257 rfl rfl (by decide) ?_ | refine g_iinc (pc' := 260) dX8_findHeaps_257 rfl rfl (by decide) ?_
                              refine g_goto (tgt := 52) dX8_findHeaps_260 (by decide) ?_
                              rw [hc] at hTB ⊢
                              refine g_fg (by repeat (first | exact trivial | refine ⟨Or.inr rfl, ?_⟩ | refine ⟨Or.inl rfl, ?_⟩)) (nxt fsh fz ft _ fa (by omega) hTB (fun g s' hg hz hs' => ?_) (fun s' hs' => ?_))
                              · rw [pk_un (by omega)]; exact hTM g s' hg hz hs'
                              · by_cases e : s' = s
                                · rw [e, pk_us, hto]
                                · rw [pk_un (by omega)]; exact hrow s' (by omega)
                            by_cases hf : f1 S h ≤ s + 1
                            · have enew := (nx_new h2 h6 hh5 (by omega) (show s < S by omega) hf).1
                              have ec : ccT S h + (s - (f1 S h - 1)) = nx S h s := by omega
                              rw [ec] at hTB ⊢
                              refine gc_V 131 47 [.ref 63, .int (nI (sz S h + 1))] [] cw_X8_74 im_X8_placeOf se_X8_placeOf dX8_findHeaps_128 (by decide) (by decide) (Nat.le_refl _) (Nat.le_refl _) (Nat.le_of_ble_eq_true rfl) rfl (Nat.le_of_ble_eq_true rfl) (by omega) (by first | assumption | exact va_up_self _ _ _ | exact (va_up_ne _ _ (by decide)).trans (by assumption) | exact (va_up_ne _ _ (by decide)).trans (va_up_self _ _ _) | exact (va_up_ne _ _ (by decide)).trans ((va_up_ne _ _ (by decide)).trans (by assumption)) | exact (va_up_ne _ _ (by decide)).trans ((va_up_ne _ _ (by decide)).trans (va_up_self _ _ _)) | exact (va_up_ne _ _ (by decide)).trans ((va_up_ne _ _ (by decide)).trans ((va_up_ne _ _ (by decide)).trans (by assumption))) | exact (va_up_ne _ _ (by decide)).trans ((va_up_ne _ _ (by decide)).trans ((va_up_ne _ _ (by decide)).trans ((va_up_ne _ _ (by decide)).trans (by assumption)))) | exact rfl) rfl rfl (c_placeOf (S := S) (D := D) (T := T) (R := R) (c := nx S h s) (m := sz S h + 1) (ck := sh S (nx S h s)) (res := none) (fs := fs.set 8 (.int (nI (nx S h s)))) (fsh := fsh) (fz := fz) (fa := fa) hn rfl (MF_set 8 _ F (by decide)) (List.getElem?_set_self (by omega)) (by omega) (by omega) rfl rfl rfl hTB.1 hTB.2.1 hfa (fun k hk => by have := sh_le S (nx S h s) k; omega) (fun g hg => ?_) ⟨rfl, ?_⟩)
                              · cases hx : mtB S (sz S h + 1) (sh S (nx S h s)) g 6 with
                                | false => rfl
                                | true =>
                                  have := sh_inj h2 h6 (a := g) (b := nx S h s) (by omega) (by omega) (mtB_iff.mp hx).2
                                  omega
                              · show G yX8_findHeaps cX8_findHeaps 7 none (rmD 1) none Q 0 0 131 [.ref 47, .int (nI h), .int (nI s), .int (nI 6), uu, uu, uu] [.int (-1)] (hF hp fs (nx S h s) fsh fz ft fm fa) n
                                refine g_istore_n (pc' := 132) dX8_findHeaps_131 rfl (by decide) ?_
                                refine g_iload_n (pc' := 133) dX8_findHeaps_132 rfl rfl ?_
                                refine g_iconst (pc' := 134) (v := -1) dX8_findHeaps_133 (by decide) ?_
                                refine g_icmp_ne (tgt := 245) (pc' := 137) dX8_findHeaps_134 (by decide) (fun h9 => ?_) (fun h9 => ?_)
                                · exact absurd rfl h9
                                · clear h9
                                  refine g_aload_n (pc' := 138) dX8_findHeaps_137 rfl rfl ?_
                                  refine g_get (pc' := 141) fl_X8_71 dX8_findHeaps_138 (by omega) (by first | assumption | exact va_up_self _ _ _ | exact (va_up_ne _ _ (by decide)).trans (by assumption) | exact (va_up_ne _ _ (by decide)).trans (va_up_self _ _ _) | exact (va_up_ne _ _ (by decide)).trans ((va_up_ne _ _ (by decide)).trans (by assumption)) | exact (va_up_ne _ _ (by decide)).trans ((va_up_ne _ _ (by decide)).trans (va_up_self _ _ _)) | exact (va_up_ne _ _ (by decide)).trans ((va_up_ne _ _ (by decide)).trans ((va_up_ne _ _ (by decide)).trans (by assumption))) | exact (va_up_ne _ _ (by decide)).trans ((va_up_ne _ _ (by decide)).trans ((va_up_ne _ _ (by decide)).trans ((va_up_ne _ _ (by decide)).trans (by assumption)))) | exact rfl) (by first | assumption | rfl | exact (List.getElem?_set_ne (by decide)).trans (by assumption) | exact List.getElem?_set_self (by omega)) ?_
                                  refine g_istore_n (pc' := 142) dX8_findHeaps_141 rfl (by decide) ?_
                                  refine g_aload_n (pc' := 143) dX8_findHeaps_142 rfl rfl ?_
                                  refine g_get (pc' := 146) fl_X8_32 dX8_findHeaps_143 (by omega) (by first | assumption | exact va_up_self _ _ _ | exact (va_up_ne _ _ (by decide)).trans (by assumption) | exact (va_up_ne _ _ (by decide)).trans (va_up_self _ _ _) | exact (va_up_ne _ _ (by decide)).trans ((va_up_ne _ _ (by decide)).trans (by assumption)) | exact (va_up_ne _ _ (by decide)).trans ((va_up_ne _ _ (by decide)).trans (va_up_self _ _ _)) | exact (va_up_ne _ _ (by decide)).trans ((va_up_ne _ _ (by decide)).trans ((va_up_ne _ _ (by decide)).trans (by assumption))) | exact (va_up_ne _ _ (by decide)).trans ((va_up_ne _ _ (by decide)).trans ((va_up_ne _ _ (by decide)).trans ((va_up_ne _ _ (by decide)).trans (by assumption)))) | exact rfl) (by first | assumption | rfl | exact (List.getElem?_set_ne (by decide)).trans (by assumption) | exact List.getElem?_set_self (by omega)) ?_
                                  refine g_iload_n (pc' := 147) dX8_findHeaps_146 rfl rfl ?_
                                  refine g_aload_n (pc' := 148) dX8_findHeaps_147 rfl rfl ?_
                                  refine g_get (pc' := 151) fl_X8_32 dX8_findHeaps_148 (by omega) (by first | assumption | exact va_up_self _ _ _ | exact (va_up_ne _ _ (by decide)).trans (by assumption) | exact (va_up_ne _ _ (by decide)).trans (va_up_self _ _ _) | exact (va_up_ne _ _ (by decide)).trans ((va_up_ne _ _ (by decide)).trans (by assumption)) | exact (va_up_ne _ _ (by decide)).trans ((va_up_ne _ _ (by decide)).trans (va_up_self _ _ _)) | exact (va_up_ne _ _ (by decide)).trans ((va_up_ne _ _ (by decide)).trans ((va_up_ne _ _ (by decide)).trans (by assumption))) | exact (va_up_ne _ _ (by decide)).trans ((va_up_ne _ _ (by decide)).trans ((va_up_ne _ _ (by decide)).trans ((va_up_ne _ _ (by decide)).trans (by assumption)))) | exact rfl) (by first | assumption | rfl | exact (List.getElem?_set_ne (by decide)).trans (by assumption) | exact List.getElem?_set_self (by omega)) ?_
                                  refine g_iload_n (pc' := 152) dX8_findHeaps_151 rfl rfl ?_
                                  refine g_ialdV (pc' := 153) dX8_findHeaps_152 (by omega) (by first | assumption | exact va_up_self _ _ _ | exact (va_up_ne _ _ (by decide)).trans (by assumption) | exact (va_up_ne _ _ (by decide)).trans (va_up_self _ _ _) | exact (va_up_ne _ _ (by decide)).trans ((va_up_ne _ _ (by decide)).trans (by assumption)) | exact (va_up_ne _ _ (by decide)).trans ((va_up_ne _ _ (by decide)).trans (va_up_self _ _ _)) | exact (va_up_ne _ _ (by decide)).trans ((va_up_ne _ _ (by decide)).trans ((va_up_ne _ _ (by decide)).trans (by assumption))) | exact (va_up_ne _ _ (by decide)).trans ((va_up_ne _ _ (by decide)).trans ((va_up_ne _ _ (by decide)).trans ((va_up_ne _ _ (by decide)).trans (by assumption)))) | exact rfl) ((IX_nI (by omega) (by omega))) (hTB.2.1 _ (by omega)) ?_
                                  refine g_iconst (pc' := 154) (v := nI 1) dX8_findHeaps_153 (by decide) ?_
                                  first | refine g_iaddN (pc' := 155) dX8_findHeaps_154 ?_ | refine g_iadd (pc' := 155) dX8_findHeaps_154 ?_
                                  refine g_iast (pc' := 156) dX8_findHeaps_155 (by omega) (by first | assumption | exact va_up_self _ _ _ | exact (va_up_ne _ _ (by decide)).trans (by assumption) | exact (va_up_ne _ _ (by decide)).trans (va_up_self _ _ _) | exact (va_up_ne _ _ (by decide)).trans ((va_up_ne _ _ (by decide)).trans (by assumption)) | exact (va_up_ne _ _ (by decide)).trans ((va_up_ne _ _ (by decide)).trans (va_up_self _ _ _)) | exact (va_up_ne _ _ (by decide)).trans ((va_up_ne _ _ (by decide)).trans ((va_up_ne _ _ (by decide)).trans (by assumption))) | exact (va_up_ne _ _ (by decide)).trans ((va_up_ne _ _ (by decide)).trans ((va_up_ne _ _ (by decide)).trans ((va_up_ne _ _ (by decide)).trans (by assumption)))) | exact rfl) ((IX_nI (by omega) (by omega))) ?_
                                  rw [hF_52]
                                  generalize hfz2 : upd fz (nx S h s) (nI (sz S h + 1)) = fz2
                                  have ez2 : ∀ g, g < nx S h s + 1 → fz2 g = nI (sz S g) := fun g hg => by
                                    rw [← hfz2]
                                    by_cases e : g = nx S h s
                                    · rw [e, pk_us, n3]
                                    · rw [pk_un e]; exact hTB.2.1 g (by omega)
                                  refine g_iconst (pc' := 157) (v := nI 0) dX8_findHeaps_156 (by decide) ?_
                                  refine g_istore (pc' := 159) dX8_findHeaps_157 (by decide) ?_
                                  refine g_iconst (pc' := 160) (v := nI 0) dX8_findHeaps_159 (by decide) ?_
                                  refine g_istore (pc' := 162) dX8_findHeaps_160 (by decide) ?_
                                  have shl : ∀ k4 i fsh, i + k4 = 6 → (∀ g k, g < nx S h s → k < 6 → fsh (6 * g + k) = nI (sh S g k)) → (∀ k, k < i → fsh (6 * nx S h s + k) = nI (sh S (nx S h s) k)) → G yX8_findHeaps cX8_findHeaps 7 none (rmD 1) none Q 0 0 162 [.ref 47, .int (nI h), .int (nI s), .int (nI (nx S h s)), .int (nI (tn (sh S (nx S h s)) i)), .int (nI i), uu] [] (hF hp fs (nx S h s) fsh fz2 ft fm fa) n := by
                                    intro k4
                                    induction k4 with
                                    | zero =>
                                      intro i fsh hi hlo hro
                                      have hi' : i = 6 := by omega
                                      subst hi'
                                      refine g_iload (pc' := 164) dX8_findHeaps_162 rfl ?_
                                      refine g_bipush (pc' := 166) (v := nI 6) dX8_findHeaps_164 (by decide) ?_
                                      refine g_icmp_geN (tgt := 227) (pc' := 169) dX8_findHeaps_166 (by decide) (by first | omega | decide) (by first | omega | decide) (fun h9 => ?_) (fun h9 => ?_)
                                      · refine g_aload_n (pc' := 228) dX8_findHeaps_227 rfl rfl ?_
                                        refine g_get (pc' := 231) fl_X8_35 dX8_findHeaps_228 (by omega) (by first | assumption | exact va_up_self _ _ _ | exact (va_up_ne _ _ (by decide)).trans (by assumption) | exact (va_up_ne _ _ (by decide)).trans (va_up_self _ _ _) | exact (va_up_ne _ _ (by decide)).trans ((va_up_ne _ _ (by decide)).trans (by assumption)) | exact (va_up_ne _ _ (by decide)).trans ((va_up_ne _ _ (by decide)).trans (va_up_self _ _ _)) | exact (va_up_ne _ _ (by decide)).trans ((va_up_ne _ _ (by decide)).trans ((va_up_ne _ _ (by decide)).trans (by assumption))) | exact (va_up_ne _ _ (by decide)).trans ((va_up_ne _ _ (by decide)).trans ((va_up_ne _ _ (by decide)).trans ((va_up_ne _ _ (by decide)).trans (by assumption)))) | exact rfl) (by first | assumption | rfl | exact (List.getElem?_set_ne (by decide)).trans (by assumption) | exact List.getElem?_set_self (by omega)) ?_
                                        refine g_iload_n (pc' := 232) dX8_findHeaps_231 rfl rfl ?_
                                        refine g_iload (pc' := 234) dX8_findHeaps_232 rfl ?_
                                        refine g_iast (pc' := 235) dX8_findHeaps_234 (by omega) (by first | assumption | exact va_up_self _ _ _ | exact (va_up_ne _ _ (by decide)).trans (by assumption) | exact (va_up_ne _ _ (by decide)).trans (va_up_self _ _ _) | exact (va_up_ne _ _ (by decide)).trans ((va_up_ne _ _ (by decide)).trans (by assumption)) | exact (va_up_ne _ _ (by decide)).trans ((va_up_ne _ _ (by decide)).trans (va_up_self _ _ _)) | exact (va_up_ne _ _ (by decide)).trans ((va_up_ne _ _ (by decide)).trans ((va_up_ne _ _ (by decide)).trans (by assumption))) | exact (va_up_ne _ _ (by decide)).trans ((va_up_ne _ _ (by decide)).trans ((va_up_ne _ _ (by decide)).trans ((va_up_ne _ _ (by decide)).trans (by assumption)))) | exact rfl) ((IX_nI (by omega) (by omega))) ?_
                                        rw [hF_53, (okS_at h2 h6 (h := nx S h s) (by omega)).2.1]
                                        refine g_aload_n (pc' := 236) dX8_findHeaps_235 rfl rfl ?_
                                        refine g_dup (pc' := 237) dX8_findHeaps_236 rfl ?_
                                        refine g_get (pc' := 240) fl_X8_71 dX8_findHeaps_237 (by omega) (by first | assumption | exact va_up_self _ _ _ | exact (va_up_ne _ _ (by decide)).trans (by assumption) | exact (va_up_ne _ _ (by decide)).trans (va_up_self _ _ _) | exact (va_up_ne _ _ (by decide)).trans ((va_up_ne _ _ (by decide)).trans (by assumption)) | exact (va_up_ne _ _ (by decide)).trans ((va_up_ne _ _ (by decide)).trans (va_up_self _ _ _)) | exact (va_up_ne _ _ (by decide)).trans ((va_up_ne _ _ (by decide)).trans ((va_up_ne _ _ (by decide)).trans (by assumption))) | exact (va_up_ne _ _ (by decide)).trans ((va_up_ne _ _ (by decide)).trans ((va_up_ne _ _ (by decide)).trans ((va_up_ne _ _ (by decide)).trans (by assumption)))) | exact rfl) (by first | assumption | rfl | exact (List.getElem?_set_ne (by decide)).trans (by assumption) | exact List.getElem?_set_self (by omega)) ?_
                                        refine g_iconst (pc' := 241) (v := nI 1) dX8_findHeaps_240 (by decide) ?_
                                        first | refine g_iaddN (pc' := 242) dX8_findHeaps_241 ?_ | refine g_iadd (pc' := 242) dX8_findHeaps_241 ?_
                                        refine g_put (pc' := 245) fl_X8_71 ft_8_8 dX8_findHeaps_242 (by omega) (by first | assumption | exact va_up_self _ _ _ | exact (va_up_ne _ _ (by decide)).trans (by assumption) | exact (va_up_ne _ _ (by decide)).trans (va_up_self _ _ _) | exact (va_up_ne _ _ (by decide)).trans ((va_up_ne _ _ (by decide)).trans (by assumption)) | exact (va_up_ne _ _ (by decide)).trans ((va_up_ne _ _ (by decide)).trans (va_up_self _ _ _)) | exact (va_up_ne _ _ (by decide)).trans ((va_up_ne _ _ (by decide)).trans ((va_up_ne _ _ (by decide)).trans (by assumption))) | exact (va_up_ne _ _ (by decide)).trans ((va_up_ne _ _ (by decide)).trans ((va_up_ne _ _ (by decide)).trans ((va_up_ne _ _ (by decide)).trans (by assumption)))) | exact rfl) (by first | exact Nat.le_of_ble_eq_true rfl | omega | (simp only [List.length_set]; omega)) rfl rfl ?_
                                        rw [hF_47]
                                        refine g_fg (by repeat (first | exact trivial | refine ⟨Or.inr rfl, ?_⟩ | refine ⟨Or.inl rfl, ?_⟩)) (fin fsh fz2 _ (nx S h s + 1) (nx S h s) (by omega) rfl ⟨fun g k hg hk => ?_, ez2, fun g hg => ?_⟩)
                                        · rcases Nat.lt_or_ge g (nx S h s) with q | q
                                          · exact hlo g k q hk
                                          · have e : g = nx S h s := by omega
                                            rw [e]; exact hro k hk
                                        · by_cases e : g = nx S h s
                                          · rw [e, pk_us]
                                          · rw [pk_un e]; exact hTB.2.2 g (by omega)
                                      · omega
                                    | succ k4 ih4 =>
                                      intro i fsh hi hlo hro
                                      have shb := sh_le S (nx S h s) i
                                      refine g_iload (pc' := 164) dX8_findHeaps_162 rfl ?_
                                      refine g_bipush (pc' := 166) (v := nI 6) dX8_findHeaps_164 (by decide) ?_
                                      refine g_icmp_geN (tgt := 227) (pc' := 169) dX8_findHeaps_166 (by decide) (by first | omega | decide) (by first | omega | decide) (fun h9 => ?_) (fun h9 => ?_)
                                      · omega
                                      · refine g_aload_n (pc' := 170) dX8_findHeaps_169 rfl rfl ?_
                                        refine g_get (pc' := 173) fl_X8_29 dX8_findHeaps_170 (by omega) (by first | assumption | exact va_up_self _ _ _ | exact (va_up_ne _ _ (by decide)).trans (by assumption) | exact (va_up_ne _ _ (by decide)).trans (va_up_self _ _ _) | exact (va_up_ne _ _ (by decide)).trans ((va_up_ne _ _ (by decide)).trans (by assumption)) | exact (va_up_ne _ _ (by decide)).trans ((va_up_ne _ _ (by decide)).trans (va_up_self _ _ _)) | exact (va_up_ne _ _ (by decide)).trans ((va_up_ne _ _ (by decide)).trans ((va_up_ne _ _ (by decide)).trans (by assumption))) | exact (va_up_ne _ _ (by decide)).trans ((va_up_ne _ _ (by decide)).trans ((va_up_ne _ _ (by decide)).trans ((va_up_ne _ _ (by decide)).trans (by assumption)))) | exact rfl) (by first | assumption | rfl | exact (List.getElem?_set_ne (by decide)).trans (by assumption) | exact List.getElem?_set_self (by omega)) ?_
                                        refine g_bipush (pc' := 175) (v := nI 6) dX8_findHeaps_173 (by decide) ?_
                                        refine g_iload_n (pc' := 176) dX8_findHeaps_175 rfl rfl ?_
                                        first | refine g_imulN (pc' := 177) dX8_findHeaps_176 ?_ | refine g_imul (pc' := 177) dX8_findHeaps_176 ?_
                                        refine g_iload (pc' := 179) dX8_findHeaps_177 rfl ?_
                                        first | refine g_iaddN (pc' := 180) dX8_findHeaps_179 ?_ | refine g_iadd (pc' := 180) dX8_findHeaps_179 ?_
                                        refine g_aload_n (pc' := 181) dX8_findHeaps_180 rfl rfl ?_
                                        refine g_get (pc' := 184) fl_X8_68 dX8_findHeaps_181 (by omega) (by first | assumption | exact va_up_self _ _ _ | exact (va_up_ne _ _ (by decide)).trans (by assumption) | exact (va_up_ne _ _ (by decide)).trans (va_up_self _ _ _) | exact (va_up_ne _ _ (by decide)).trans ((va_up_ne _ _ (by decide)).trans (by assumption)) | exact (va_up_ne _ _ (by decide)).trans ((va_up_ne _ _ (by decide)).trans (va_up_self _ _ _)) | exact (va_up_ne _ _ (by decide)).trans ((va_up_ne _ _ (by decide)).trans ((va_up_ne _ _ (by decide)).trans (by assumption))) | exact (va_up_ne _ _ (by decide)).trans ((va_up_ne _ _ (by decide)).trans ((va_up_ne _ _ (by decide)).trans ((va_up_ne _ _ (by decide)).trans (by assumption)))) | exact rfl) (by first | assumption | rfl | exact (List.getElem?_set_ne (by decide)).trans (by assumption) | exact List.getElem?_set_self (by omega)) ?_
                                        refine g_iload (pc' := 186) dX8_findHeaps_184 rfl ?_
                                        refine g_ialdV (pc' := 187) dX8_findHeaps_186 (by omega) (by first | assumption | exact va_up_self _ _ _ | exact (va_up_ne _ _ (by decide)).trans (by assumption) | exact (va_up_ne _ _ (by decide)).trans (va_up_self _ _ _) | exact (va_up_ne _ _ (by decide)).trans ((va_up_ne _ _ (by decide)).trans (by assumption)) | exact (va_up_ne _ _ (by decide)).trans ((va_up_ne _ _ (by decide)).trans (va_up_self _ _ _)) | exact (va_up_ne _ _ (by decide)).trans ((va_up_ne _ _ (by decide)).trans ((va_up_ne _ _ (by decide)).trans (by assumption))) | exact (va_up_ne _ _ (by decide)).trans ((va_up_ne _ _ (by decide)).trans ((va_up_ne _ _ (by decide)).trans ((va_up_ne _ _ (by decide)).trans (by assumption)))) | exact rfl) ((IX_nI (by omega) (by omega))) (hfa _ (by omega)) ?_
                                        refine g_iast (pc' := 188) dX8_findHeaps_187 (by omega) (by first | assumption | exact va_up_self _ _ _ | exact (va_up_ne _ _ (by decide)).trans (by assumption) | exact (va_up_ne _ _ (by decide)).trans (va_up_self _ _ _) | exact (va_up_ne _ _ (by decide)).trans ((va_up_ne _ _ (by decide)).trans (by assumption)) | exact (va_up_ne _ _ (by decide)).trans ((va_up_ne _ _ (by decide)).trans (va_up_self _ _ _)) | exact (va_up_ne _ _ (by decide)).trans ((va_up_ne _ _ (by decide)).trans ((va_up_ne _ _ (by decide)).trans (by assumption))) | exact (va_up_ne _ _ (by decide)).trans ((va_up_ne _ _ (by decide)).trans ((va_up_ne _ _ (by decide)).trans ((va_up_ne _ _ (by decide)).trans (by assumption)))) | exact rfl) ((IX_nI (by omega) (by omega))) ?_
                                        rw [hF_51]
                                        refine g_iconst (pc' := 189) (v := nI 0) dX8_findHeaps_188 (by decide) ?_
                                        refine g_istore (pc' := 191) dX8_findHeaps_189 (by decide) ?_
                                        have ap1 : ∀ k5 j v fsh, j + k5 = sh S (nx S h s) i → ap (i + 1) k5 v = tn (sh S (nx S h s)) (i + 1) → (∀ g k, g < nx S h s → k < 6 → fsh (6 * g + k) = nI (sh S g k)) → (∀ k, k < i + 1 → fsh (6 * nx S h s + k) = nI (sh S (nx S h s) k)) → G yX8_findHeaps cX8_findHeaps 7 none (rmD 1) none Q 0 0 191 [.ref 47, .int (nI h), .int (nI s), .int (nI (nx S h s)), .int (nI v), .int (nI i), .int (nI j)] [] (hF hp fs (nx S h s) fsh fz2 ft fm fa) n := by
                                          intro k5
                                          induction k5 with
                                          | zero =>
                                            intro j v fsh hj hv hlo hro
                                            refine g_iload (pc' := 193) dX8_findHeaps_191 rfl ?_
                                            refine g_aload_n (pc' := 194) dX8_findHeaps_193 rfl rfl ?_
                                            refine g_get (pc' := 197) fl_X8_68 dX8_findHeaps_194 (by omega) (by first | assumption | exact va_up_self _ _ _ | exact (va_up_ne _ _ (by decide)).trans (by assumption) | exact (va_up_ne _ _ (by decide)).trans (va_up_self _ _ _) | exact (va_up_ne _ _ (by decide)).trans ((va_up_ne _ _ (by decide)).trans (by assumption)) | exact (va_up_ne _ _ (by decide)).trans ((va_up_ne _ _ (by decide)).trans (va_up_self _ _ _)) | exact (va_up_ne _ _ (by decide)).trans ((va_up_ne _ _ (by decide)).trans ((va_up_ne _ _ (by decide)).trans (by assumption))) | exact (va_up_ne _ _ (by decide)).trans ((va_up_ne _ _ (by decide)).trans ((va_up_ne _ _ (by decide)).trans ((va_up_ne _ _ (by decide)).trans (by assumption)))) | exact rfl) (by first | assumption | rfl | exact (List.getElem?_set_ne (by decide)).trans (by assumption) | exact List.getElem?_set_self (by omega)) ?_
                                            refine g_iload (pc' := 199) dX8_findHeaps_197 rfl ?_
                                            refine g_ialdV (pc' := 200) dX8_findHeaps_199 (by omega) (by first | assumption | exact va_up_self _ _ _ | exact (va_up_ne _ _ (by decide)).trans (by assumption) | exact (va_up_ne _ _ (by decide)).trans (va_up_self _ _ _) | exact (va_up_ne _ _ (by decide)).trans ((va_up_ne _ _ (by decide)).trans (by assumption)) | exact (va_up_ne _ _ (by decide)).trans ((va_up_ne _ _ (by decide)).trans (va_up_self _ _ _)) | exact (va_up_ne _ _ (by decide)).trans ((va_up_ne _ _ (by decide)).trans ((va_up_ne _ _ (by decide)).trans (by assumption))) | exact (va_up_ne _ _ (by decide)).trans ((va_up_ne _ _ (by decide)).trans ((va_up_ne _ _ (by decide)).trans ((va_up_ne _ _ (by decide)).trans (by assumption)))) | exact rfl) ((IX_nI (by omega) (by omega))) (hfa _ (by omega)) ?_
                                            refine g_icmp_geN (tgt := 221) (pc' := 203) dX8_findHeaps_200 (by decide) (by first | omega | decide) (by first | omega | decide) (fun h10 => ?_) (fun h10 => ?_)
                                            · first | refine g_iincN (z := 1) (pc' := 224) dX8_findHeaps_221 rfl rfl (by decide) ?_ | refine g_iinc (pc' := 224) dX8_findHeaps_221 rfl rfl (by decide) ?_
                                              refine g_goto (tgt := 162) dX8_findHeaps_224 (by decide) ?_
                                              have hv' : v = tn (sh S (nx S h s)) (i + 1) := hv
                                              rw [hv']
                                              exact g_fg (by repeat (first | exact trivial | refine ⟨Or.inr rfl, ?_⟩ | refine ⟨Or.inl rfl, ?_⟩)) (ih4 (i + 1) fsh (by omega) hlo hro)
                                            · omega
                                          | succ k5 ih5 =>
                                            intro j v fsh hj hv hlo hro
                                            refine g_iload (pc' := 193) dX8_findHeaps_191 rfl ?_
                                            refine g_aload_n (pc' := 194) dX8_findHeaps_193 rfl rfl ?_
                                            refine g_get (pc' := 197) fl_X8_68 dX8_findHeaps_194 (by omega) (by first | assumption | exact va_up_self _ _ _ | exact (va_up_ne _ _ (by decide)).trans (by assumption) | exact (va_up_ne _ _ (by decide)).trans (va_up_self _ _ _) | exact (va_up_ne _ _ (by decide)).trans ((va_up_ne _ _ (by decide)).trans (by assumption)) | exact (va_up_ne _ _ (by decide)).trans ((va_up_ne _ _ (by decide)).trans (va_up_self _ _ _)) | exact (va_up_ne _ _ (by decide)).trans ((va_up_ne _ _ (by decide)).trans ((va_up_ne _ _ (by decide)).trans (by assumption))) | exact (va_up_ne _ _ (by decide)).trans ((va_up_ne _ _ (by decide)).trans ((va_up_ne _ _ (by decide)).trans ((va_up_ne _ _ (by decide)).trans (by assumption)))) | exact rfl) (by first | assumption | rfl | exact (List.getElem?_set_ne (by decide)).trans (by assumption) | exact List.getElem?_set_self (by omega)) ?_
                                            refine g_iload (pc' := 199) dX8_findHeaps_197 rfl ?_
                                            refine g_ialdV (pc' := 200) dX8_findHeaps_199 (by omega) (by first | assumption | exact va_up_self _ _ _ | exact (va_up_ne _ _ (by decide)).trans (by assumption) | exact (va_up_ne _ _ (by decide)).trans (va_up_self _ _ _) | exact (va_up_ne _ _ (by decide)).trans ((va_up_ne _ _ (by decide)).trans (by assumption)) | exact (va_up_ne _ _ (by decide)).trans ((va_up_ne _ _ (by decide)).trans (va_up_self _ _ _)) | exact (va_up_ne _ _ (by decide)).trans ((va_up_ne _ _ (by decide)).trans ((va_up_ne _ _ (by decide)).trans (by assumption))) | exact (va_up_ne _ _ (by decide)).trans ((va_up_ne _ _ (by decide)).trans ((va_up_ne _ _ (by decide)).trans ((va_up_ne _ _ (by decide)).trans (by assumption)))) | exact rfl) ((IX_nI (by omega) (by omega))) (hfa _ (by omega)) ?_
                                            refine g_icmp_geN (tgt := 221) (pc' := 203) dX8_findHeaps_200 (by decide) (by first | omega | decide) (by first | omega | decide) (fun h10 => ?_) (fun h10 => ?_)
                                            · omega
                                            · refine g_bipush (pc' := 205) (v := nI 10) dX8_findHeaps_203 (by decide) ?_
                                              refine g_iload (pc' := 207) dX8_findHeaps_205 rfl ?_
                                              first | refine g_imulN (pc' := 208) dX8_findHeaps_207 ?_ | refine g_imul (pc' := 208) dX8_findHeaps_207 ?_
                                              refine g_iload (pc' := 210) dX8_findHeaps_208 rfl ?_
                                              first | refine g_iaddN (pc' := 211) dX8_findHeaps_210 ?_ | refine g_iadd (pc' := 211) dX8_findHeaps_210 ?_
                                              refine g_iconst (pc' := 212) (v := nI 1) dX8_findHeaps_211 (by decide) ?_
                                              first | refine g_iaddN (pc' := 213) dX8_findHeaps_212 ?_ | refine g_iadd (pc' := 213) dX8_findHeaps_212 ?_
                                              refine g_istore (pc' := 215) dX8_findHeaps_213 (by decide) ?_
                                              first | refine g_iincN (z := 1) (pc' := 218) dX8_findHeaps_215 rfl rfl (by decide) ?_ | refine g_iinc (pc' := 218) dX8_findHeaps_215 rfl rfl (by decide) ?_
                                              refine g_goto (tgt := 191) dX8_findHeaps_218 (by decide) ?_
                                              exact ih5 (j + 1) (10 * v + i + 1) fsh (by omega) hv hlo hro
                                        refine ap1 (sh S (nx S h s) i) 0 _ _ (by omega) rfl (fun g k hg hk => ?_) (fun k hk => ?_)
                                        · rw [pk_un (by omega)]; exact hlo g k hg hk
                                        · by_cases e : k = i
                                          · rw [e, pk_us]
                                          · rw [pk_un (by omega)]; exact hro k (by omega)
                                  exact shl 6 0 fsh (by omega) hTB.1 (fun k hk => absurd hk (Nat.not_lt_zero k))
                            · have eold := nx_old h2 h6 hh5 (by omega) (show s < S by omega) hf
                              refine gc_V 131 47 [.ref 63, .int (nI (sz S h + 1))] [] cw_X8_74 im_X8_placeOf se_X8_placeOf dX8_findHeaps_128 (by decide) (by decide) (Nat.le_refl _) (Nat.le_refl _) (Nat.le_of_ble_eq_true rfl) rfl (Nat.le_of_ble_eq_true rfl) (by omega) (by first | assumption | exact va_up_self _ _ _ | exact (va_up_ne _ _ (by decide)).trans (by assumption) | exact (va_up_ne _ _ (by decide)).trans (va_up_self _ _ _) | exact (va_up_ne _ _ (by decide)).trans ((va_up_ne _ _ (by decide)).trans (by assumption)) | exact (va_up_ne _ _ (by decide)).trans ((va_up_ne _ _ (by decide)).trans (va_up_self _ _ _)) | exact (va_up_ne _ _ (by decide)).trans ((va_up_ne _ _ (by decide)).trans ((va_up_ne _ _ (by decide)).trans (by assumption))) | exact (va_up_ne _ _ (by decide)).trans ((va_up_ne _ _ (by decide)).trans ((va_up_ne _ _ (by decide)).trans ((va_up_ne _ _ (by decide)).trans (by assumption)))) | exact rfl) rfl rfl (c_placeOf (S := S) (D := D) (T := T) (R := R) (c := ccT S h + (s - (f1 S h - 1))) (m := sz S h + 1) (ck := sh S (nx S h s)) (res := some (nx S h s)) (fs := fs.set 8 (.int (nI (ccT S h + (s - (f1 S h - 1)))))) (fsh := fsh) (fz := fz) (fa := fa) hn rfl (MF_set 8 _ F (by decide)) (List.getElem?_set_self (by omega)) (by omega) (by omega) rfl rfl rfl hTB.1 hTB.2.1 hfa (fun k hk => by have := sh_le S (nx S h s) k; omega) ⟨by omega, mtB_iff.mpr ⟨n3, fun _ _ => rfl⟩, fun g hg => ?_⟩ ⟨rfl, ?_⟩)
                              · cases hx : mtB S (sz S h + 1) (sh S (nx S h s)) g 6 with
                                | false => rfl
                                | true =>
                                  have := sh_inj h2 h6 (a := g) (b := nx S h s) (by omega) (by omega) (mtB_iff.mp hx).2
                                  omega
                              · show G yX8_findHeaps cX8_findHeaps 7 none (rmD 1) none Q 0 0 131 [.ref 47, .int (nI h), .int (nI s), .int (nI 6), uu, uu, uu] [.int (nI (nx S h s))] (hF hp fs (ccT S h + (s - (f1 S h - 1))) fsh fz ft fm fa) n
                                refine g_istore_n (pc' := 132) dX8_findHeaps_131 rfl (by decide) ?_
                                refine g_iload_n (pc' := 133) dX8_findHeaps_132 rfl rfl ?_
                                refine g_iconst (pc' := 134) (v := -1) dX8_findHeaps_133 (by decide) ?_
                                refine g_icmp_ne (tgt := 245) (pc' := 137) dX8_findHeaps_134 (by decide) (fun h9 => ?_) (fun h9 => ?_)
                                · exact fin fsh fz ft _ _ (by omega) rfl hTB
                                · exact absurd h9 (nI_nm1 (by omega))
                          · omega
                        | succ k3 ih3 =>
                          intro i fa hi hfa
                          have s1 := sh_le S h i
                          have nx3 := ih3 (i + 1)
                          refine g_iload_n (pc' := 76) dX8_findHeaps_75 rfl rfl ?_
                          refine g_bipush (pc' := 78) (v := nI 6) dX8_findHeaps_76 (by decide) ?_
                          refine g_icmp_geN (tgt := 115) (pc' := 81) dX8_findHeaps_78 (by decide) (by first | omega | decide) (by first | omega | decide) (fun h8 => ?_) (fun h8 => ?_)
                          · omega
                          · refine g_aload_n (pc' := 82) dX8_findHeaps_81 rfl rfl ?_
                            refine g_get (pc' := 85) fl_X8_68 dX8_findHeaps_82 (by omega) (by first | assumption | exact va_up_self _ _ _ | exact (va_up_ne _ _ (by decide)).trans (by assumption) | exact (va_up_ne _ _ (by decide)).trans (va_up_self _ _ _) | exact (va_up_ne _ _ (by decide)).trans ((va_up_ne _ _ (by decide)).trans (by assumption)) | exact (va_up_ne _ _ (by decide)).trans ((va_up_ne _ _ (by decide)).trans (va_up_self _ _ _)) | exact (va_up_ne _ _ (by decide)).trans ((va_up_ne _ _ (by decide)).trans ((va_up_ne _ _ (by decide)).trans (by assumption))) | exact (va_up_ne _ _ (by decide)).trans ((va_up_ne _ _ (by decide)).trans ((va_up_ne _ _ (by decide)).trans ((va_up_ne _ _ (by decide)).trans (by assumption)))) | exact rfl) (by first | assumption | rfl | exact (List.getElem?_set_ne (by decide)).trans (by assumption) | exact List.getElem?_set_self (by omega)) ?_
                            refine g_iload_n (pc' := 86) dX8_findHeaps_85 rfl rfl ?_
                            refine g_aload_n (pc' := 87) dX8_findHeaps_86 rfl rfl ?_
                            refine g_get (pc' := 90) fl_X8_29 dX8_findHeaps_87 (by omega) (by first | assumption | exact va_up_self _ _ _ | exact (va_up_ne _ _ (by decide)).trans (by assumption) | exact (va_up_ne _ _ (by decide)).trans (va_up_self _ _ _) | exact (va_up_ne _ _ (by decide)).trans ((va_up_ne _ _ (by decide)).trans (by assumption)) | exact (va_up_ne _ _ (by decide)).trans ((va_up_ne _ _ (by decide)).trans (va_up_self _ _ _)) | exact (va_up_ne _ _ (by decide)).trans ((va_up_ne _ _ (by decide)).trans ((va_up_ne _ _ (by decide)).trans (by assumption))) | exact (va_up_ne _ _ (by decide)).trans ((va_up_ne _ _ (by decide)).trans ((va_up_ne _ _ (by decide)).trans ((va_up_ne _ _ (by decide)).trans (by assumption)))) | exact rfl) (by first | assumption | rfl | exact (List.getElem?_set_ne (by decide)).trans (by assumption) | exact List.getElem?_set_self (by omega)) ?_
                            refine g_bipush (pc' := 92) (v := nI 6) dX8_findHeaps_90 (by decide) ?_
                            refine g_iload_n (pc' := 93) dX8_findHeaps_92 rfl rfl ?_
                            first | refine g_imulN (pc' := 94) dX8_findHeaps_93 ?_ | refine g_imul (pc' := 94) dX8_findHeaps_93 ?_
                            refine g_iload_n (pc' := 95) dX8_findHeaps_94 rfl rfl ?_
                            first | refine g_iaddN (pc' := 96) dX8_findHeaps_95 ?_ | refine g_iadd (pc' := 96) dX8_findHeaps_95 ?_
                            refine g_ialdV (pc' := 97) dX8_findHeaps_96 (by omega) (by first | assumption | exact va_up_self _ _ _ | exact (va_up_ne _ _ (by decide)).trans (by assumption) | exact (va_up_ne _ _ (by decide)).trans (va_up_self _ _ _) | exact (va_up_ne _ _ (by decide)).trans ((va_up_ne _ _ (by decide)).trans (by assumption)) | exact (va_up_ne _ _ (by decide)).trans ((va_up_ne _ _ (by decide)).trans (va_up_self _ _ _)) | exact (va_up_ne _ _ (by decide)).trans ((va_up_ne _ _ (by decide)).trans ((va_up_ne _ _ (by decide)).trans (by assumption))) | exact (va_up_ne _ _ (by decide)).trans ((va_up_ne _ _ (by decide)).trans ((va_up_ne _ _ (by decide)).trans ((va_up_ne _ _ (by decide)).trans (by assumption)))) | exact rfl) ((IX_nI (by omega) (by omega))) (hTB.1 _ _ (by omega) (by omega)) ?_
                            refine g_iload_n (pc' := 98) dX8_findHeaps_97 rfl rfl ?_
                            refine g_iload_n (pc' := 99) dX8_findHeaps_98 rfl rfl ?_
                            refine g_icmp_neN (tgt := 106) (pc' := 102) dX8_findHeaps_99 (by decide) (by first | omega | decide) (by first | omega | decide) (fun h9 => ?_) (fun h9 => ?_)
                            · refine g_iconst (pc' := 107) (v := nI 0) dX8_findHeaps_106 (by decide) ?_
                              first | refine g_iaddN (pc' := 108) dX8_findHeaps_107 ?_ | refine g_iadd (pc' := 108) dX8_findHeaps_107 ?_
                              refine g_iast (pc' := 109) dX8_findHeaps_108 (by omega) (by first | assumption | exact va_up_self _ _ _ | exact (va_up_ne _ _ (by decide)).trans (by assumption) | exact (va_up_ne _ _ (by decide)).trans (va_up_self _ _ _) | exact (va_up_ne _ _ (by decide)).trans ((va_up_ne _ _ (by decide)).trans (by assumption)) | exact (va_up_ne _ _ (by decide)).trans ((va_up_ne _ _ (by decide)).trans (va_up_self _ _ _)) | exact (va_up_ne _ _ (by decide)).trans ((va_up_ne _ _ (by decide)).trans ((va_up_ne _ _ (by decide)).trans (by assumption))) | exact (va_up_ne _ _ (by decide)).trans ((va_up_ne _ _ (by decide)).trans ((va_up_ne _ _ (by decide)).trans ((va_up_ne _ _ (by decide)).trans (by assumption)))) | exact rfl) ((IX_nI (by omega) (by omega))) ?_
                              rw [hF_63]
                              first | refine g_iincN (z := 1) (pc' := 112) dX8_findHeaps_109 rfl rfl (by decide) ?_ | refine g_iinc (pc' := 112) dX8_findHeaps_109 rfl rfl (by decide) ?_
                              refine g_goto (tgt := 75) dX8_findHeaps_112 (by decide) ?_
                              refine nx3 _ (by omega) (fun j hj => ?_)
                              by_cases e : j = i
                              · rw [e, pk_us, n4 i (by omega), if_neg h9]
                              · rw [pk_un e]; exact hfa j (by omega)
                            · refine g_iconst (pc' := 103) (v := nI 1) dX8_findHeaps_102 (by decide) ?_
                              refine g_goto (tgt := 107) dX8_findHeaps_103 (by decide) ?_
                              first | refine g_iaddN (pc' := 108) dX8_findHeaps_107 ?_ | refine g_iadd (pc' := 108) dX8_findHeaps_107 ?_
                              refine g_iast (pc' := 109) dX8_findHeaps_108 (by omega) (by first | assumption | exact va_up_self _ _ _ | exact (va_up_ne _ _ (by decide)).trans (by assumption) | exact (va_up_ne _ _ (by decide)).trans (va_up_self _ _ _) | exact (va_up_ne _ _ (by decide)).trans ((va_up_ne _ _ (by decide)).trans (by assumption)) | exact (va_up_ne _ _ (by decide)).trans ((va_up_ne _ _ (by decide)).trans (va_up_self _ _ _)) | exact (va_up_ne _ _ (by decide)).trans ((va_up_ne _ _ (by decide)).trans ((va_up_ne _ _ (by decide)).trans (by assumption))) | exact (va_up_ne _ _ (by decide)).trans ((va_up_ne _ _ (by decide)).trans ((va_up_ne _ _ (by decide)).trans ((va_up_ne _ _ (by decide)).trans (by assumption)))) | exact rfl) ((IX_nI (by omega) (by omega))) ?_
                              rw [hF_63]
                              first | refine g_iincN (z := 1) (pc' := 112) dX8_findHeaps_109 rfl rfl (by decide) ?_ | refine g_iinc (pc' := 112) dX8_findHeaps_109 rfl rfl (by decide) ?_
                              refine g_goto (tgt := 75) dX8_findHeaps_112 (by decide) ?_
                              refine nx3 _ (by omega) (fun j hj => ?_)
                              by_cases e : j = i
                              · rw [e, pk_us, n4 i (by omega), if_pos h9]
                              · rw [pk_un e]; exact hfa j (by omega)
                      exact atl 6 0 fa (by omega) (fun j hj => absurd hj (Nat.not_lt_zero j))
              refine g_iload_n (pc' := 43) dX8_findHeaps_42 rfl rfl ?_
              refine g_aload_n (pc' := 44) dX8_findHeaps_43 rfl rfl ?_
              refine g_get (pc' := 47) fl_X8_71 dX8_findHeaps_44 (by omega) (by first | assumption | exact va_up_self _ _ _ | exact (va_up_ne _ _ (by decide)).trans (by assumption) | exact (va_up_ne _ _ (by decide)).trans (va_up_self _ _ _) | exact (va_up_ne _ _ (by decide)).trans ((va_up_ne _ _ (by decide)).trans (by assumption)) | exact (va_up_ne _ _ (by decide)).trans ((va_up_ne _ _ (by decide)).trans (va_up_self _ _ _)) | exact (va_up_ne _ _ (by decide)).trans ((va_up_ne _ _ (by decide)).trans ((va_up_ne _ _ (by decide)).trans (by assumption))) | exact (va_up_ne _ _ (by decide)).trans ((va_up_ne _ _ (by decide)).trans ((va_up_ne _ _ (by decide)).trans ((va_up_ne _ _ (by decide)).trans (by assumption)))) | exact rfl) (by first | assumption | rfl | exact (List.getElem?_set_ne (by decide)).trans (by assumption) | exact List.getElem?_set_self (by omega)) ?_
              refine g_icmp_geN (tgt := 269) (pc' := 50) dX8_findHeaps_47 (by decide) (by first | omega | decide) (by first | omega | decide) (fun h3 => ?_) (fun h3 => ?_)
              · omega
              · refine g_iconst (pc' := 51) (v := nI 0) dX8_findHeaps_50 (by decide) ?_
                refine g_istore_n (pc' := 52) dX8_findHeaps_51 rfl (by decide) ?_
                have e0 : ccT S h = ccT S h + (0 - (f1 S h - 1)) := by omega
                rw [e0] at hTB ⊢
                exact g_fg (by repeat (first | exact trivial | refine ⟨Or.inr rfl, ?_⟩ | refine ⟨Or.inl rfl, ?_⟩)) (inner S 0 fsh fz ft fm fa (by omega) hTB hTM (fun s' hs' => absurd hs' (Nat.not_lt_zero s')))
            · -- a whole heap
              have hz1 : ¬ sz S h < D := fun q => hw (hzi.mp q)
              have ec : (if h ≤ nh S (D - 1) then ccT S h else nh S D) = nh S D := by
                by_cases q : h ≤ nh S (D - 1)
                · rw [if_pos q]
                  have e : h = nh S (D - 1) := by omega
                  rw [e]
                  exact cc_fh h2 h6 hD1 hD
                · rw [if_neg q]
              rw [ec] at hTB ⊢
              have ec2 : (if h + 1 ≤ nh S (D - 1) then ccT S (h + 1) else nh S D) = nh S D := if_neg (by omega)
              refine g_iload_n (pc' := 43) dX8_findHeaps_42 rfl rfl ?_
              refine g_aload_n (pc' := 44) dX8_findHeaps_43 rfl rfl ?_
              refine g_get (pc' := 47) fl_X8_71 dX8_findHeaps_44 (by omega) (by first | assumption | exact va_up_self _ _ _ | exact (va_up_ne _ _ (by decide)).trans (by assumption) | exact (va_up_ne _ _ (by decide)).trans (va_up_self _ _ _) | exact (va_up_ne _ _ (by decide)).trans ((va_up_ne _ _ (by decide)).trans (by assumption)) | exact (va_up_ne _ _ (by decide)).trans ((va_up_ne _ _ (by decide)).trans (va_up_self _ _ _)) | exact (va_up_ne _ _ (by decide)).trans ((va_up_ne _ _ (by decide)).trans ((va_up_ne _ _ (by decide)).trans (by assumption))) | exact (va_up_ne _ _ (by decide)).trans ((va_up_ne _ _ (by decide)).trans ((va_up_ne _ _ (by decide)).trans ((va_up_ne _ _ (by decide)).trans (by assumption)))) | exact rfl) (by first | assumption | rfl | exact (List.getElem?_set_ne (by decide)).trans (by assumption) | exact List.getElem?_set_self (by omega)) ?_
              refine g_icmp_geN (tgt := 269) (pc' := 50) dX8_findHeaps_47 (by decide) (by first | omega | decide) (by first | omega | decide) (fun h3 => ?_) (fun h3 => ?_)
              · omega
              · refine g_iconst (pc' := 51) (v := nI 0) dX8_findHeaps_50 (by decide) ?_
                refine g_istore_n (pc' := 52) dX8_findHeaps_51 rfl (by decide) ?_
                refine g_iload_n (pc' := 53) dX8_findHeaps_52 rfl rfl ?_
                refine g_aload_n (pc' := 54) dX8_findHeaps_53 rfl rfl ?_
                refine g_get (pc' := 57) fl_X8_13 dX8_findHeaps_54 (by omega) (by first | assumption | exact va_up_self _ _ _ | exact (va_up_ne _ _ (by decide)).trans (by assumption) | exact (va_up_ne _ _ (by decide)).trans (va_up_self _ _ _) | exact (va_up_ne _ _ (by decide)).trans ((va_up_ne _ _ (by decide)).trans (by assumption)) | exact (va_up_ne _ _ (by decide)).trans ((va_up_ne _ _ (by decide)).trans (va_up_self _ _ _)) | exact (va_up_ne _ _ (by decide)).trans ((va_up_ne _ _ (by decide)).trans ((va_up_ne _ _ (by decide)).trans (by assumption))) | exact (va_up_ne _ _ (by decide)).trans ((va_up_ne _ _ (by decide)).trans ((va_up_ne _ _ (by decide)).trans ((va_up_ne _ _ (by decide)).trans (by assumption)))) | exact rfl) (by first | assumption | rfl | exact (List.getElem?_set_ne (by decide)).trans (by assumption) | exact List.getElem?_set_self (by omega)) ?_
                refine g_icmp_geN (tgt := 263) (pc' := 60) dX8_findHeaps_57 (by decide) (by first | omega | decide) (by first | omega | decide) (fun h5 => ?_) (fun h5 => ?_)
                · omega
                · refine g_aload_n (pc' := 61) dX8_findHeaps_60 rfl rfl ?_
                  refine g_get (pc' := 64) fl_X8_32 dX8_findHeaps_61 (by omega) (by first | assumption | exact va_up_self _ _ _ | exact (va_up_ne _ _ (by decide)).trans (by assumption) | exact (va_up_ne _ _ (by decide)).trans (va_up_self _ _ _) | exact (va_up_ne _ _ (by decide)).trans ((va_up_ne _ _ (by decide)).trans (by assumption)) | exact (va_up_ne _ _ (by decide)).trans ((va_up_ne _ _ (by decide)).trans (va_up_self _ _ _)) | exact (va_up_ne _ _ (by decide)).trans ((va_up_ne _ _ (by decide)).trans ((va_up_ne _ _ (by decide)).trans (by assumption))) | exact (va_up_ne _ _ (by decide)).trans ((va_up_ne _ _ (by decide)).trans ((va_up_ne _ _ (by decide)).trans ((va_up_ne _ _ (by decide)).trans (by assumption)))) | exact rfl) (by first | assumption | rfl | exact (List.getElem?_set_ne (by decide)).trans (by assumption) | exact List.getElem?_set_self (by omega)) ?_
                  refine g_iload_n (pc' := 65) dX8_findHeaps_64 rfl rfl ?_
                  refine g_ialdV (pc' := 66) dX8_findHeaps_65 (by omega) (by first | assumption | exact va_up_self _ _ _ | exact (va_up_ne _ _ (by decide)).trans (by assumption) | exact (va_up_ne _ _ (by decide)).trans (va_up_self _ _ _) | exact (va_up_ne _ _ (by decide)).trans ((va_up_ne _ _ (by decide)).trans (by assumption)) | exact (va_up_ne _ _ (by decide)).trans ((va_up_ne _ _ (by decide)).trans (va_up_self _ _ _)) | exact (va_up_ne _ _ (by decide)).trans ((va_up_ne _ _ (by decide)).trans ((va_up_ne _ _ (by decide)).trans (by assumption))) | exact (va_up_ne _ _ (by decide)).trans ((va_up_ne _ _ (by decide)).trans ((va_up_ne _ _ (by decide)).trans ((va_up_ne _ _ (by decide)).trans (by assumption)))) | exact rfl) ((IX_nI (by omega) (by omega))) (hTB.2.1 _ (by omega)) ?_
                  refine g_aload_n (pc' := 67) dX8_findHeaps_66 rfl rfl ?_
                  refine g_get (pc' := 70) fl_X8_7 dX8_findHeaps_67 (by omega) (by first | assumption | exact va_up_self _ _ _ | exact (va_up_ne _ _ (by decide)).trans (by assumption) | exact (va_up_ne _ _ (by decide)).trans (va_up_self _ _ _) | exact (va_up_ne _ _ (by decide)).trans ((va_up_ne _ _ (by decide)).trans (by assumption)) | exact (va_up_ne _ _ (by decide)).trans ((va_up_ne _ _ (by decide)).trans (va_up_self _ _ _)) | exact (va_up_ne _ _ (by decide)).trans ((va_up_ne _ _ (by decide)).trans ((va_up_ne _ _ (by decide)).trans (by assumption))) | exact (va_up_ne _ _ (by decide)).trans ((va_up_ne _ _ (by decide)).trans ((va_up_ne _ _ (by decide)).trans ((va_up_ne _ _ (by decide)).trans (by assumption)))) | exact rfl) (by first | assumption | rfl | exact (List.getElem?_set_ne (by decide)).trans (by assumption) | exact List.getElem?_set_self (by omega)) ?_
                  refine g_icmp_geN (tgt := 263) (pc' := 73) dX8_findHeaps_70 (by decide) (by first | omega | decide) (by first | omega | decide) (fun h7 => ?_) (fun h7 => ?_)
                  · first | refine g_iincN (z := 1) (pc' := 266) dX8_findHeaps_263 rfl rfl (by decide) ?_ | refine g_iinc (pc' := 266) dX8_findHeaps_263 rfl rfl (by decide) ?_
                    refine g_goto (tgt := 42) dX8_findHeaps_266 (by decide) ?_
                    have := ih (h + 1) fsh fz ft fm fa (by omega) (by rw [ec2]; exact hTB) (fun g s' hg hz hs => by
                      rcases Nat.lt_or_ge g h with q | q
                      · exact hTM g s' q hz hs
                      · have e : g = h := by omega
                        subst e
                        exact absurd hz hz1)
                    rw [ec2] at this
                    exact g_fg (by repeat (first | exact trivial | refine ⟨Or.inr rfl, ?_⟩ | refine ⟨Or.inl rfl, ?_⟩)) this
                  · omega
        have e1 : (if 0 ≤ nh S (D - 1) then ccT S 0 else nh S D) = 1 := by
          rw [if_pos (Nat.zero_le _)]
          exact nx_00 h2 h6
        have := outer (nh S D) 0 fsh fz1 ft1 fm0 fa0
        rw [e1] at this
        have := this (by omega) ⟨fun h k hh hk => by
          have e : h = 0 := by omega
          rw [e, sh_0, Nat.mul_zero, Nat.zero_add]
          exact hf k (by omega), fun h hh => by
          have e : h = 0 := by omega
          rw [e, sz_0]; exact ez, fun h hh => by
          have e : h = 0 := by omega
          rw [e, td_0]; exact et⟩ (fun g s hg => absurd hg (Nat.not_lt_zero g))
        exact this
      · omega
    | succ k ih =>
      intro i fsh hi hf
      refine g_iload_n (pc' := 22) dX8_findHeaps_21 rfl rfl ?_
      refine g_bipush (pc' := 24) (v := nI 6) dX8_findHeaps_22 (by decide) ?_
      refine g_icmp_geN (tgt := 40) (pc' := 27) dX8_findHeaps_24 (by decide) (by first | omega | decide) (by first | omega | decide) (fun h1 => ?_) (fun h1 => ?_)
      · omega
      · refine g_aload_n (pc' := 28) dX8_findHeaps_27 rfl rfl ?_
        refine g_get (pc' := 31) fl_X8_29 dX8_findHeaps_28 (by omega) (by first | assumption | exact va_up_self _ _ _ | exact (va_up_ne _ _ (by decide)).trans (by assumption) | exact (va_up_ne _ _ (by decide)).trans (va_up_self _ _ _) | exact (va_up_ne _ _ (by decide)).trans ((va_up_ne _ _ (by decide)).trans (by assumption)) | exact (va_up_ne _ _ (by decide)).trans ((va_up_ne _ _ (by decide)).trans (va_up_self _ _ _)) | exact (va_up_ne _ _ (by decide)).trans ((va_up_ne _ _ (by decide)).trans ((va_up_ne _ _ (by decide)).trans (by assumption))) | exact (va_up_ne _ _ (by decide)).trans ((va_up_ne _ _ (by decide)).trans ((va_up_ne _ _ (by decide)).trans ((va_up_ne _ _ (by decide)).trans (by assumption)))) | exact rfl) (by first | assumption | rfl | exact (List.getElem?_set_ne (by decide)).trans (by assumption) | exact List.getElem?_set_self (by omega)) ?_
        refine g_iload_n (pc' := 32) dX8_findHeaps_31 rfl rfl ?_
        refine g_iconst (pc' := 33) (v := nI 0) dX8_findHeaps_32 (by decide) ?_
        refine g_iast (pc' := 34) dX8_findHeaps_33 (by omega) (by first | assumption | exact va_up_self _ _ _ | exact (va_up_ne _ _ (by decide)).trans (by assumption) | exact (va_up_ne _ _ (by decide)).trans (va_up_self _ _ _) | exact (va_up_ne _ _ (by decide)).trans ((va_up_ne _ _ (by decide)).trans (by assumption)) | exact (va_up_ne _ _ (by decide)).trans ((va_up_ne _ _ (by decide)).trans (va_up_self _ _ _)) | exact (va_up_ne _ _ (by decide)).trans ((va_up_ne _ _ (by decide)).trans ((va_up_ne _ _ (by decide)).trans (by assumption))) | exact (va_up_ne _ _ (by decide)).trans ((va_up_ne _ _ (by decide)).trans ((va_up_ne _ _ (by decide)).trans ((va_up_ne _ _ (by decide)).trans (by assumption)))) | exact rfl) ((IX_nI (by omega) (by omega))) ?_
        rw [hF_51]
        first | refine g_iincN (z := 1) (pc' := 37) dX8_findHeaps_34 rfl rfl (by decide) ?_ | refine g_iinc (pc' := 37) dX8_findHeaps_34 rfl rfl (by decide) ?_
        refine g_goto (tgt := 21) dX8_findHeaps_37 (by decide) ?_
        refine ih (i + 1) _ (by omega) (fun j hj => ?_)
        by_cases e : j = i
        · subst e; exact pk_us
        · rw [pk_un e]; exact hf j (by omega)
  exact loop1 6 0 fsh0 (by omega) (fun j hj => absurd hj (Nat.not_lt_zero j))
