/-! ways -/
def wk (a b : Nat) : Nat → Nat × Nat
  | 0 => (a, b)
  | k + 1 => ((wk a b k).1 * ((wk a b k).2 + 1) / (k + 1), (wk a b k).2 + 1)
def wo (c : Nat → Nat) : Nat → Nat × Nat
  | 0 => (1, 0)
  | s + 1 => wk (wo c s).1 (wo c s).2 (c s)
def fct : Nat → Nat
  | 0 => 1
  | t + 1 => (t + 1) * fct t
theorem wk_2 (a b : Nat) : ∀ k, (wk a b k).2 = b + k
  | 0 => rfl
  | k + 1 => by
    show (wk a b k).2 + 1 = _
    rw [wk_2 a b k]; rfl
theorem wk_1 {a b : Nat} (h : a ≤ fct b) : ∀ k, (wk a b k).1 ≤ fct (b + k)
  | 0 => h
  | k + 1 => by
    show (wk a b k).1 * ((wk a b k).2 + 1) / (k + 1) ≤ (b + k + 1) * fct (b + k)
    rw [wk_2]
    refine Nat.le_trans (Nat.div_le_self _ _) ?_
    rw [Nat.mul_comm]
    exact Nat.mul_le_mul_left _ (wk_1 h k)
theorem wo_2 (c : Nat → Nat) : ∀ s, (wo c s).2 = smF c s
  | 0 => rfl
  | s + 1 => by
    show (wk _ _ (c s)).2 = smF c s + c s
    rw [wk_2, wo_2 c s]
theorem wo_1 (c : Nat → Nat) : ∀ s, (wo c s).1 ≤ fct (smF c s)
  | 0 => Nat.le_refl _
  | s + 1 => by
    have h := wo_1 c s
    rw [← wo_2] at h
    have h3 := wk_1 h (c s)
    rw [show (wo c s).2 + c s = smF c s + c s by rw [wo_2]] at h3
    exact h3
theorem fct_le : ∀ t, t ≤ 5 → fct t ≤ 120 := by decide
def okZ (S : Nat) : Bool := al (fun h => smF (sh S h) 6 == sz S h) (nh S 5)
theorem okZ_all {S : Nat} (h2 : 2 ≤ S) (h6 : S ≤ 6) : okZ S = true := by
  have h : S = 2 ∨ S = 3 ∨ S = 4 ∨ S = 5 ∨ S = 6 := by omega
  rcases h with rfl | rfl | rfl | rfl | rfl <;> decide +kernel
theorem sh_sum {S h : Nat} (h2 : 2 ≤ S) (h6 : S ≤ 6) (hh : h < nh S 5) : smF (sh S h) 6 = sz S h := by
  have := al_spec (okZ_all h2 h6) h hh
  simpa using this
theorem c_ways {hp : AH} {n D S T R s sm h k : Nat} {kd nn pp fl : Nat → Nat} {bg it tt : Bool} {lu sl : Int64} {y : Int32} {Q : Option Value → AH → Nat → Prop} (hn : 64 ≤ n) (M : MS hp D S T R kd nn pp bg it tt s sm h k fl lu sl)
    (hq1 : wpN D S y = none → ∀ hp' : AH, MS hp' D S T R kd nn pp bg it tt s sm h k fl lu sl → FRm hp hp' → Q (some (.int (-3))) hp' n)
    (hq2 : ∀ g, wpN D S y = some g → ∀ hp' : AH, MS hp' D S T R kd nn pp bg it tt s sm h k fl lu sl → FRm hp hp' → Q (some (.int (nI (wo (sh S g) 6).1))) hp' n) : CT yX8_ways cX8_ways 7 (some .int) (rmD 2) [.ref 47, .int y] hp n Q := by
  obtain ⟨⟨h2, h6, hD1, hD, hT1, hT3, hR, hRV⟩, ⟨x8, x23, x31, c47, hb⟩, -⟩ := id M
  obtain ⟨hN, hN1⟩ := nh_le h2 h6 hD
  have hN5 := nh_mono h2 h6 hD (Nat.le_refl 5)
  show G yX8_ways cX8_ways 7 (some .int) (rmD 2) none Q 0 0 0 [.ref 47, .int y, uu, uu, uu, uu, uu] [] hp n
  refine g_aload_n (pc' := 1) dX8_ways_0 rfl rfl ?_
  refine gc_V 4 47 [] [] cw_X8_131 im_X8_findHeaps se_X8_findHeaps dX8_ways_1 (by decide) (by decide) (Nat.le_refl _) (Nat.le_refl _) (Nat.le_of_ble_eq_true rfl) rfl (Nat.le_of_ble_eq_true rfl) (by omega) (by first | assumption | exact va_up_self _ _ _ | exact (va_up_ne _ _ (by decide)).trans (by assumption) | exact (va_up_ne _ _ (by decide)).trans (va_up_self _ _ _) | exact (va_up_ne _ _ (by decide)).trans ((va_up_ne _ _ (by decide)).trans (by assumption)) | exact (va_up_ne _ _ (by decide)).trans ((va_up_ne _ _ (by decide)).trans (va_up_self _ _ _)) | exact (va_up_ne _ _ (by decide)).trans ((va_up_ne _ _ (by decide)).trans ((va_up_ne _ _ (by decide)).trans (by assumption))) | exact (va_up_ne _ _ (by decide)).trans ((va_up_ne _ _ (by decide)).trans ((va_up_ne _ _ (by decide)).trans ((va_up_ne _ _ (by decide)).trans (by assumption)))) | exact rfl) rfl rfl (c_fH hn M (fun hp' y23 y31 fsh fz ft fm M' R' d47 d51 d52 d53 d54 hTB hTM => ⟨rfl, ?_⟩))
  have no : ∀ w, wpN D S y = none → G yX8_ways cX8_ways 7 (some .int) (rmD 2) none Q 0 0 28 [.ref 47, .int y, .int w, uu, uu, uu, uu] [] hp' n := by
    intro w e
    refine g_bipush (pc' := 30) (v := -3) dX8_ways_28 (by decide) ?_
    exact g_iret dX8_ways_30 rfl (Nat.le_refl _) (Nat.le_refl _) (hq1 e hp' M' R')
  refine g_aload_n (pc' := 5) dX8_ways_4 rfl rfl ?_
  refine g_iload_n (pc' := 6) dX8_ways_5 rfl rfl ?_
  refine gc_V 9 47 [.int y] [] cw_X8_189 im_X8_heapOf se_X8_heapOf dX8_ways_6 (by decide) (by decide) (Nat.le_refl _) (Nat.le_refl _) (Nat.le_of_ble_eq_true rfl) rfl (Nat.le_of_ble_eq_true rfl) (by omega) (by first | assumption | exact va_up_self _ _ _ | exact (va_up_ne _ _ (by decide)).trans (by assumption) | exact (va_up_ne _ _ (by decide)).trans (va_up_self _ _ _) | exact (va_up_ne _ _ (by decide)).trans ((va_up_ne _ _ (by decide)).trans (by assumption)) | exact (va_up_ne _ _ (by decide)).trans ((va_up_ne _ _ (by decide)).trans (va_up_self _ _ _)) | exact (va_up_ne _ _ (by decide)).trans ((va_up_ne _ _ (by decide)).trans ((va_up_ne _ _ (by decide)).trans (by assumption))) | exact (va_up_ne _ _ (by decide)).trans ((va_up_ne _ _ (by decide)).trans ((va_up_ne _ _ (by decide)).trans ((va_up_ne _ _ (by decide)).trans (by assumption)))) | exact rfl) rfl rfl (c_heapOf hn d47 mo_MF h2 h6 hD d52 d54 hTB.2.1 hTM (fun hy => ⟨rfl, ?_⟩) (fun v hv hy => ⟨rfl, ?_⟩))
  · show G yX8_ways cX8_ways 7 (some .int) (rmD 2) none Q 0 0 9 [.ref 47, .int y, uu, uu, uu, uu, uu] [.int (-1)] hp' n
    refine g_istore_n (pc' := 10) dX8_ways_9 rfl (by decide) ?_
    refine g_iload_n (pc' := 11) dX8_ways_10 rfl rfl ?_
    refine g_iconst (pc' := 12) (v := -1) dX8_ways_11 (by decide) ?_
    refine g_icmp_eq (tgt := 28) (pc' := 15) dX8_ways_12 (by decide) (fun z2 => ?_) (fun z2 => ?_)
    · exact no _ (if_pos hy)
    · exact absurd rfl z2
  · have e1 : wpN D S y = match ho D S D 0 v with | none => none | some g => if sz S g = D then some g else none := by
      unfold wpN
      rw [hy, if_neg (nI_pos hv), nI_clamp hv]
      cases ho D S D 0 v <;> rfl
    cases hg : ho D S D 0 v with
    | none =>
      rw [hg] at e1
      show G yX8_ways cX8_ways 7 (some .int) (rmD 2) none Q 0 0 9 [.ref 47, .int y, uu, uu, uu, uu, uu] [.int (-1)] hp' n
      refine g_istore_n (pc' := 10) dX8_ways_9 rfl (by decide) ?_
      refine g_iload_n (pc' := 11) dX8_ways_10 rfl rfl ?_
      refine g_iconst (pc' := 12) (v := -1) dX8_ways_11 (by decide) ?_
      refine g_icmp_eq (tgt := 28) (pc' := 15) dX8_ways_12 (by decide) (fun z2 => ?_) (fun z2 => ?_)
      · exact no _ e1
      · exact absurd rfl z2
    | some g =>
      rw [hg] at e1
      have hgl := ho_ok h2 h6 hD hN1 (by rw [sz_0]; omega) hg
      have zg := sz_le S g
      show G yX8_ways cX8_ways 7 (some .int) (rmD 2) none Q 0 0 9 [.ref 47, .int y, uu, uu, uu, uu, uu] [.int (nI g)] hp' n
      refine g_istore_n (pc' := 10) dX8_ways_9 rfl (by decide) ?_
      refine g_iload_n (pc' := 11) dX8_ways_10 rfl rfl ?_
      refine g_iconst (pc' := 12) (v := -1) dX8_ways_11 (by decide) ?_
      refine g_icmp_eq (tgt := 28) (pc' := 15) dX8_ways_12 (by decide) (fun z2 => ?_) (fun z2 => ?_)
      · exact absurd z2 (nI_nm1 (by omega))
      · refine g_aload_n (pc' := 16) dX8_ways_15 rfl rfl ?_
        refine g_get (pc' := 19) fl_X8_32 dX8_ways_16 (by omega) (by first | assumption | exact va_up_self _ _ _ | exact (va_up_ne _ _ (by decide)).trans (by assumption) | exact (va_up_ne _ _ (by decide)).trans (va_up_self _ _ _) | exact (va_up_ne _ _ (by decide)).trans ((va_up_ne _ _ (by decide)).trans (by assumption)) | exact (va_up_ne _ _ (by decide)).trans ((va_up_ne _ _ (by decide)).trans (va_up_self _ _ _)) | exact (va_up_ne _ _ (by decide)).trans ((va_up_ne _ _ (by decide)).trans ((va_up_ne _ _ (by decide)).trans (by assumption))) | exact (va_up_ne _ _ (by decide)).trans ((va_up_ne _ _ (by decide)).trans ((va_up_ne _ _ (by decide)).trans ((va_up_ne _ _ (by decide)).trans (by assumption)))) | exact rfl) (by first | assumption | rfl | exact (List.getElem?_set_ne (by decide)).trans (by assumption) | exact List.getElem?_set_self (by omega)) ?_
        refine g_iload_n (pc' := 20) dX8_ways_19 rfl rfl ?_
        refine g_ialdV (pc' := 21) dX8_ways_20 (by omega) (by first | assumption | exact va_up_self _ _ _ | exact (va_up_ne _ _ (by decide)).trans (by assumption) | exact (va_up_ne _ _ (by decide)).trans (va_up_self _ _ _) | exact (va_up_ne _ _ (by decide)).trans ((va_up_ne _ _ (by decide)).trans (by assumption)) | exact (va_up_ne _ _ (by decide)).trans ((va_up_ne _ _ (by decide)).trans (va_up_self _ _ _)) | exact (va_up_ne _ _ (by decide)).trans ((va_up_ne _ _ (by decide)).trans ((va_up_ne _ _ (by decide)).trans (by assumption))) | exact (va_up_ne _ _ (by decide)).trans ((va_up_ne _ _ (by decide)).trans ((va_up_ne _ _ (by decide)).trans ((va_up_ne _ _ (by decide)).trans (by assumption)))) | exact rfl) ((IX_nI (by omega) (by omega))) (hTB.2.1 _ hgl) ?_
        refine g_aload_n (pc' := 22) dX8_ways_21 rfl rfl ?_
        refine g_get (pc' := 25) fl_X8_7 dX8_ways_22 (by omega) (by first | assumption | exact va_up_self _ _ _ | exact (va_up_ne _ _ (by decide)).trans (by assumption) | exact (va_up_ne _ _ (by decide)).trans (va_up_self _ _ _) | exact (va_up_ne _ _ (by decide)).trans ((va_up_ne _ _ (by decide)).trans (by assumption)) | exact (va_up_ne _ _ (by decide)).trans ((va_up_ne _ _ (by decide)).trans (va_up_self _ _ _)) | exact (va_up_ne _ _ (by decide)).trans ((va_up_ne _ _ (by decide)).trans ((va_up_ne _ _ (by decide)).trans (by assumption))) | exact (va_up_ne _ _ (by decide)).trans ((va_up_ne _ _ (by decide)).trans ((va_up_ne _ _ (by decide)).trans ((va_up_ne _ _ (by decide)).trans (by assumption)))) | exact rfl) (by first | assumption | rfl | exact (List.getElem?_set_ne (by decide)).trans (by assumption) | exact List.getElem?_set_self (by omega)) ?_
        refine g_icmp_eqN (tgt := 31) (pc' := 28) dX8_ways_25 (by decide) (by first | omega | decide) (by first | omega | decide) (fun z3 => ?_) (fun z3 => ?_)
        · simp only [z3, if_true] at e1
          have hsum := sh_sum h2 h6 (show g < nh S 5 by omega)
          have hsm5 : ∀ i, i < 6 → smF (sh S g) i + sh S g i ≤ 5 := fun i hi => by
            have := smF_part (f := sh S g) hi
            omega
          refine g_iconst (pc' := 32) (v := nI 1) dX8_ways_31 (by decide) ?_
          refine g_istore_n (pc' := 33) dX8_ways_32 rfl (by decide) ?_
          refine g_iconst (pc' := 34) (v := nI 0) dX8_ways_33 (by decide) ?_
          refine g_istore (pc' := 36) dX8_ways_34 (by decide) ?_
          refine g_iconst (pc' := 37) (v := nI 0) dX8_ways_36 (by decide) ?_
          refine g_istore (pc' := 39) dX8_ways_37 (by decide) ?_
          have outer : ∀ j i, i + j = 6 → G yX8_ways cX8_ways 7 (some .int) (rmD 2) none Q 0 0 39 [.ref 47, .int y, .int (nI g), .int (nI (wo (sh S g) i).1), .int (nI (wo (sh S g) i).2), .int (nI i), uu] [] hp' n := by
            intro j
            induction j with
            | zero =>
              intro i hi
              have hi' : i = 6 := by omega
              subst hi'
              refine g_iload (pc' := 41) dX8_ways_39 rfl ?_
              refine g_bipush (pc' := 43) (v := nI 6) dX8_ways_41 (by decide) ?_
              refine g_icmp_geN (tgt := 89) (pc' := 46) dX8_ways_43 (by decide) (by first | omega | decide) (by first | omega | decide) (fun z4 => ?_) (fun z4 => ?_)
              · refine g_iload_n (pc' := 90) dX8_ways_89 rfl rfl ?_
                exact g_iret dX8_ways_90 rfl (Nat.le_refl _) (Nat.le_refl _) (hq2 g e1 hp' M' R')
              · omega
            | succ j ih =>
              intro i hi
              have hs5 := hsm5 i (by omega)
              have w2 := wo_2 (sh S g) i
              have w1 := wo_1 (sh S g) i
              rw [← w2] at w1
              refine g_iload (pc' := 41) dX8_ways_39 rfl ?_
              refine g_bipush (pc' := 43) (v := nI 6) dX8_ways_41 (by decide) ?_
              refine g_icmp_geN (tgt := 89) (pc' := 46) dX8_ways_43 (by decide) (by first | omega | decide) (by first | omega | decide) (fun z4 => ?_) (fun z4 => ?_)
              · omega
              · refine g_iconst (pc' := 47) (v := nI 1) dX8_ways_46 (by decide) ?_
                refine g_istore (pc' := 49) dX8_ways_47 (by decide) ?_
                have inner : ∀ j2 q, q + j2 = sh S g i → G yX8_ways cX8_ways 7 (some .int) (rmD 2) none Q 0 0 49 [.ref 47, .int y, .int (nI g), .int (nI (wk (wo (sh S g) i).1 (wo (sh S g) i).2 q).1), .int (nI (wk (wo (sh S g) i).1 (wo (sh S g) i).2 q).2), .int (nI i), .int (nI (q + 1))] [] hp' n := by
                  intro j2
                  induction j2 with
                  | zero =>
                    intro q hq9
                    refine g_iload (pc' := 51) dX8_ways_49 rfl ?_
                    refine g_aload_n (pc' := 52) dX8_ways_51 rfl rfl ?_
                    refine g_get (pc' := 55) fl_X8_29 dX8_ways_52 (by omega) (by first | assumption | exact va_up_self _ _ _ | exact (va_up_ne _ _ (by decide)).trans (by assumption) | exact (va_up_ne _ _ (by decide)).trans (va_up_self _ _ _) | exact (va_up_ne _ _ (by decide)).trans ((va_up_ne _ _ (by decide)).trans (by assumption)) | exact (va_up_ne _ _ (by decide)).trans ((va_up_ne _ _ (by decide)).trans (va_up_self _ _ _)) | exact (va_up_ne _ _ (by decide)).trans ((va_up_ne _ _ (by decide)).trans ((va_up_ne _ _ (by decide)).trans (by assumption))) | exact (va_up_ne _ _ (by decide)).trans ((va_up_ne _ _ (by decide)).trans ((va_up_ne _ _ (by decide)).trans ((va_up_ne _ _ (by decide)).trans (by assumption)))) | exact rfl) (by first | assumption | rfl | exact (List.getElem?_set_ne (by decide)).trans (by assumption) | exact List.getElem?_set_self (by omega)) ?_
                    refine g_bipush (pc' := 57) (v := nI 6) dX8_ways_55 (by decide) ?_
                    refine g_iload_n (pc' := 58) dX8_ways_57 rfl rfl ?_
                    first | refine g_imulN (pc' := 59) dX8_ways_58 ?_ | refine g_imul (pc' := 59) dX8_ways_58 ?_
                    refine g_iload (pc' := 61) dX8_ways_59 rfl ?_
                    first | refine g_iaddN (pc' := 62) dX8_ways_61 ?_ | refine g_iadd (pc' := 62) dX8_ways_61 ?_
                    refine g_ialdV (pc' := 63) dX8_ways_62 (by omega) (by first | assumption | exact va_up_self _ _ _ | exact (va_up_ne _ _ (by decide)).trans (by assumption) | exact (va_up_ne _ _ (by decide)).trans (va_up_self _ _ _) | exact (va_up_ne _ _ (by decide)).trans ((va_up_ne _ _ (by decide)).trans (by assumption)) | exact (va_up_ne _ _ (by decide)).trans ((va_up_ne _ _ (by decide)).trans (va_up_self _ _ _)) | exact (va_up_ne _ _ (by decide)).trans ((va_up_ne _ _ (by decide)).trans ((va_up_ne _ _ (by decide)).trans (by assumption))) | exact (va_up_ne _ _ (by decide)).trans ((va_up_ne _ _ (by decide)).trans ((va_up_ne _ _ (by decide)).trans ((va_up_ne _ _ (by decide)).trans (by assumption)))) | exact rfl) ((IX_nI (by omega) (by omega))) (hTB.1 _ _ hgl (by omega)) ?_
                    refine g_icmp_gtN (tgt := 83) (pc' := 66) dX8_ways_63 (by decide) (by first | omega | decide) (by first | omega | decide) (fun z5 => ?_) (fun z5 => ?_)
                    · first | refine g_iincN (z := 1) (pc' := 86) dX8_ways_83 rfl rfl (by decide) ?_ | refine g_iinc (pc' := 86) dX8_ways_83 rfl rfl (by decide) ?_
                      refine g_goto (tgt := 39) dX8_ways_86 (by decide) ?_
                      have e9 : q = sh S g i := by omega
                      rw [e9]
                      exact g_fg (by repeat (first | exact trivial | refine ⟨Or.inr rfl, ?_⟩ | refine ⟨Or.inl rfl, ?_⟩)) (ih (i + 1) (by omega))
                    · omega
                  | succ j2 ih2 =>
                    intro q hq9
                    have v2 := wk_2 (wo (sh S g) i).1 (wo (sh S g) i).2 q
                    have v1 := wk_1 w1 q
                    have v3 := fct_le ((wo (sh S g) i).2 + q) (by omega)
                    have v4 : (wk (wo (sh S g) i).1 (wo (sh S g) i).2 q).1 * ((wk (wo (sh S g) i).1 (wo (sh S g) i).2 q).2 + 1) ≤ 120 * 6 := Nat.mul_le_mul (by omega) (by omega)
                    refine g_iload (pc' := 51) dX8_ways_49 rfl ?_
                    refine g_aload_n (pc' := 52) dX8_ways_51 rfl rfl ?_
                    refine g_get (pc' := 55) fl_X8_29 dX8_ways_52 (by omega) (by first | assumption | exact va_up_self _ _ _ | exact (va_up_ne _ _ (by decide)).trans (by assumption) | exact (va_up_ne _ _ (by decide)).trans (va_up_self _ _ _) | exact (va_up_ne _ _ (by decide)).trans ((va_up_ne _ _ (by decide)).trans (by assumption)) | exact (va_up_ne _ _ (by decide)).trans ((va_up_ne _ _ (by decide)).trans (va_up_self _ _ _)) | exact (va_up_ne _ _ (by decide)).trans ((va_up_ne _ _ (by decide)).trans ((va_up_ne _ _ (by decide)).trans (by assumption))) | exact (va_up_ne _ _ (by decide)).trans ((va_up_ne _ _ (by decide)).trans ((va_up_ne _ _ (by decide)).trans ((va_up_ne _ _ (by decide)).trans (by assumption)))) | exact rfl) (by first | assumption | rfl | exact (List.getElem?_set_ne (by decide)).trans (by assumption) | exact List.getElem?_set_self (by omega)) ?_
                    refine g_bipush (pc' := 57) (v := nI 6) dX8_ways_55 (by decide) ?_
                    refine g_iload_n (pc' := 58) dX8_ways_57 rfl rfl ?_
                    first | refine g_imulN (pc' := 59) dX8_ways_58 ?_ | refine g_imul (pc' := 59) dX8_ways_58 ?_
                    refine g_iload (pc' := 61) dX8_ways_59 rfl ?_
                    first | refine g_iaddN (pc' := 62) dX8_ways_61 ?_ | refine g_iadd (pc' := 62) dX8_ways_61 ?_
                    refine g_ialdV (pc' := 63) dX8_ways_62 (by omega) (by first | assumption | exact va_up_self _ _ _ | exact (va_up_ne _ _ (by decide)).trans (by assumption) | exact (va_up_ne _ _ (by decide)).trans (va_up_self _ _ _) | exact (va_up_ne _ _ (by decide)).trans ((va_up_ne _ _ (by decide)).trans (by assumption)) | exact (va_up_ne _ _ (by decide)).trans ((va_up_ne _ _ (by decide)).trans (va_up_self _ _ _)) | exact (va_up_ne _ _ (by decide)).trans ((va_up_ne _ _ (by decide)).trans ((va_up_ne _ _ (by decide)).trans (by assumption))) | exact (va_up_ne _ _ (by decide)).trans ((va_up_ne _ _ (by decide)).trans ((va_up_ne _ _ (by decide)).trans ((va_up_ne _ _ (by decide)).trans (by assumption)))) | exact rfl) ((IX_nI (by omega) (by omega))) (hTB.1 _ _ hgl (by omega)) ?_
                    refine g_icmp_gtN (tgt := 83) (pc' := 66) dX8_ways_63 (by decide) (by first | omega | decide) (by first | omega | decide) (fun z5 => ?_) (fun z5 => ?_)
                    · omega
                    · first | refine g_iincN (z := 1) (pc' := 69) dX8_ways_66 rfl rfl (by decide) ?_ | refine g_iinc (pc' := 69) dX8_ways_66 rfl rfl (by decide) ?_
                      refine g_iload_n (pc' := 70) dX8_ways_69 rfl rfl ?_
                      refine g_iload (pc' := 72) dX8_ways_70 rfl ?_
                      first | refine g_imulN (pc' := 73) dX8_ways_72 ?_ | refine g_imul (pc' := 73) dX8_ways_72 ?_
                      refine g_iload (pc' := 75) dX8_ways_73 rfl ?_
                      first | refine g_idivN (pc' := 76) dX8_ways_75 (by omega) (by omega) (by omega) ?_ | refine g_idiv (pc' := 76) dX8_ways_75 (by decide) ?_
                      refine g_istore_n (pc' := 77) dX8_ways_76 rfl (by decide) ?_
                      first | refine g_iincN (z := 1) (pc' := 80) dX8_ways_77 rfl rfl (by decide) ?_ | refine g_iinc (pc' := 80) dX8_ways_77 rfl rfl (by decide) ?_
                      refine g_goto (tgt := 49) dX8_ways_80 (by decide) ?_
                      exact ih2 (q + 1) (by omega)
                exact inner (sh S g i) 0 (by omega)
          exact outer 6 0 (by omega)
        · simp only [z3, if_false] at e1
          exact no _ e1
