/-! THE CLASS: Tally, Row -/
theorem jf_ho {S D : Nat} (h2 : 2 ≤ S) (h6 : S ≤ 6) (hD : D ≤ 5) : ∀ {f h v : Nat}, h < nh S D → sz S h + f = D → (match ho D S f h v with | none => none | some g => if sz S g = D then some g else none) = jf S f h v
  | 0, h, v, hh, hz => by
    have hz' : sz S h = D := by omega
    unfold ho jf
    by_cases e : v = 0
    · simp [e, hz']
    · simp [e]
  | f + 1, h, v, hh, hz => by
    unfold ho jf
    by_cases e : v = 0
    · have hz' : ¬ sz S h = D := by omega
      subst e
      simp [hz']
    · rw [if_neg e]
      by_cases c : 1 ≤ v % 10 ∧ v % 10 ≤ S
      · obtain ⟨-, b2, b3, -⟩ := nx_ok h2 h6 hD hh (by omega) (show v % 10 - 1 < S by omega)
        rw [if_pos c, if_pos c]
        exact jf_ho h2 h6 hD b2 (by omega)
      · rw [if_neg c, if_neg c]
theorem wp_jf {S D : Nat} (h2 : 2 ≤ S) (h6 : S ≤ 6) (hD : D ≤ 5) (x : Int32) : wpN D S x = jfI S D 0 x := by
  unfold wpN jfI
  by_cases c : x < 0
  · rw [if_pos c, if_pos c]
  · rw [if_neg c, if_neg c]
    exact jf_ho h2 h6 hD (nh_le h2 h6 hD).2 (by rw [sz_0]; omega)
theorem neg_rem {x : Int32} (h : x < 0) : x - x / nI 10 * nI 10 < nI 1 := by
  have h1 := Int32.lt_iff_toInt_lt.mp h
  have h0 : (0 : Int32).toInt = 0 := by decide
  have h3 := Int32.le_toInt x
  have e1 : (nI 10).toInt = 10 := by decide
  have e2 : (nI 1).toInt = 1 := by decide
  rw [h0] at h1
  have ed : x.toInt.tdiv 10 = -((-x.toInt) / 10) := by
    rw [← Int.neg_neg x.toInt, Int.neg_tdiv, Int.tdiv_eq_ediv_of_nonneg (by omega), Int.neg_neg]
  rw [Int32.lt_iff_toInt_lt, Int32.toInt_sub, Int32.toInt_mul, Int32.toInt_div, e1, e2, ed]
  have hm : (-(-x.toInt / 10)).bmod (2 ^ 32) = -(-x.toInt / 10) := by
    apply Int.bmod_eq_of_le <;> omega
  rw [hm]
  have hm2 : (-(-x.toInt / 10) * 10).bmod (2 ^ 32) = -(-x.toInt / 10) * 10 := by
    apply Int.bmod_eq_of_le <;> omega
  rw [hm2]
  have hm3 : (x.toInt - -(-x.toInt / 10) * 10).bmod (2 ^ 32) = x.toInt - -(-x.toInt / 10) * 10 := by
    apply Int.bmod_eq_of_le <;> omega
  rw [hm3]
  omega
theorem c_fillI {hp : AH} {n : Nat} {f : Nat → Int32} {Q : Option Value → AH → Nat → Prop} (hn : 64 ≤ n) (c2 : hp 2 = aI 7 f)
    (hq : ∀ f' : Nat → Int32, (∀ i, i < 7 → f' i = nI 0) → Q none (va_up hp 2 (aI 7 f')) n) : CT yJ7_fill_53178 cJ7_fill_53178 4 none (rmD 0) [.ref 2, .int (nI 0)] hp n Q := by
  show G yJ7_fill_53178 cJ7_fill_53178 4 none (rmD 0) none Q 0 0 0 [.ref 2, .int (nI 0), uu, uu] [] hp n
  refine g_iconst (pc' := 1) (v := nI 0) dJ7_fill_53178_0 (by decide) ?_
  refine g_istore_n (pc' := 2) dJ7_fill_53178_1 rfl (by decide) ?_
  refine g_aload_n (pc' := 3) dJ7_fill_53178_2 rfl rfl ?_
  refine g_alen (pc' := 4) dJ7_fill_53178_3 (by omega) (by first | assumption | exact va_up_self _ _ _ | exact (va_up_ne _ _ (by first | decide | omega)).trans (by assumption) | exact (va_up_ne _ _ (by first | decide | omega)).trans (va_up_self _ _ _) | exact (va_up_ne _ _ (by first | decide | omega)).trans ((va_up_ne _ _ (by first | decide | omega)).trans (by assumption)) | exact (va_up_ne _ _ (by first | decide | omega)).trans ((va_up_ne _ _ (by first | decide | omega)).trans (va_up_self _ _ _)) | exact (va_up_ne _ _ (by first | decide | omega)).trans ((va_up_ne _ _ (by first | decide | omega)).trans ((va_up_ne _ _ (by first | decide | omega)).trans (by assumption))) | exact (va_up_ne _ _ (by first | decide | omega)).trans ((va_up_ne _ _ (by first | decide | omega)).trans ((va_up_ne _ _ (by first | decide | omega)).trans ((va_up_ne _ _ (by first | decide | omega)).trans (by assumption)))) | exact rfl) (by decide) ?_
  refine g_istore_n (pc' := 5) dJ7_fill_53178_4 rfl (by decide) ?_
  rw [← up_id c2]
  have loop : ∀ k i f, i + k = 7 → (∀ j, j < i → f j = nI 0) → G yJ7_fill_53178 cJ7_fill_53178 4 none (rmD 0) none Q 0 0 5 [.ref 2, .int (nI 0), .int (nI i), .int (nI 7)] [] (va_up hp 2 (aI 7 f)) n := by
    intro k
    induction k with
    | zero =>
      intro i f hi hf
      refine g_iload_n (pc' := 6) dJ7_fill_53178_5 rfl rfl ?_
      refine g_iload_n (pc' := 7) dJ7_fill_53178_6 rfl rfl ?_
      refine g_icmp_geN (tgt := 20) (pc' := 10) dJ7_fill_53178_7 (by decide) (by first | omega | decide) (by first | omega | decide) (fun h1 => ?_) (fun h1 => ?_)
      · exact g_vret dJ7_fill_53178_20 rfl (Nat.le_refl _) (Nat.le_refl _) (hq f (fun j hj => hf j (by omega)))
      · omega
    | succ k ih =>
      intro i f hi hf
      refine g_iload_n (pc' := 6) dJ7_fill_53178_5 rfl rfl ?_
      refine g_iload_n (pc' := 7) dJ7_fill_53178_6 rfl rfl ?_
      refine g_icmp_geN (tgt := 20) (pc' := 10) dJ7_fill_53178_7 (by decide) (by first | omega | decide) (by first | omega | decide) (fun h1 => ?_) (fun h1 => ?_)
      · omega
      · refine g_aload_n (pc' := 11) dJ7_fill_53178_10 rfl rfl ?_
        refine g_iload_n (pc' := 12) dJ7_fill_53178_11 rfl rfl ?_
        refine g_iload_n (pc' := 13) dJ7_fill_53178_12 rfl rfl ?_
        refine g_iast (pc' := 14) dJ7_fill_53178_13 (by omega) (by first | assumption | exact va_up_self _ _ _ | exact (va_up_ne _ _ (by first | decide | omega)).trans (by assumption) | exact (va_up_ne _ _ (by first | decide | omega)).trans (va_up_self _ _ _) | exact (va_up_ne _ _ (by first | decide | omega)).trans ((va_up_ne _ _ (by first | decide | omega)).trans (by assumption)) | exact (va_up_ne _ _ (by first | decide | omega)).trans ((va_up_ne _ _ (by first | decide | omega)).trans (va_up_self _ _ _)) | exact (va_up_ne _ _ (by first | decide | omega)).trans ((va_up_ne _ _ (by first | decide | omega)).trans ((va_up_ne _ _ (by first | decide | omega)).trans (by assumption))) | exact (va_up_ne _ _ (by first | decide | omega)).trans ((va_up_ne _ _ (by first | decide | omega)).trans ((va_up_ne _ _ (by first | decide | omega)).trans ((va_up_ne _ _ (by first | decide | omega)).trans (by assumption)))) | exact rfl) ((IX_nI (by omega) (by omega))) ?_
        rw [up_up]
        first | refine g_iincN (z := 1) (pc' := 17) dJ7_fill_53178_14 rfl rfl (by decide) ?_ | refine g_iinc (pc' := 17) dJ7_fill_53178_14 rfl rfl (by decide) ?_
        refine g_goto (tgt := 5) dJ7_fill_53178_17 (by decide) ?_
        refine ih (i + 1) _ (by omega) (fun j hj => ?_)
        by_cases e : j = i
        · rw [e, pk_us]
        · rw [pk_un e]; exact hf j (by omega)
  exact loop 7 0 f (by omega) (fun j hj => absurd hj (Nat.not_lt_zero j))
theorem c_read {hp : AH} {n D S : Nat} {f0 : Nat → Int32} {x : Int32} {Q : Option Value → AH → Nat → Prop} (hn : 64 ≤ n) (h2 : 2 ≤ S) (h6 : S ≤ 6) (hD1 : 1 ≤ D) (hD : D ≤ 5) (c1 : hp 1 = ob 4 [.ref 2]) (c2 : hp 2 = aI 7 f0)
    (hq0 : jfI S D 0 x = none → ∀ f : Nat → Int32, Q (some (.int (nI 0))) (va_up hp 2 (aI 7 f)) n)
    (hq1 : ∀ g, jfI S D 0 x = some g → ∀ f : Nat → Int32, (∀ k, k < 6 → f (k + 1) = nI (sh S g k)) → Q (some (.int (nI 1))) (va_up hp 2 (aI 7 f)) n) : CT yX4_read cX4_read 7 (some .boolean) (rmD 1) [.ref 1, .int x, .int (nI D), .int (nI S)] hp n Q := by
  obtain ⟨hN, hN1⟩ := nh_le h2 h6 hD
  have hN5 := nh_mono h2 h6 hD (Nat.le_refl 5)
  show G yX4_read cX4_read 7 (some .boolean) (rmD 1) none Q 0 0 0 [.ref 1, .int x, .int (nI D), .int (nI S), uu, uu, uu] [] hp n
  refine g_aload_n (pc' := 1) dX4_read_0 rfl rfl ?_
  refine g_get (pc' := 4) fl_X4_9 dX4_read_1 (by omega) (by first | assumption | exact va_up_self _ _ _ | exact (va_up_ne _ _ (by first | decide | omega)).trans (by assumption) | exact (va_up_ne _ _ (by first | decide | omega)).trans (va_up_self _ _ _) | exact (va_up_ne _ _ (by first | decide | omega)).trans ((va_up_ne _ _ (by first | decide | omega)).trans (by assumption)) | exact (va_up_ne _ _ (by first | decide | omega)).trans ((va_up_ne _ _ (by first | decide | omega)).trans (va_up_self _ _ _)) | exact (va_up_ne _ _ (by first | decide | omega)).trans ((va_up_ne _ _ (by first | decide | omega)).trans ((va_up_ne _ _ (by first | decide | omega)).trans (by assumption))) | exact (va_up_ne _ _ (by first | decide | omega)).trans ((va_up_ne _ _ (by first | decide | omega)).trans ((va_up_ne _ _ (by first | decide | omega)).trans ((va_up_ne _ _ (by first | decide | omega)).trans (by assumption)))) | exact rfl) (by first | assumption | rfl | exact (List.getElem?_set_ne (by decide)).trans (by assumption) | exact List.getElem?_set_self (by omega)) ?_
  refine g_iconst (pc' := 5) (v := nI 0) dX4_read_4 (by decide) ?_
  refine gc_S 8 [.ref 2, .int (nI 0)] [] cw_X4_15 sm_J7_fill_53178 dX4_read_5 (by decide) (by decide) (Nat.le_refl _) (Nat.le_refl _) (Nat.le_of_ble_eq_true rfl) rfl (Nat.le_of_ble_eq_true rfl) (c_fillI hn (by first | assumption | exact va_up_self _ _ _ | exact (va_up_ne _ _ (by first | decide | omega)).trans (by assumption) | exact (va_up_ne _ _ (by first | decide | omega)).trans (va_up_self _ _ _) | exact (va_up_ne _ _ (by first | decide | omega)).trans ((va_up_ne _ _ (by first | decide | omega)).trans (by assumption)) | exact (va_up_ne _ _ (by first | decide | omega)).trans ((va_up_ne _ _ (by first | decide | omega)).trans (va_up_self _ _ _)) | exact (va_up_ne _ _ (by first | decide | omega)).trans ((va_up_ne _ _ (by first | decide | omega)).trans ((va_up_ne _ _ (by first | decide | omega)).trans (by assumption))) | exact (va_up_ne _ _ (by first | decide | omega)).trans ((va_up_ne _ _ (by first | decide | omega)).trans ((va_up_ne _ _ (by first | decide | omega)).trans ((va_up_ne _ _ (by first | decide | omega)).trans (by assumption)))) | exact rfl) (fun f hf => ⟨rfl, ?_⟩))
  refine g_iload_n (pc' := 9) dX4_read_8 rfl rfl ?_
  refine g_istore (pc' := 11) dX4_read_9 (by decide) ?_
  refine g_iconst (pc' := 12) (v := nI 0) dX4_read_11 (by decide) ?_
  refine g_istore (pc' := 14) dX4_read_12 (by decide) ?_
  by_cases hx : x < 0
  · have en : jfI S D 0 x = none := by unfold jfI; rw [if_pos hx]
    refine g_iload (pc' := 16) dX4_read_14 rfl ?_
    refine g_iload_n (pc' := 17) dX4_read_16 rfl rfl ?_
    refine g_icmp_geN (tgt := 65) (pc' := 20) dX4_read_17 (by decide) (by first | omega | decide) (by first | omega | decide) (fun h1 => ?_) (fun h1 => ?_)
    · omega
    · refine g_iload (pc' := 22) dX4_read_20 rfl ?_
      refine g_bipush (pc' := 24) (v := nI 10) dX4_read_22 (by decide) ?_
      refine g_irem (pc' := 25) dX4_read_24 (by decide) ?_
      refine g_istore (pc' := 27) dX4_read_25 (by decide) ?_
      refine g_iload (pc' := 29) dX4_read_27 rfl ?_
      refine g_iconst (pc' := 30) (v := nI 1) dX4_read_29 (by decide) ?_
      refine g_icmp_lt (tgt := 39) (pc' := 33) dX4_read_30 (by decide) (fun h3 => ?_) (fun h3 => ?_)
      · refine g_iconst (pc' := 40) (v := nI 0) dX4_read_39 (by decide) ?_
        exact g_zret dX4_read_40 rfl (by decide) (Nat.le_refl _) (Nat.le_refl _) (hq0 en f)
      · exact absurd (neg_rem hx) h3
  · obtain ⟨v, hv, rfl⟩ := nI_of hx
    have en : jfI S D 0 (nI v) = jf S D 0 v := by unfold jfI; rw [if_neg hx, nI_clamp hv]
    rw [en] at hq0 hq1
    have loop : ∀ m h v f, v < 2 ^ 31 → h < nh S D → sz S h + m = D → (∀ k, k < 6 → f (k + 1) = nI (sh S h k)) → (jf S m h v = none → ∀ f : Nat → Int32, Q (some (.int (nI 0))) (va_up hp 2 (aI 7 f)) n) → (∀ g, jf S m h v = some g → ∀ f : Nat → Int32, (∀ k, k < 6 → f (k + 1) = nI (sh S g k)) → Q (some (.int (nI 1))) (va_up hp 2 (aI 7 f)) n) → ∀ x, G yX4_read cX4_read 7 (some .boolean) (rmD 1) none Q 0 0 14 [.ref 1, .int x, .int (nI D), .int (nI S), .int (nI v), .int (nI (sz S h)), uu] [] (va_up hp 2 (aI 7 f)) n := by
      intro m
      induction m with
      | zero =>
        intro h v f hv hh hz hf q0 q1 x
        refine g_iload (pc' := 16) dX4_read_14 rfl ?_
        refine g_iload_n (pc' := 17) dX4_read_16 rfl rfl ?_
        refine g_icmp_geN (tgt := 65) (pc' := 20) dX4_read_17 (by decide) (by first | omega | decide) (by first | omega | decide) (fun h1 => ?_) (fun h1 => ?_)
        · refine g_iload (pc' := 67) dX4_read_65 rfl ?_
          refine g_if_neN (tgt := 74) (pc' := 70) dX4_read_67 (by decide) (by first | omega | decide) (fun h3 => ?_) (fun h3 => ?_)
          · refine g_iconst (pc' := 75) (v := nI 0) dX4_read_74 (by decide) ?_
            exact g_zret dX4_read_75 rfl (by decide) (Nat.le_refl _) (Nat.le_refl _) (q0 (by unfold jf; rw [if_neg h3]) f)
          · refine g_iconst (pc' := 71) (v := nI 1) dX4_read_70 (by decide) ?_
            refine g_goto (tgt := 75) dX4_read_71 (by decide) ?_
            exact g_zret dX4_read_75 rfl (by decide) (Nat.le_refl _) (Nat.le_refl _) (q1 h (by unfold jf; rw [if_pos h3]) f hf)
        · omega
      | succ m ih =>
        intro h v f hv hh hz hf q0 q1 x
        have hzl := sz_le S h
        have out : ¬ (1 ≤ v % 10 ∧ v % 10 ≤ S) → G yX4_read cX4_read 7 (some .boolean) (rmD 1) none Q 0 0 39 [.ref 1, .int x, .int (nI D), .int (nI S), .int (nI v), .int (nI (sz S h)), .int (nI (v % 10))] [] (va_up hp 2 (aI 7 f)) n := by
          intro c
          refine g_iconst (pc' := 40) (v := nI 0) dX4_read_39 (by decide) ?_
          exact g_zret dX4_read_40 rfl (by decide) (Nat.le_refl _) (Nat.le_refl _) (q0 (by unfold jf; rw [if_neg c]) f)
        refine g_iload (pc' := 16) dX4_read_14 rfl ?_
        refine g_iload_n (pc' := 17) dX4_read_16 rfl rfl ?_
        refine g_icmp_geN (tgt := 65) (pc' := 20) dX4_read_17 (by decide) (by first | omega | decide) (by first | omega | decide) (fun h1 => ?_) (fun h1 => ?_)
        · omega
        · refine g_iload (pc' := 22) dX4_read_20 rfl ?_
          refine g_bipush (pc' := 24) (v := nI 10) dX4_read_22 (by decide) ?_
          first | refine g_iremN (pc' := 25) dX4_read_24 (by omega) (by omega) (by omega) ?_ | refine g_irem (pc' := 25) dX4_read_24 (by decide) ?_
          refine g_istore (pc' := 27) dX4_read_25 (by decide) ?_
          refine g_iload (pc' := 29) dX4_read_27 rfl ?_
          refine g_iconst (pc' := 30) (v := nI 1) dX4_read_29 (by decide) ?_
          refine g_icmp_ltN (tgt := 39) (pc' := 33) dX4_read_30 (by decide) (by first | omega | decide) (by first | omega | decide) (fun h3 => ?_) (fun h3 => ?_)
          · exact out (by omega)
          · refine g_iload (pc' := 35) dX4_read_33 rfl ?_
            refine g_iload_n (pc' := 36) dX4_read_35 rfl rfl ?_
            refine g_icmp_leN (tgt := 41) (pc' := 39) dX4_read_36 (by decide) (by first | omega | decide) (by first | omega | decide) (fun h4 => ?_) (fun h4 => ?_)
            · have c : 1 ≤ v % 10 ∧ v % 10 ≤ S := ⟨by omega, h4⟩
              obtain ⟨-, b2, b3, b4⟩ := nx_ok h2 h6 hD hh (by omega) (show v % 10 - 1 < S by omega)
              have ej : jf S (m + 1) h v = jf S m (nx S h (v % 10 - 1)) (v / 10) := by
                rw [show jf S (m + 1) h v = if 1 ≤ v % 10 ∧ v % 10 ≤ S then jf S m (nx S h (v % 10 - 1)) (v / 10) else none from rfl, if_pos c]
              rw [ej] at q0 q1
              have hs6 : sh S h (v % 10 - 1) ≤ 5 := sh_le S h _
              have efv : f (v % 10) = nI (sh S h (v % 10 - 1)) := by
                have := hf (v % 10 - 1) (by omega)
                rw [show v % 10 - 1 + 1 = v % 10 by omega] at this
                exact this
              refine g_aload_n (pc' := 42) dX4_read_41 rfl rfl ?_
              refine g_get (pc' := 45) fl_X4_9 dX4_read_42 (by omega) (by first | assumption | exact va_up_self _ _ _ | exact (va_up_ne _ _ (by first | decide | omega)).trans (by assumption) | exact (va_up_ne _ _ (by first | decide | omega)).trans (va_up_self _ _ _) | exact (va_up_ne _ _ (by first | decide | omega)).trans ((va_up_ne _ _ (by first | decide | omega)).trans (by assumption)) | exact (va_up_ne _ _ (by first | decide | omega)).trans ((va_up_ne _ _ (by first | decide | omega)).trans (va_up_self _ _ _)) | exact (va_up_ne _ _ (by first | decide | omega)).trans ((va_up_ne _ _ (by first | decide | omega)).trans ((va_up_ne _ _ (by first | decide | omega)).trans (by assumption))) | exact (va_up_ne _ _ (by first | decide | omega)).trans ((va_up_ne _ _ (by first | decide | omega)).trans ((va_up_ne _ _ (by first | decide | omega)).trans ((va_up_ne _ _ (by first | decide | omega)).trans (by assumption)))) | exact rfl) (by first | assumption | rfl | exact (List.getElem?_set_ne (by decide)).trans (by assumption) | exact List.getElem?_set_self (by omega)) ?_
              refine g_iload (pc' := 47) dX4_read_45 rfl ?_
              first | refine g_dup2 (pc' := 48) dX4_read_47 rfl rfl ?_ | refine g_dup2_2 (pc' := 48) dX4_read_47 rfl ?_
              refine g_ialdV (pc' := 49) dX4_read_48 (by omega) (by first | assumption | exact va_up_self _ _ _ | exact (va_up_ne _ _ (by first | decide | omega)).trans (by assumption) | exact (va_up_ne _ _ (by first | decide | omega)).trans (va_up_self _ _ _) | exact (va_up_ne _ _ (by first | decide | omega)).trans ((va_up_ne _ _ (by first | decide | omega)).trans (by assumption)) | exact (va_up_ne _ _ (by first | decide | omega)).trans ((va_up_ne _ _ (by first | decide | omega)).trans (va_up_self _ _ _)) | exact (va_up_ne _ _ (by first | decide | omega)).trans ((va_up_ne _ _ (by first | decide | omega)).trans ((va_up_ne _ _ (by first | decide | omega)).trans (by assumption))) | exact (va_up_ne _ _ (by first | decide | omega)).trans ((va_up_ne _ _ (by first | decide | omega)).trans ((va_up_ne _ _ (by first | decide | omega)).trans ((va_up_ne _ _ (by first | decide | omega)).trans (by assumption)))) | exact rfl) ((IX_nI (by omega) (by omega))) (efv) ?_
              refine g_iconst (pc' := 50) (v := nI 1) dX4_read_49 (by decide) ?_
              first | refine g_iaddN (pc' := 51) dX4_read_50 ?_ | refine g_iadd (pc' := 51) dX4_read_50 ?_
              refine g_iast (pc' := 52) dX4_read_51 (by omega) (by first | assumption | exact va_up_self _ _ _ | exact (va_up_ne _ _ (by first | decide | omega)).trans (by assumption) | exact (va_up_ne _ _ (by first | decide | omega)).trans (va_up_self _ _ _) | exact (va_up_ne _ _ (by first | decide | omega)).trans ((va_up_ne _ _ (by first | decide | omega)).trans (by assumption)) | exact (va_up_ne _ _ (by first | decide | omega)).trans ((va_up_ne _ _ (by first | decide | omega)).trans (va_up_self _ _ _)) | exact (va_up_ne _ _ (by first | decide | omega)).trans ((va_up_ne _ _ (by first | decide | omega)).trans ((va_up_ne _ _ (by first | decide | omega)).trans (by assumption))) | exact (va_up_ne _ _ (by first | decide | omega)).trans ((va_up_ne _ _ (by first | decide | omega)).trans ((va_up_ne _ _ (by first | decide | omega)).trans ((va_up_ne _ _ (by first | decide | omega)).trans (by assumption)))) | exact rfl) ((IX_nI (by omega) (by omega))) ?_
              rw [up_up]
              refine g_iload (pc' := 54) dX4_read_52 rfl ?_
              refine g_bipush (pc' := 56) (v := nI 10) dX4_read_54 (by decide) ?_
              first | refine g_idivN (pc' := 57) dX4_read_56 (by omega) (by omega) (by omega) ?_ | refine g_idiv (pc' := 57) dX4_read_56 (by decide) ?_
              refine g_istore (pc' := 59) dX4_read_57 (by decide) ?_
              first | refine g_iincN (z := 1) (pc' := 62) dX4_read_59 rfl rfl (by decide) ?_ | refine g_iinc (pc' := 62) dX4_read_59 rfl rfl (by decide) ?_
              refine g_goto (tgt := 14) dX4_read_62 (by decide) ?_
              have nxt := ih (nx S h (v % 10 - 1)) (v / 10) (upd f (v % 10) (nI (sh S h (v % 10 - 1) + 1))) (by omega) b2 (by omega) (fun k hk => ?_) q0 q1 x
              · rw [b3] at nxt
                exact g_fg (by repeat (first | exact trivial | refine ⟨Or.inr rfl, ?_⟩ | refine ⟨Or.inl rfl, ?_⟩)) nxt
              · rw [b4 k hk]
                by_cases e : k = v % 10 - 1
                · rw [if_pos e, e, show v % 10 - 1 + 1 = v % 10 by omega, pk_us]
                · rw [if_neg e, pk_un (by omega)]
                  exact hf k hk
            · exact out (by omega)
    have := loop D 0 v f hv hN1 (by rw [sz_0]; omega) (fun k hk => by rw [sh_0]; exact hf (k + 1) (by omega)) hq0 hq1 (nI v)
    rw [sz_0] at this
    exact g_fg (by repeat (first | exact trivial | refine ⟨Or.inr rfl, ?_⟩ | refine ⟨Or.inl rfl, ?_⟩)) this
theorem c_showing {hp : AH} {n nn : Nat} {f : Nat → Int32} {c : Nat → Nat} {Q : Option Value → AH → Nat → Prop} (hn : 64 ≤ n) (c1 : hp 1 = ob 4 [.ref 2]) (c2 : hp 2 = aI 7 f) (hf : ∀ k, k < 6 → f (k + 1) = nI (c k)) (h1 : 1 ≤ nn) (h6 : nn ≤ 6) (hq : Q (some (.int (nI (c (nn - 1))))) hp n) : CT yX4_showing cX4_showing 2 (some .int) (rmD 0) [.ref 1, .int (nI nn)] hp n Q := by
  show G yX4_showing cX4_showing 2 (some .int) (rmD 0) none Q 0 0 0 [.ref 1, .int (nI nn)] [] hp n
  have efv : f nn = nI (c (nn - 1)) := by
    have := hf (nn - 1) (by omega)
    rw [show nn - 1 + 1 = nn by omega] at this
    exact this
  refine g_iload_n (pc' := 1) dX4_showing_0 rfl rfl ?_
  refine g_iconst (pc' := 2) (v := nI 1) dX4_showing_1 (by decide) ?_
  refine g_icmp_ltN (tgt := 20) (pc' := 5) dX4_showing_2 (by decide) (by first | omega | decide) (by first | omega | decide) (fun z1 => ?_) (fun z1 => ?_)
  · omega
  · refine g_iload_n (pc' := 6) dX4_showing_5 rfl rfl ?_
    refine g_bipush (pc' := 8) (v := nI 6) dX4_showing_6 (by decide) ?_
    refine g_icmp_gtN (tgt := 20) (pc' := 11) dX4_showing_8 (by decide) (by first | omega | decide) (by first | omega | decide) (fun z2 => ?_) (fun z2 => ?_)
    · omega
    · refine g_aload_n (pc' := 12) dX4_showing_11 rfl rfl ?_
      refine g_get (pc' := 15) fl_X4_9 dX4_showing_12 (by omega) (by first | assumption | exact va_up_self _ _ _ | exact (va_up_ne _ _ (by first | decide | omega)).trans (by assumption) | exact (va_up_ne _ _ (by first | decide | omega)).trans (va_up_self _ _ _) | exact (va_up_ne _ _ (by first | decide | omega)).trans ((va_up_ne _ _ (by first | decide | omega)).trans (by assumption)) | exact (va_up_ne _ _ (by first | decide | omega)).trans ((va_up_ne _ _ (by first | decide | omega)).trans (va_up_self _ _ _)) | exact (va_up_ne _ _ (by first | decide | omega)).trans ((va_up_ne _ _ (by first | decide | omega)).trans ((va_up_ne _ _ (by first | decide | omega)).trans (by assumption))) | exact (va_up_ne _ _ (by first | decide | omega)).trans ((va_up_ne _ _ (by first | decide | omega)).trans ((va_up_ne _ _ (by first | decide | omega)).trans ((va_up_ne _ _ (by first | decide | omega)).trans (by assumption)))) | exact rfl) (by first | assumption | rfl | exact (List.getElem?_set_ne (by decide)).trans (by assumption) | exact List.getElem?_set_self (by omega)) ?_
      refine g_iload_n (pc' := 16) dX4_showing_15 rfl rfl ?_
      refine g_ialdV (pc' := 17) dX4_showing_16 (by omega) (by first | assumption | exact va_up_self _ _ _ | exact (va_up_ne _ _ (by first | decide | omega)).trans (by assumption) | exact (va_up_ne _ _ (by first | decide | omega)).trans (va_up_self _ _ _) | exact (va_up_ne _ _ (by first | decide | omega)).trans ((va_up_ne _ _ (by first | decide | omega)).trans (by assumption)) | exact (va_up_ne _ _ (by first | decide | omega)).trans ((va_up_ne _ _ (by first | decide | omega)).trans (va_up_self _ _ _)) | exact (va_up_ne _ _ (by first | decide | omega)).trans ((va_up_ne _ _ (by first | decide | omega)).trans ((va_up_ne _ _ (by first | decide | omega)).trans (by assumption))) | exact (va_up_ne _ _ (by first | decide | omega)).trans ((va_up_ne _ _ (by first | decide | omega)).trans ((va_up_ne _ _ (by first | decide | omega)).trans ((va_up_ne _ _ (by first | decide | omega)).trans (by assumption)))) | exact rfl) ((IX_nI (by omega) (by omega))) (efv) ?_
      refine g_goto (tgt := 21) dX4_showing_17 (by decide) ?_
      exact g_iret dX4_showing_21 rfl (Nat.le_refl _) (Nat.le_refl _) hq
theorem c_mostAlike {hp : AH} {n : Nat} {f : Nat → Int32} {c : Nat → Nat} {Q : Option Value → AH → Nat → Prop} (hn : 64 ≤ n) (c1 : hp 1 = ob 4 [.ref 2]) (c2 : hp 2 = aI 7 f) (hf : ∀ k, k < 6 → f (k + 1) = nI (c k)) (hc : ∀ k, k < 6 → c k ≤ 5) (hq : Q (some (.int (nI (aM c 6)))) hp n) : CT yX4_mostAlike cX4_mostAlike 3 (some .int) (rmD 1) [.ref 1] hp n Q := by
  show G yX4_mostAlike cX4_mostAlike 3 (some .int) (rmD 1) none Q 0 0 0 [.ref 1, uu, uu] [] hp n
  refine g_iconst (pc' := 1) (v := nI 0) dX4_mostAlike_0 (by decide) ?_
  refine g_istore_n (pc' := 2) dX4_mostAlike_1 rfl (by decide) ?_
  refine g_iconst (pc' := 3) (v := nI 1) dX4_mostAlike_2 (by decide) ?_
  refine g_istore_n (pc' := 4) dX4_mostAlike_3 rfl (by decide) ?_
  have loop : ∀ k i, i + k = 6 → G yX4_mostAlike cX4_mostAlike 3 (some .int) (rmD 1) none Q 0 0 4 [.ref 1, .int (nI (aM c i)), .int (nI (i + 1))] [] hp n := by
    intro k
    induction k with
    | zero =>
      intro i hi
      have e : i = 6 := by omega
      subst e
      refine g_iload_n (pc' := 5) dX4_mostAlike_4 rfl rfl ?_
      refine g_bipush (pc' := 7) (v := nI 6) dX4_mostAlike_5 (by decide) ?_
      refine g_icmp_gtN (tgt := 27) (pc' := 10) dX4_mostAlike_7 (by decide) (by first | omega | decide) (by first | omega | decide) (fun z1 => ?_) (fun z1 => ?_)
      · refine g_iload_n (pc' := 28) dX4_mostAlike_27 rfl rfl ?_
        exact g_iret dX4_mostAlike_28 rfl (Nat.le_refl _) (Nat.le_refl _) hq
      · omega
    | succ k ih =>
      intro i hi
      have h1 := aM_le hc i (by omega)
      have h3 := hc i (by omega)
      refine g_iload_n (pc' := 5) dX4_mostAlike_4 rfl rfl ?_
      refine g_bipush (pc' := 7) (v := nI 6) dX4_mostAlike_5 (by decide) ?_
      refine g_icmp_gtN (tgt := 27) (pc' := 10) dX4_mostAlike_7 (by decide) (by first | omega | decide) (by first | omega | decide) (fun z1 => ?_) (fun z1 => ?_)
      · omega
      · refine g_iload_n (pc' := 11) dX4_mostAlike_10 rfl rfl ?_
        refine g_aload_n (pc' := 12) dX4_mostAlike_11 rfl rfl ?_
        refine g_get (pc' := 15) fl_X4_9 dX4_mostAlike_12 (by omega) (by first | assumption | exact va_up_self _ _ _ | exact (va_up_ne _ _ (by first | decide | omega)).trans (by assumption) | exact (va_up_ne _ _ (by first | decide | omega)).trans (va_up_self _ _ _) | exact (va_up_ne _ _ (by first | decide | omega)).trans ((va_up_ne _ _ (by first | decide | omega)).trans (by assumption)) | exact (va_up_ne _ _ (by first | decide | omega)).trans ((va_up_ne _ _ (by first | decide | omega)).trans (va_up_self _ _ _)) | exact (va_up_ne _ _ (by first | decide | omega)).trans ((va_up_ne _ _ (by first | decide | omega)).trans ((va_up_ne _ _ (by first | decide | omega)).trans (by assumption))) | exact (va_up_ne _ _ (by first | decide | omega)).trans ((va_up_ne _ _ (by first | decide | omega)).trans ((va_up_ne _ _ (by first | decide | omega)).trans ((va_up_ne _ _ (by first | decide | omega)).trans (by assumption)))) | exact rfl) (by first | assumption | rfl | exact (List.getElem?_set_ne (by decide)).trans (by assumption) | exact List.getElem?_set_self (by omega)) ?_
        refine g_iload_n (pc' := 16) dX4_mostAlike_15 rfl rfl ?_
        refine g_ialdV (pc' := 17) dX4_mostAlike_16 (by omega) (by first | assumption | exact va_up_self _ _ _ | exact (va_up_ne _ _ (by first | decide | omega)).trans (by assumption) | exact (va_up_ne _ _ (by first | decide | omega)).trans (va_up_self _ _ _) | exact (va_up_ne _ _ (by first | decide | omega)).trans ((va_up_ne _ _ (by first | decide | omega)).trans (by assumption)) | exact (va_up_ne _ _ (by first | decide | omega)).trans ((va_up_ne _ _ (by first | decide | omega)).trans (va_up_self _ _ _)) | exact (va_up_ne _ _ (by first | decide | omega)).trans ((va_up_ne _ _ (by first | decide | omega)).trans ((va_up_ne _ _ (by first | decide | omega)).trans (by assumption))) | exact (va_up_ne _ _ (by first | decide | omega)).trans ((va_up_ne _ _ (by first | decide | omega)).trans ((va_up_ne _ _ (by first | decide | omega)).trans ((va_up_ne _ _ (by first | decide | omega)).trans (by assumption)))) | exact rfl) ((IX_nI (by omega) (by omega))) (hf _ (by omega)) ?_
        refine g_mmaxN (pc' := 20) mm_X4_21 dX4_mostAlike_17 (by decide) (Nat.le_of_ble_eq_true rfl) (Nat.le_refl _) (Nat.le_refl _) (by omega) (by omega) ?_
        refine g_istore_n (pc' := 21) dX4_mostAlike_20 rfl (by decide) ?_
        first | refine g_iincN (z := 1) (pc' := 24) dX4_mostAlike_21 rfl rfl (by decide) ?_ | refine g_iinc (pc' := 24) dX4_mostAlike_21 rfl rfl (by decide) ?_
        refine g_goto (tgt := 4) dX4_mostAlike_24 (by decide) ?_
        exact ih (i + 1) (by omega)
  exact loop 6 0 (by omega)
theorem c_total {hp : AH} {n : Nat} {f : Nat → Int32} {c : Nat → Nat} {Q : Option Value → AH → Nat → Prop} (hn : 64 ≤ n) (c1 : hp 1 = ob 4 [.ref 2]) (c2 : hp 2 = aI 7 f) (hf : ∀ k, k < 6 → f (k + 1) = nI (c k)) (hq : Q (some (.int (nI (aA c 6)))) hp n) : CT yX4_total cX4_total 3 (some .int) (rmD 0) [.ref 1] hp n Q := by
  show G yX4_total cX4_total 3 (some .int) (rmD 0) none Q 0 0 0 [.ref 1, uu, uu] [] hp n
  refine g_iconst (pc' := 1) (v := nI 0) dX4_total_0 (by decide) ?_
  refine g_istore_n (pc' := 2) dX4_total_1 rfl (by decide) ?_
  refine g_iconst (pc' := 3) (v := nI 1) dX4_total_2 (by decide) ?_
  refine g_istore_n (pc' := 4) dX4_total_3 rfl (by decide) ?_
  have loop : ∀ k i, i + k = 6 → G yX4_total cX4_total 3 (some .int) (rmD 0) none Q 0 0 4 [.ref 1, .int (nI (aA c i)), .int (nI (i + 1))] [] hp n := by
    intro k
    induction k with
    | zero =>
      intro i hi
      have e : i = 6 := by omega
      subst e
      refine g_iload_n (pc' := 5) dX4_total_4 rfl rfl ?_
      refine g_bipush (pc' := 7) (v := nI 6) dX4_total_5 (by decide) ?_
      refine g_icmp_gtN (tgt := 27) (pc' := 10) dX4_total_7 (by decide) (by first | omega | decide) (by first | omega | decide) (fun z1 => ?_) (fun z1 => ?_)
      · refine g_iload_n (pc' := 28) dX4_total_27 rfl rfl ?_
        exact g_iret dX4_total_28 rfl (Nat.le_refl _) (Nat.le_refl _) hq
      · omega
    | succ k ih =>
      intro i hi
      refine g_iload_n (pc' := 5) dX4_total_4 rfl rfl ?_
      refine g_bipush (pc' := 7) (v := nI 6) dX4_total_5 (by decide) ?_
      refine g_icmp_gtN (tgt := 27) (pc' := 10) dX4_total_7 (by decide) (by first | omega | decide) (by first | omega | decide) (fun z1 => ?_) (fun z1 => ?_)
      · omega
      · refine g_iload_n (pc' := 11) dX4_total_10 rfl rfl ?_
        refine g_iload_n (pc' := 12) dX4_total_11 rfl rfl ?_
        refine g_aload_n (pc' := 13) dX4_total_12 rfl rfl ?_
        refine g_get (pc' := 16) fl_X4_9 dX4_total_13 (by omega) (by first | assumption | exact va_up_self _ _ _ | exact (va_up_ne _ _ (by first | decide | omega)).trans (by assumption) | exact (va_up_ne _ _ (by first | decide | omega)).trans (va_up_self _ _ _) | exact (va_up_ne _ _ (by first | decide | omega)).trans ((va_up_ne _ _ (by first | decide | omega)).trans (by assumption)) | exact (va_up_ne _ _ (by first | decide | omega)).trans ((va_up_ne _ _ (by first | decide | omega)).trans (va_up_self _ _ _)) | exact (va_up_ne _ _ (by first | decide | omega)).trans ((va_up_ne _ _ (by first | decide | omega)).trans ((va_up_ne _ _ (by first | decide | omega)).trans (by assumption))) | exact (va_up_ne _ _ (by first | decide | omega)).trans ((va_up_ne _ _ (by first | decide | omega)).trans ((va_up_ne _ _ (by first | decide | omega)).trans ((va_up_ne _ _ (by first | decide | omega)).trans (by assumption)))) | exact rfl) (by first | assumption | rfl | exact (List.getElem?_set_ne (by decide)).trans (by assumption) | exact List.getElem?_set_self (by omega)) ?_
        refine g_iload_n (pc' := 17) dX4_total_16 rfl rfl ?_
        refine g_ialdV (pc' := 18) dX4_total_17 (by omega) (by first | assumption | exact va_up_self _ _ _ | exact (va_up_ne _ _ (by first | decide | omega)).trans (by assumption) | exact (va_up_ne _ _ (by first | decide | omega)).trans (va_up_self _ _ _) | exact (va_up_ne _ _ (by first | decide | omega)).trans ((va_up_ne _ _ (by first | decide | omega)).trans (by assumption)) | exact (va_up_ne _ _ (by first | decide | omega)).trans ((va_up_ne _ _ (by first | decide | omega)).trans (va_up_self _ _ _)) | exact (va_up_ne _ _ (by first | decide | omega)).trans ((va_up_ne _ _ (by first | decide | omega)).trans ((va_up_ne _ _ (by first | decide | omega)).trans (by assumption))) | exact (va_up_ne _ _ (by first | decide | omega)).trans ((va_up_ne _ _ (by first | decide | omega)).trans ((va_up_ne _ _ (by first | decide | omega)).trans ((va_up_ne _ _ (by first | decide | omega)).trans (by assumption)))) | exact rfl) ((IX_nI (by omega) (by omega))) (hf _ (by omega)) ?_
        first | refine g_imulN (pc' := 19) dX4_total_18 ?_ | refine g_imul (pc' := 19) dX4_total_18 ?_
        first | refine g_iaddN (pc' := 20) dX4_total_19 ?_ | refine g_iadd (pc' := 20) dX4_total_19 ?_
        refine g_istore_n (pc' := 21) dX4_total_20 rfl (by decide) ?_
        first | refine g_iincN (z := 1) (pc' := 24) dX4_total_21 rfl rfl (by decide) ?_ | refine g_iinc (pc' := 24) dX4_total_21 rfl rfl (by decide) ?_
        refine g_goto (tgt := 4) dX4_total_24 (by decide) ?_
        have := ih (i + 1) (by omega)
        rw [show aA c (i + 1) = aA c i + (i + 1) * c i by rw [Nat.mul_comm]; rfl] at this
        exact this
  exact loop 6 0 (by omega)
theorem c_longestRun {hp : AH} {n : Nat} {f : Nat → Int32} {c : Nat → Nat} {Q : Option Value → AH → Nat → Prop} (hn : 64 ≤ n) (c1 : hp 1 = ob 4 [.ref 2]) (c2 : hp 2 = aI 7 f) (hf : ∀ k, k < 6 → f (k + 1) = nI (c k)) (hc : ∀ k, k < 6 → c k ≤ 5) (hq : Q (some (.int (nI (aL c 6)))) hp n) : CT yX4_longestRun cX4_longestRun 4 (some .int) (rmD 1) [.ref 1] hp n Q := by
  show G yX4_longestRun cX4_longestRun 4 (some .int) (rmD 1) none Q 0 0 0 [.ref 1, uu, uu, uu] [] hp n
  refine g_iconst (pc' := 1) (v := nI 0) dX4_longestRun_0 (by decide) ?_
  refine g_istore_n (pc' := 2) dX4_longestRun_1 rfl (by decide) ?_
  refine g_iconst (pc' := 3) (v := nI 0) dX4_longestRun_2 (by decide) ?_
  refine g_istore_n (pc' := 4) dX4_longestRun_3 rfl (by decide) ?_
  refine g_iconst (pc' := 5) (v := nI 1) dX4_longestRun_4 (by decide) ?_
  refine g_istore_n (pc' := 6) dX4_longestRun_5 rfl (by decide) ?_
  have loop : ∀ k i, i + k = 6 → G yX4_longestRun cX4_longestRun 4 (some .int) (rmD 1) none Q 0 0 6 [.ref 1, .int (nI (aL c i)), .int (nI (aU c i)), .int (nI (i + 1))] [] hp n := by
    intro k
    induction k with
    | zero =>
      intro i hi
      have e : i = 6 := by omega
      subst e
      refine g_iload_n (pc' := 7) dX4_longestRun_6 rfl rfl ?_
      refine g_bipush (pc' := 9) (v := nI 6) dX4_longestRun_7 (by decide) ?_
      refine g_icmp_gtN (tgt := 41) (pc' := 12) dX4_longestRun_9 (by decide) (by first | omega | decide) (by first | omega | decide) (fun z1 => ?_) (fun z1 => ?_)
      · refine g_iload_n (pc' := 42) dX4_longestRun_41 rfl rfl ?_
        exact g_iret dX4_longestRun_42 rfl (Nat.le_refl _) (Nat.le_refl _) hq
      · omega
    | succ k ih =>
      intro i hi
      have h1 := aL_le c i
      have h3 := aU_le c (i + 1)
      have h4 := hc i (by omega)
      have nxt := ih (i + 1) (by omega)
      rw [show aL c (i + 1) = max (aL c i) (aU c (i + 1)) from rfl] at nxt
      have fin : ∀ u, aU c (i + 1) = u → G yX4_longestRun cX4_longestRun 4 (some .int) (rmD 1) none Q 0 0 28 [.ref 1, .int (nI (aL c i)), .int (nI (aU c i)), .int (nI (i + 1))] [.int (nI u)] hp n := by
        intro u hu
        rw [hu] at nxt h3
        refine g_istore_n (pc' := 29) dX4_longestRun_28 rfl (by decide) ?_
        refine g_iload_n (pc' := 30) dX4_longestRun_29 rfl rfl ?_
        refine g_iload_n (pc' := 31) dX4_longestRun_30 rfl rfl ?_
        refine g_mmaxN (pc' := 34) mm_X4_21 dX4_longestRun_31 (by decide) (Nat.le_of_ble_eq_true rfl) (Nat.le_refl _) (Nat.le_refl _) (by omega) (by omega) ?_
        refine g_istore_n (pc' := 35) dX4_longestRun_34 rfl (by decide) ?_
        first | refine g_iincN (z := 1) (pc' := 38) dX4_longestRun_35 rfl rfl (by decide) ?_ | refine g_iinc (pc' := 38) dX4_longestRun_35 rfl rfl (by decide) ?_
        refine g_goto (tgt := 6) dX4_longestRun_38 (by decide) ?_
        exact nxt
      refine g_iload_n (pc' := 7) dX4_longestRun_6 rfl rfl ?_
      refine g_bipush (pc' := 9) (v := nI 6) dX4_longestRun_7 (by decide) ?_
      refine g_icmp_gtN (tgt := 41) (pc' := 12) dX4_longestRun_9 (by decide) (by first | omega | decide) (by first | omega | decide) (fun z1 => ?_) (fun z1 => ?_)
      · omega
      · refine g_aload_n (pc' := 13) dX4_longestRun_12 rfl rfl ?_
        refine g_get (pc' := 16) fl_X4_9 dX4_longestRun_13 (by omega) (by first | assumption | exact va_up_self _ _ _ | exact (va_up_ne _ _ (by first | decide | omega)).trans (by assumption) | exact (va_up_ne _ _ (by first | decide | omega)).trans (va_up_self _ _ _) | exact (va_up_ne _ _ (by first | decide | omega)).trans ((va_up_ne _ _ (by first | decide | omega)).trans (by assumption)) | exact (va_up_ne _ _ (by first | decide | omega)).trans ((va_up_ne _ _ (by first | decide | omega)).trans (va_up_self _ _ _)) | exact (va_up_ne _ _ (by first | decide | omega)).trans ((va_up_ne _ _ (by first | decide | omega)).trans ((va_up_ne _ _ (by first | decide | omega)).trans (by assumption))) | exact (va_up_ne _ _ (by first | decide | omega)).trans ((va_up_ne _ _ (by first | decide | omega)).trans ((va_up_ne _ _ (by first | decide | omega)).trans ((va_up_ne _ _ (by first | decide | omega)).trans (by assumption)))) | exact rfl) (by first | assumption | rfl | exact (List.getElem?_set_ne (by decide)).trans (by assumption) | exact List.getElem?_set_self (by omega)) ?_
        refine g_iload_n (pc' := 17) dX4_longestRun_16 rfl rfl ?_
        refine g_ialdV (pc' := 18) dX4_longestRun_17 (by omega) (by first | assumption | exact va_up_self _ _ _ | exact (va_up_ne _ _ (by first | decide | omega)).trans (by assumption) | exact (va_up_ne _ _ (by first | decide | omega)).trans (va_up_self _ _ _) | exact (va_up_ne _ _ (by first | decide | omega)).trans ((va_up_ne _ _ (by first | decide | omega)).trans (by assumption)) | exact (va_up_ne _ _ (by first | decide | omega)).trans ((va_up_ne _ _ (by first | decide | omega)).trans (va_up_self _ _ _)) | exact (va_up_ne _ _ (by first | decide | omega)).trans ((va_up_ne _ _ (by first | decide | omega)).trans ((va_up_ne _ _ (by first | decide | omega)).trans (by assumption))) | exact (va_up_ne _ _ (by first | decide | omega)).trans ((va_up_ne _ _ (by first | decide | omega)).trans ((va_up_ne _ _ (by first | decide | omega)).trans ((va_up_ne _ _ (by first | decide | omega)).trans (by assumption)))) | exact rfl) ((IX_nI (by omega) (by omega))) (hf _ (by omega)) ?_
        refine g_if_leN (tgt := 27) (pc' := 21) dX4_longestRun_18 (by decide) (by first | omega | decide) (fun z2 => ?_) (fun z2 => ?_)
        · refine g_iconst (pc' := 28) (v := nI 0) dX4_longestRun_27 (by decide) ?_
          exact fin 0 (by show (if 0 < c i then aU c i + 1 else 0) = 0; rw [if_neg (by omega)])
        · refine g_iload_n (pc' := 22) dX4_longestRun_21 rfl rfl ?_
          refine g_iconst (pc' := 23) (v := nI 1) dX4_longestRun_22 (by decide) ?_
          first | refine g_iaddN (pc' := 24) dX4_longestRun_23 ?_ | refine g_iadd (pc' := 24) dX4_longestRun_23 ?_
          refine g_goto (tgt := 28) dX4_longestRun_24 (by decide) ?_
          exact fin _ (by show (if 0 < c i then aU c i + 1 else 0) = aU c i + 1; rw [if_pos (by omega)])
  exact loop 6 0 (by omega)
theorem c_sidesShownBy {hp : AH} {n d : Nat} {f : Nat → Int32} {c : Nat → Nat} {Q : Option Value → AH → Nat → Prop} (hn : 64 ≤ n) (hd : d ≤ 2) (c1 : hp 1 = ob 4 [.ref 2]) (c2 : hp 2 = aI 7 f) (hf : ∀ k, k < 6 → f (k + 1) = nI (c k)) (hc : ∀ k, k < 6 → c k ≤ 5) (hq : Q (some (.int (nI (aT d c 6)))) hp n) : CT yX4_sidesShownBy cX4_sidesShownBy 4 (some .int) (rmD 0) [.ref 1, .int (nI d)] hp n Q := by
  show G yX4_sidesShownBy cX4_sidesShownBy 4 (some .int) (rmD 0) none Q 0 0 0 [.ref 1, .int (nI d), uu, uu] [] hp n
  refine g_iconst (pc' := 1) (v := nI 0) dX4_sidesShownBy_0 (by decide) ?_
  refine g_istore_n (pc' := 2) dX4_sidesShownBy_1 rfl (by decide) ?_
  refine g_iconst (pc' := 3) (v := nI 1) dX4_sidesShownBy_2 (by decide) ?_
  refine g_istore_n (pc' := 4) dX4_sidesShownBy_3 rfl (by decide) ?_
  have loop : ∀ k i, i + k = 6 → G yX4_sidesShownBy cX4_sidesShownBy 4 (some .int) (rmD 0) none Q 0 0 4 [.ref 1, .int (nI d), .int (nI (aT d c i)), .int (nI (i + 1))] [] hp n := by
    intro k
    induction k with
    | zero =>
      intro i hi
      have e : i = 6 := by omega
      subst e
      refine g_iload_n (pc' := 5) dX4_sidesShownBy_4 rfl rfl ?_
      refine g_bipush (pc' := 7) (v := nI 6) dX4_sidesShownBy_5 (by decide) ?_
      refine g_icmp_gtN (tgt := 29) (pc' := 10) dX4_sidesShownBy_7 (by decide) (by first | omega | decide) (by first | omega | decide) (fun z1 => ?_) (fun z1 => ?_)
      · refine g_iload_n (pc' := 30) dX4_sidesShownBy_29 rfl rfl ?_
        exact g_iret dX4_sidesShownBy_30 rfl (Nat.le_refl _) (Nat.le_refl _) hq
      · omega
    | succ k ih =>
      intro i hi
      have h4 := hc i (by omega)
      have nxt := ih (i + 1) (by omega)
      rw [show aT d c (i + 1) = aT d c i + (if d ≤ c i then 1 else 0) from rfl] at nxt
      refine g_iload_n (pc' := 5) dX4_sidesShownBy_4 rfl rfl ?_
      refine g_bipush (pc' := 7) (v := nI 6) dX4_sidesShownBy_5 (by decide) ?_
      refine g_icmp_gtN (tgt := 29) (pc' := 10) dX4_sidesShownBy_7 (by decide) (by first | omega | decide) (by first | omega | decide) (fun z1 => ?_) (fun z1 => ?_)
      · omega
      · refine g_aload_n (pc' := 11) dX4_sidesShownBy_10 rfl rfl ?_
        refine g_get (pc' := 14) fl_X4_9 dX4_sidesShownBy_11 (by omega) (by first | assumption | exact va_up_self _ _ _ | exact (va_up_ne _ _ (by first | decide | omega)).trans (by assumption) | exact (va_up_ne _ _ (by first | decide | omega)).trans (va_up_self _ _ _) | exact (va_up_ne _ _ (by first | decide | omega)).trans ((va_up_ne _ _ (by first | decide | omega)).trans (by assumption)) | exact (va_up_ne _ _ (by first | decide | omega)).trans ((va_up_ne _ _ (by first | decide | omega)).trans (va_up_self _ _ _)) | exact (va_up_ne _ _ (by first | decide | omega)).trans ((va_up_ne _ _ (by first | decide | omega)).trans ((va_up_ne _ _ (by first | decide | omega)).trans (by assumption))) | exact (va_up_ne _ _ (by first | decide | omega)).trans ((va_up_ne _ _ (by first | decide | omega)).trans ((va_up_ne _ _ (by first | decide | omega)).trans ((va_up_ne _ _ (by first | decide | omega)).trans (by assumption)))) | exact rfl) (by first | assumption | rfl | exact (List.getElem?_set_ne (by decide)).trans (by assumption) | exact List.getElem?_set_self (by omega)) ?_
        refine g_iload_n (pc' := 15) dX4_sidesShownBy_14 rfl rfl ?_
        refine g_ialdV (pc' := 16) dX4_sidesShownBy_15 (by omega) (by first | assumption | exact va_up_self _ _ _ | exact (va_up_ne _ _ (by first | decide | omega)).trans (by assumption) | exact (va_up_ne _ _ (by first | decide | omega)).trans (va_up_self _ _ _) | exact (va_up_ne _ _ (by first | decide | omega)).trans ((va_up_ne _ _ (by first | decide | omega)).trans (by assumption)) | exact (va_up_ne _ _ (by first | decide | omega)).trans ((va_up_ne _ _ (by first | decide | omega)).trans (va_up_self _ _ _)) | exact (va_up_ne _ _ (by first | decide | omega)).trans ((va_up_ne _ _ (by first | decide | omega)).trans ((va_up_ne _ _ (by first | decide | omega)).trans (by assumption))) | exact (va_up_ne _ _ (by first | decide | omega)).trans ((va_up_ne _ _ (by first | decide | omega)).trans ((va_up_ne _ _ (by first | decide | omega)).trans ((va_up_ne _ _ (by first | decide | omega)).trans (by assumption)))) | exact rfl) ((IX_nI (by omega) (by omega))) (hf _ (by omega)) ?_
        refine g_iload_n (pc' := 17) dX4_sidesShownBy_16 rfl rfl ?_
        refine g_icmp_ltN (tgt := 23) (pc' := 20) dX4_sidesShownBy_17 (by decide) (by first | omega | decide) (by first | omega | decide) (fun z2 => ?_) (fun z2 => ?_)
        · first | refine g_iincN (z := 1) (pc' := 26) dX4_sidesShownBy_23 rfl rfl (by decide) ?_ | refine g_iinc (pc' := 26) dX4_sidesShownBy_23 rfl rfl (by decide) ?_
          refine g_goto (tgt := 4) dX4_sidesShownBy_26 (by decide) ?_
          rw [if_neg (by omega)] at nxt
          exact nxt
        · first | refine g_iincN (z := 1) (pc' := 23) dX4_sidesShownBy_20 rfl rfl (by decide) ?_ | refine g_iinc (pc' := 23) dX4_sidesShownBy_20 rfl rfl (by decide) ?_
          first | refine g_iincN (z := 1) (pc' := 26) dX4_sidesShownBy_23 rfl rfl (by decide) ?_ | refine g_iinc (pc' := 26) dX4_sidesShownBy_23 rfl rfl (by decide) ?_
          refine g_goto (tgt := 4) dX4_sidesShownBy_26 (by decide) ?_
          rw [if_pos (by omega)] at nxt
          exact nxt
  exact loop 6 0 (by omega)
