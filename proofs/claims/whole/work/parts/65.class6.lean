/-! THE CLASS: Heaps, asked -/
def jn (S D : Nat) : Nat → Nat → Nat → Option Nat
  | 0, h, v => if v = 0 then some h else none
  | m + 1, h, v => if 1 ≤ v % 10 ∧ v % 10 ≤ S ∧ sz S h < D then jn S D m (nx S h (v % 10 - 1)) (v / 10) else none
def dgF : Nat → Nat → Nat
  | 0, _ => 0
  | f + 1, v => if v = 0 then 0 else dgF f (v / 10) + 1
theorem dgF_le : ∀ f v, dgF f v ≤ f
  | 0, _ => Nat.le_refl 0
  | f + 1, v => by
    unfold dgF
    split
    · omega
    · have := dgF_le f (v / 10)
      omega
theorem jn_jf {S D : Nat} (h2 : 2 ≤ S) (h6 : S ≤ 6) (hD : D ≤ 5) : ∀ {m h v : Nat}, h < nh S D → sz S h + m = D → jn S D m h v = jf S m h v
  | 0, h, v, _, _ => rfl
  | m + 1, h, v, hh, hz => by
    unfold jn jf
    by_cases c : 1 ≤ v % 10 ∧ v % 10 ≤ S
    · obtain ⟨-, b2, b3, -⟩ := nx_ok h2 h6 hD hh (by omega) (show v % 10 - 1 < S by omega)
      rw [if_pos ⟨c.1, c.2, by omega⟩, if_pos c]
      exact jn_jf h2 h6 hD b2 (by omega)
    · rw [if_neg (fun q => c ⟨q.1, q.2.1⟩), if_neg c]
theorem jn_ho {S D : Nat} (h2 : 2 ≤ S) (h6 : S ≤ 6) (hD : D ≤ 5) : ∀ {f m h v : Nat}, h < nh S D → sz S h + m = D → v < 10 ^ f → jn S D (dgF f v) h v = ho D S m h v
  | 0, m, h, v, hh, hz, hv => by
    have e : v = 0 := by omega
    subst e
    cases m <;> rfl
  | f + 1, m, h, v, hh, hz, hv => by
    unfold dgF
    by_cases e : v = 0
    · subst e
      cases m <;> rfl
    · rw [if_neg e]
      unfold jn
      cases m with
      | zero =>
        rw [if_neg (by omega)]
        unfold ho
        rw [if_neg e]
      | succ m =>
        unfold ho
        rw [if_neg e]
        by_cases c : 1 ≤ v % 10 ∧ v % 10 ≤ S
        · obtain ⟨-, b2, b3, -⟩ := nx_ok h2 h6 hD hh (by omega) (show v % 10 - 1 < S by omega)
          rw [if_pos ⟨c.1, c.2, by omega⟩, if_pos c]
          exact jn_ho h2 h6 hD b2 (by omega) (by rw [Nat.pow_succ] at hv; omega)
        · rw [if_neg (fun q => c ⟨q.1, q.2.1⟩), if_neg c]
theorem c_wholeCount {hp : AH} {n D S : Nat} {Q : Option Value → AH → Nat → Prop} (hn : 64 ≤ n) (h2 : 2 ≤ S) (h6 : S ≤ 6) (hD : D ≤ 5) (T : HT hp D S) (hq : Q (some (.int (nI (nh S D - nh S (D - 1))))) hp n) : CT yX2_wholeCount cX2_wholeCount 1 (some .int) (rmD 0) [.ref 5] hp n Q := by
  obtain ⟨ft, fz, fl, fm, c5, -⟩ := T
  have hm := nh_mono h2 h6 (show D - 1 ≤ D by omega) hD
  show G yX2_wholeCount cX2_wholeCount 1 (some .int) (rmD 0) none Q 0 0 0 [.ref 5] [] hp n
  refine g_aload_n (pc' := 1) dX2_wholeCount_0 rfl rfl ?_
  refine g_get (pc' := 4) fl_X2_31 dX2_wholeCount_1 (by omega) (by first | assumption | exact va_up_self _ _ _ | exact (va_up_ne _ _ (by first | decide | omega)).trans (by assumption) | exact (va_up_ne _ _ (by first | decide | omega)).trans (va_up_self _ _ _) | exact (va_up_ne _ _ (by first | decide | omega)).trans ((va_up_ne _ _ (by first | decide | omega)).trans (by assumption)) | exact (va_up_ne _ _ (by first | decide | omega)).trans ((va_up_ne _ _ (by first | decide | omega)).trans (va_up_self _ _ _)) | exact (va_up_ne _ _ (by first | decide | omega)).trans ((va_up_ne _ _ (by first | decide | omega)).trans ((va_up_ne _ _ (by first | decide | omega)).trans (by assumption))) | exact (va_up_ne _ _ (by first | decide | omega)).trans ((va_up_ne _ _ (by first | decide | omega)).trans ((va_up_ne _ _ (by first | decide | omega)).trans ((va_up_ne _ _ (by first | decide | omega)).trans (by assumption)))) | exact rfl) (by first | assumption | rfl | exact (List.getElem?_set_ne (by decide)).trans (by assumption) | exact List.getElem?_set_self (by omega)) ?_
  refine g_aload_n (pc' := 5) dX2_wholeCount_4 rfl rfl ?_
  refine g_get (pc' := 8) fl_X2_34 dX2_wholeCount_5 (by omega) (by first | assumption | exact va_up_self _ _ _ | exact (va_up_ne _ _ (by first | decide | omega)).trans (by assumption) | exact (va_up_ne _ _ (by first | decide | omega)).trans (va_up_self _ _ _) | exact (va_up_ne _ _ (by first | decide | omega)).trans ((va_up_ne _ _ (by first | decide | omega)).trans (by assumption)) | exact (va_up_ne _ _ (by first | decide | omega)).trans ((va_up_ne _ _ (by first | decide | omega)).trans (va_up_self _ _ _)) | exact (va_up_ne _ _ (by first | decide | omega)).trans ((va_up_ne _ _ (by first | decide | omega)).trans ((va_up_ne _ _ (by first | decide | omega)).trans (by assumption))) | exact (va_up_ne _ _ (by first | decide | omega)).trans ((va_up_ne _ _ (by first | decide | omega)).trans ((va_up_ne _ _ (by first | decide | omega)).trans ((va_up_ne _ _ (by first | decide | omega)).trans (by assumption)))) | exact rfl) (by first | assumption | rfl | exact (List.getElem?_set_ne (by decide)).trans (by assumption) | exact List.getElem?_set_self (by omega)) ?_
  first | refine g_isubN (pc' := 9) dX2_wholeCount_8 (by omega) ?_ | refine g_isub (pc' := 9) dX2_wholeCount_8 ?_
  exact g_iret dX2_wholeCount_9 rfl (Nat.le_refl _) (Nat.le_refl _) hq
theorem c_joined {hp : AH} {n D S h m : Nat} {x : Int32} {Q : Option Value → AH → Nat → Prop} (hn : 64 ≤ n) (h2 : 2 ≤ S) (h6 : S ≤ 6) (hD : D ≤ 5) (T : HT hp D S) (hh : h < nh S D) (hm : m ≤ 10) (hx1 : x < 0 → 1 ≤ m)
    (hq0 : x < 0 → Q (some (.int (-1))) hp n) (hq : ∀ v, v < 2 ^ 31 → x = nI v → Q (some (.int (hoI (jn S D m h v)))) hp n) : CT yX2_joined cX2_joined 8 (some .int) (rmD 1) [.ref 5, .int (nI h), .int x, .int (nI m)] hp n Q := by
  obtain ⟨ft, fz, fl, fm, c5, c6, c7, c8, c9, hT, hTM⟩ := id T
  obtain ⟨hN, hN1⟩ := nh_le h2 h6 hD
  show G yX2_joined cX2_joined 8 (some .int) (rmD 1) none Q 0 0 0 [.ref 5, .int (nI h), .int x, .int (nI m), uu, uu, uu, uu] [] hp n
  refine g_iload_n (pc' := 1) dX2_joined_0 rfl rfl ?_
  refine g_istore (pc' := 3) dX2_joined_1 (by decide) ?_
  refine g_iload_n (pc' := 4) dX2_joined_3 rfl rfl ?_
  refine g_istore (pc' := 6) dX2_joined_4 (by decide) ?_
  refine g_iconst (pc' := 7) (v := nI 0) dX2_joined_6 (by decide) ?_
  refine g_istore (pc' := 9) dX2_joined_7 (by decide) ?_
  by_cases hx : x < 0
  · have hm1 := hx1 hx
    refine g_iload (pc' := 11) dX2_joined_9 rfl ?_
    refine g_iload_n (pc' := 12) dX2_joined_11 rfl rfl ?_
    refine g_icmp_geN (tgt := 78) (pc' := 15) dX2_joined_12 (by decide) (by first | omega | decide) (by first | omega | decide) (fun z1 => ?_) (fun z1 => ?_)
    · omega
    · refine g_iload (pc' := 17) dX2_joined_15 rfl ?_
      refine g_bipush (pc' := 19) (v := nI 10) dX2_joined_17 (by decide) ?_
      refine g_irem (pc' := 20) dX2_joined_19 (by decide) ?_
      refine g_istore (pc' := 22) dX2_joined_20 (by decide) ?_
      refine g_iload (pc' := 24) dX2_joined_22 rfl ?_
      refine g_iconst (pc' := 25) (v := nI 1) dX2_joined_24 (by decide) ?_
      refine g_icmp_lt (tgt := 53) (pc' := 28) dX2_joined_25 (by decide) (fun z2 => ?_) (fun z2 => ?_)
      · refine g_iconst (pc' := 54) (v := -1) dX2_joined_53 (by decide) ?_
        exact g_iret dX2_joined_54 rfl (Nat.le_refl _) (Nat.le_refl _) (hq0 hx)
      · exact absurd (neg_rem hx) z2
  · obtain ⟨v, hv, rfl⟩ := nI_of hx
    have hq' := hq v hv rfl
    have loop : ∀ k i h0 v, v < 2 ^ 31 → i + k = m → h0 < nh S D → Q (some (.int (hoI (jn S D k h0 v)))) hp n → ∀ y, G yX2_joined cX2_joined 8 (some .int) (rmD 1) none Q 0 0 9 [.ref 5, .int (nI h), .int y, .int (nI m), .int (nI h0), .int (nI v), .int (nI i), uu] [] hp n := by
      intro k
      induction k with
      | zero =>
        intro i h0 v hv hi hh0 q y
        refine g_iload (pc' := 11) dX2_joined_9 rfl ?_
        refine g_iload_n (pc' := 12) dX2_joined_11 rfl rfl ?_
        refine g_icmp_geN (tgt := 78) (pc' := 15) dX2_joined_12 (by decide) (by first | omega | decide) (by first | omega | decide) (fun z1 => ?_) (fun z1 => ?_)
        · refine g_iload (pc' := 80) dX2_joined_78 rfl ?_
          refine g_if_neN (tgt := 88) (pc' := 83) dX2_joined_80 (by decide) (by first | omega | decide) (fun z2 => ?_) (fun z2 => ?_)
          · refine g_iconst (pc' := 89) (v := -1) dX2_joined_88 (by decide) ?_
            have e : jn S D 0 h0 v = none := by unfold jn; rw [if_neg z2]
            rw [e] at q
            exact g_iret dX2_joined_89 rfl (Nat.le_refl _) (Nat.le_refl _) q
          · refine g_iload (pc' := 85) dX2_joined_83 rfl ?_
            refine g_goto (tgt := 89) dX2_joined_85 (by decide) ?_
            have e : jn S D 0 h0 v = some h0 := by unfold jn; rw [if_pos z2]
            rw [e] at q
            exact g_iret dX2_joined_89 rfl (Nat.le_refl _) (Nat.le_refl _) q
        · omega
      | succ k ih =>
        intro i h0 v hv hi hh0 q y
        have zl := sz_le S h0
        have out : ¬ (1 ≤ v % 10 ∧ v % 10 ≤ S ∧ sz S h0 < D) → G yX2_joined cX2_joined 8 (some .int) (rmD 1) none Q 0 0 53 [.ref 5, .int (nI h), .int y, .int (nI m), .int (nI h0), .int (nI v), .int (nI i), .int (nI (v % 10))] [] hp n := by
          intro c
          have e : jn S D (k + 1) h0 v = none := by unfold jn; rw [if_neg c]
          rw [e] at q
          refine g_iconst (pc' := 54) (v := -1) dX2_joined_53 (by decide) ?_
          exact g_iret dX2_joined_54 rfl (Nat.le_refl _) (Nat.le_refl _) q
        refine g_iload (pc' := 11) dX2_joined_9 rfl ?_
        refine g_iload_n (pc' := 12) dX2_joined_11 rfl rfl ?_
        refine g_icmp_geN (tgt := 78) (pc' := 15) dX2_joined_12 (by decide) (by first | omega | decide) (by first | omega | decide) (fun z1 => ?_) (fun z1 => ?_)
        · omega
        · refine g_iload (pc' := 17) dX2_joined_15 rfl ?_
          refine g_bipush (pc' := 19) (v := nI 10) dX2_joined_17 (by decide) ?_
          first | refine g_iremN (pc' := 20) dX2_joined_19 (by omega) (by omega) (by omega) ?_ | refine g_irem (pc' := 20) dX2_joined_19 (by decide) ?_
          refine g_istore (pc' := 22) dX2_joined_20 (by decide) ?_
          refine g_iload (pc' := 24) dX2_joined_22 rfl ?_
          refine g_iconst (pc' := 25) (v := nI 1) dX2_joined_24 (by decide) ?_
          refine g_icmp_ltN (tgt := 53) (pc' := 28) dX2_joined_25 (by decide) (by first | omega | decide) (by first | omega | decide) (fun z2 => ?_) (fun z2 => ?_)
          · exact out (by omega)
          · refine g_iload (pc' := 30) dX2_joined_28 rfl ?_
            refine g_aload_n (pc' := 31) dX2_joined_30 rfl rfl ?_
            refine g_get (pc' := 34) fl_X2_28 dX2_joined_31 (by omega) (by first | assumption | exact va_up_self _ _ _ | exact (va_up_ne _ _ (by first | decide | omega)).trans (by assumption) | exact (va_up_ne _ _ (by first | decide | omega)).trans (va_up_self _ _ _) | exact (va_up_ne _ _ (by first | decide | omega)).trans ((va_up_ne _ _ (by first | decide | omega)).trans (by assumption)) | exact (va_up_ne _ _ (by first | decide | omega)).trans ((va_up_ne _ _ (by first | decide | omega)).trans (va_up_self _ _ _)) | exact (va_up_ne _ _ (by first | decide | omega)).trans ((va_up_ne _ _ (by first | decide | omega)).trans ((va_up_ne _ _ (by first | decide | omega)).trans (by assumption))) | exact (va_up_ne _ _ (by first | decide | omega)).trans ((va_up_ne _ _ (by first | decide | omega)).trans ((va_up_ne _ _ (by first | decide | omega)).trans ((va_up_ne _ _ (by first | decide | omega)).trans (by assumption)))) | exact rfl) (by first | assumption | rfl | exact (List.getElem?_set_ne (by decide)).trans (by assumption) | exact List.getElem?_set_self (by omega)) ?_
            refine g_icmp_gtN (tgt := 53) (pc' := 37) dX2_joined_34 (by decide) (by first | omega | decide) (by first | omega | decide) (fun z3 => ?_) (fun z3 => ?_)
            · exact out (by omega)
            · refine g_aload_n (pc' := 38) dX2_joined_37 rfl rfl ?_
              refine g_get (pc' := 41) fl_X2_15 dX2_joined_38 (by omega) (by first | assumption | exact va_up_self _ _ _ | exact (va_up_ne _ _ (by first | decide | omega)).trans (by assumption) | exact (va_up_ne _ _ (by first | decide | omega)).trans (va_up_self _ _ _) | exact (va_up_ne _ _ (by first | decide | omega)).trans ((va_up_ne _ _ (by first | decide | omega)).trans (by assumption)) | exact (va_up_ne _ _ (by first | decide | omega)).trans ((va_up_ne _ _ (by first | decide | omega)).trans (va_up_self _ _ _)) | exact (va_up_ne _ _ (by first | decide | omega)).trans ((va_up_ne _ _ (by first | decide | omega)).trans ((va_up_ne _ _ (by first | decide | omega)).trans (by assumption))) | exact (va_up_ne _ _ (by first | decide | omega)).trans ((va_up_ne _ _ (by first | decide | omega)).trans ((va_up_ne _ _ (by first | decide | omega)).trans ((va_up_ne _ _ (by first | decide | omega)).trans (by assumption)))) | exact rfl) (by first | assumption | rfl | exact (List.getElem?_set_ne (by decide)).trans (by assumption) | exact List.getElem?_set_self (by omega)) ?_
              refine g_iload (pc' := 43) dX2_joined_41 rfl ?_
              refine g_atIN (pc' := 46) cw_X2_53 dX2_joined_43 (by decide) (by decide) (Nat.le_refl _) (Nat.le_refl _) (Nat.le_of_ble_eq_true rfl) (by omega) (by first | assumption | exact va_up_self _ _ _ | exact (va_up_ne _ _ (by first | decide | omega)).trans (by assumption) | exact (va_up_ne _ _ (by first | decide | omega)).trans (va_up_self _ _ _) | exact (va_up_ne _ _ (by first | decide | omega)).trans ((va_up_ne _ _ (by first | decide | omega)).trans (by assumption)) | exact (va_up_ne _ _ (by first | decide | omega)).trans ((va_up_ne _ _ (by first | decide | omega)).trans (va_up_self _ _ _)) | exact (va_up_ne _ _ (by first | decide | omega)).trans ((va_up_ne _ _ (by first | decide | omega)).trans ((va_up_ne _ _ (by first | decide | omega)).trans (by assumption))) | exact (va_up_ne _ _ (by first | decide | omega)).trans ((va_up_ne _ _ (by first | decide | omega)).trans ((va_up_ne _ _ (by first | decide | omega)).trans ((va_up_ne _ _ (by first | decide | omega)).trans (by assumption)))) | exact rfl) (by decide) ((IX_nI (by omega) (by omega))) (hT.2.1 _ hh0) ?_
              refine g_aload_n (pc' := 47) dX2_joined_46 rfl rfl ?_
              refine g_get (pc' := 50) fl_X2_24 dX2_joined_47 (by omega) (by first | assumption | exact va_up_self _ _ _ | exact (va_up_ne _ _ (by first | decide | omega)).trans (by assumption) | exact (va_up_ne _ _ (by first | decide | omega)).trans (va_up_self _ _ _) | exact (va_up_ne _ _ (by first | decide | omega)).trans ((va_up_ne _ _ (by first | decide | omega)).trans (by assumption)) | exact (va_up_ne _ _ (by first | decide | omega)).trans ((va_up_ne _ _ (by first | decide | omega)).trans (va_up_self _ _ _)) | exact (va_up_ne _ _ (by first | decide | omega)).trans ((va_up_ne _ _ (by first | decide | omega)).trans ((va_up_ne _ _ (by first | decide | omega)).trans (by assumption))) | exact (va_up_ne _ _ (by first | decide | omega)).trans ((va_up_ne _ _ (by first | decide | omega)).trans ((va_up_ne _ _ (by first | decide | omega)).trans ((va_up_ne _ _ (by first | decide | omega)).trans (by assumption)))) | exact rfl) (by first | assumption | rfl | exact (List.getElem?_set_ne (by decide)).trans (by assumption) | exact List.getElem?_set_self (by omega)) ?_
              refine g_icmp_ltN (tgt := 55) (pc' := 53) dX2_joined_50 (by decide) (by first | omega | decide) (by first | omega | decide) (fun z4 => ?_) (fun z4 => ?_)
              · have c : 1 ≤ v % 10 ∧ v % 10 ≤ S ∧ sz S h0 < D := ⟨by omega, by omega, z4⟩
                have e : jn S D (k + 1) h0 v = jn S D k (nx S h0 (v % 10 - 1)) (v / 10) := by
                  rw [show jn S D (k + 1) h0 v = if 1 ≤ v % 10 ∧ v % 10 ≤ S ∧ sz S h0 < D then jn S D k (nx S h0 (v % 10 - 1)) (v / 10) else none from rfl, if_pos c]
                rw [e] at q
                refine g_aload_n (pc' := 56) dX2_joined_55 rfl rfl ?_
                refine g_iload (pc' := 58) dX2_joined_56 rfl ?_
                refine g_iload (pc' := 60) dX2_joined_58 rfl ?_
                refine gc_V 63 5 [.int (nI h0), .int (nI (v % 10))] [] cw_X2_50 im_X2_withDie se_X2_withDie dX2_joined_60 (by decide) (by decide) (Nat.le_refl _) (Nat.le_refl _) (Nat.le_of_ble_eq_true rfl) rfl (Nat.le_of_ble_eq_true rfl) (by omega) (by first | assumption | exact va_up_self _ _ _ | exact (va_up_ne _ _ (by first | decide | omega)).trans (by assumption) | exact (va_up_ne _ _ (by first | decide | omega)).trans (va_up_self _ _ _) | exact (va_up_ne _ _ (by first | decide | omega)).trans ((va_up_ne _ _ (by first | decide | omega)).trans (by assumption)) | exact (va_up_ne _ _ (by first | decide | omega)).trans ((va_up_ne _ _ (by first | decide | omega)).trans (va_up_self _ _ _)) | exact (va_up_ne _ _ (by first | decide | omega)).trans ((va_up_ne _ _ (by first | decide | omega)).trans ((va_up_ne _ _ (by first | decide | omega)).trans (by assumption))) | exact (va_up_ne _ _ (by first | decide | omega)).trans ((va_up_ne _ _ (by first | decide | omega)).trans ((va_up_ne _ _ (by first | decide | omega)).trans ((va_up_ne _ _ (by first | decide | omega)).trans (by assumption)))) | exact rfl) rfl rfl (c_withDie (z := sz S h0) (r := nx S h0 (v % 10 - 1)) hn h6 hD c5 c7 c9 hh0 (by omega) (hT.2.1 _ hh0) z4 c.1 c.2.1 (hTM _ _ hh0 z4 (by omega)) ⟨rfl, ?_⟩)
                show G yX2_joined cX2_joined 8 (some .int) (rmD 1) none Q 0 0 63 [.ref 5, .int (nI h), .int y, .int (nI m), .int (nI h0), .int (nI v), .int (nI i), .int (nI (v % 10))] [.int (nI (nx S h0 (v % 10 - 1)))] hp n
                refine g_istore (pc' := 65) dX2_joined_63 (by decide) ?_
                refine g_iload (pc' := 67) dX2_joined_65 rfl ?_
                refine g_bipush (pc' := 69) (v := nI 10) dX2_joined_67 (by decide) ?_
                first | refine g_idivN (pc' := 70) dX2_joined_69 (by omega) (by omega) (by omega) ?_ | refine g_idiv (pc' := 70) dX2_joined_69 (by decide) ?_
                refine g_istore (pc' := 72) dX2_joined_70 (by decide) ?_
                first | refine g_iincN (z := 1) (pc' := 75) dX2_joined_72 rfl rfl (by decide) ?_ | refine g_iinc (pc' := 75) dX2_joined_72 rfl rfl (by decide) ?_
                refine g_goto (tgt := 9) dX2_joined_75 (by decide) ?_
                exact g_fg (by repeat (first | exact trivial | refine ⟨Or.inr rfl, ?_⟩ | refine ⟨Or.inl rfl, ?_⟩)) (ih (i + 1) _ _ (by omega) (by omega) (nx_ok h2 h6 hD hh0 z4 (show v % 10 - 1 < S by omega)).2.1 q y)
              · exact out (by omega)
    exact loop m 0 h v hv (by omega) hh hq' _
theorem c_figuresOf {hp : AH} {n : Nat} {x : Int32} {Q : Option Value → AH → Nat → Prop} (hq0 : x < 0 → ∀ m, 1 ≤ m → m ≤ 10 → Q (some (.int (nI m))) hp n) (hq : ∀ v, v < 2 ^ 31 → x = nI v → Q (some (.int (nI (dgF 10 v)))) hp n) : CT yX2_figuresOf cX2_figuresOf 4 (some .int) (rmD 0) [.int x] hp n Q := by
  show G yX2_figuresOf cX2_figuresOf 4 (some .int) (rmD 0) none Q 0 0 0 [.int x, uu, uu, uu] [] hp n
  refine g_iconst (pc' := 1) (v := nI 0) dX2_figuresOf_0 (by decide) ?_
  refine g_istore_n (pc' := 2) dX2_figuresOf_1 rfl (by decide) ?_
  refine g_iload_n (pc' := 3) dX2_figuresOf_2 rfl rfl ?_
  refine g_istore_n (pc' := 4) dX2_figuresOf_3 rfl (by decide) ?_
  refine g_iconst (pc' := 5) (v := nI 0) dX2_figuresOf_4 (by decide) ?_
  refine g_istore_n (pc' := 6) dX2_figuresOf_5 rfl (by decide) ?_
  by_cases hx : x < 0
  · have q0 := hq0 hx
    have loop : ∀ k i, i + k = 10 → ∀ y : Int32, (i = 0 → ¬ y = 0) → G yX2_figuresOf cX2_figuresOf 4 (some .int) (rmD 0) none Q 0 0 6 [.int x, .int (nI i), .int y, .int (nI i)] [] hp n := by
      intro k
      induction k with
      | zero =>
        intro i hi y hy
        refine g_iload_n (pc' := 7) dX2_figuresOf_6 rfl rfl ?_
        refine g_bipush (pc' := 9) (v := nI 10) dX2_figuresOf_7 (by decide) ?_
        refine g_icmp_geN (tgt := 30) (pc' := 12) dX2_figuresOf_9 (by decide) (by first | omega | decide) (by first | omega | decide) (fun z1 => ?_) (fun z1 => ?_)
        · refine g_iload_n (pc' := 31) dX2_figuresOf_30 rfl rfl ?_
          exact g_iret dX2_figuresOf_31 rfl (Nat.le_refl _) (Nat.le_refl _) (q0 i (by omega) (by omega))
        · omega
      | succ k ih =>
        intro i hi y hy
        refine g_iload_n (pc' := 7) dX2_figuresOf_6 rfl rfl ?_
        refine g_bipush (pc' := 9) (v := nI 10) dX2_figuresOf_7 (by decide) ?_
        refine g_icmp_geN (tgt := 30) (pc' := 12) dX2_figuresOf_9 (by decide) (by first | omega | decide) (by first | omega | decide) (fun z1 => ?_) (fun z1 => ?_)
        · omega
        · refine g_iload_n (pc' := 13) dX2_figuresOf_12 rfl rfl ?_
          refine g_if_eq (tgt := 30) (pc' := 16) dX2_figuresOf_13 (by decide) (fun z2 => ?_) (fun z2 => ?_)
          · refine g_iload_n (pc' := 31) dX2_figuresOf_30 rfl rfl ?_
            exact g_iret dX2_figuresOf_31 rfl (Nat.le_refl _) (Nat.le_refl _) (q0 i (by rcases Nat.eq_zero_or_pos i with q | q; exact absurd z2 (hy q); exact q) (by omega))
          · refine g_iload_n (pc' := 17) dX2_figuresOf_16 rfl rfl ?_
            refine g_bipush (pc' := 19) (v := nI 10) dX2_figuresOf_17 (by decide) ?_
            refine g_idiv (pc' := 20) dX2_figuresOf_19 (by decide) ?_
            refine g_istore_n (pc' := 21) dX2_figuresOf_20 rfl (by decide) ?_
            first | refine g_iincN (z := 1) (pc' := 24) dX2_figuresOf_21 rfl rfl (by decide) ?_ | refine g_iinc (pc' := 24) dX2_figuresOf_21 rfl rfl (by decide) ?_
            first | refine g_iincN (z := 1) (pc' := 27) dX2_figuresOf_24 rfl rfl (by decide) ?_ | refine g_iinc (pc' := 27) dX2_figuresOf_24 rfl rfl (by decide) ?_
            refine g_goto (tgt := 6) dX2_figuresOf_27 (by decide) ?_
            exact ih (i + 1) (by omega) _ (fun q => by omega)
    exact loop 10 0 (by omega) x (fun _ e => by rw [e] at hx; exact absurd hx (by decide))
  · obtain ⟨v, hv, rfl⟩ := nI_of hx
    have q0 := hq v hv rfl
    have loop : ∀ k i v, v < 2 ^ 31 → i + k = 10 → Q (some (.int (nI (i + dgF k v)))) hp n → ∀ y, G yX2_figuresOf cX2_figuresOf 4 (some .int) (rmD 0) none Q 0 0 6 [.int y, .int (nI i), .int (nI v), .int (nI i)] [] hp n := by
      intro k
      induction k with
      | zero =>
        intro i v hv hi q y
        refine g_iload_n (pc' := 7) dX2_figuresOf_6 rfl rfl ?_
        refine g_bipush (pc' := 9) (v := nI 10) dX2_figuresOf_7 (by decide) ?_
        refine g_icmp_geN (tgt := 30) (pc' := 12) dX2_figuresOf_9 (by decide) (by first | omega | decide) (by first | omega | decide) (fun z1 => ?_) (fun z1 => ?_)
        · refine g_iload_n (pc' := 31) dX2_figuresOf_30 rfl rfl ?_
          exact g_iret dX2_figuresOf_31 rfl (Nat.le_refl _) (Nat.le_refl _) q
        · omega
      | succ k ih =>
        intro i v hv hi q y
        refine g_iload_n (pc' := 7) dX2_figuresOf_6 rfl rfl ?_
        refine g_bipush (pc' := 9) (v := nI 10) dX2_figuresOf_7 (by decide) ?_
        refine g_icmp_geN (tgt := 30) (pc' := 12) dX2_figuresOf_9 (by decide) (by first | omega | decide) (by first | omega | decide) (fun z1 => ?_) (fun z1 => ?_)
        · omega
        · refine g_iload_n (pc' := 13) dX2_figuresOf_12 rfl rfl ?_
          refine g_if_eqN (tgt := 30) (pc' := 16) dX2_figuresOf_13 (by decide) (by first | omega | decide) (fun z2 => ?_) (fun z2 => ?_)
          · refine g_iload_n (pc' := 31) dX2_figuresOf_30 rfl rfl ?_
            have e : dgF (k + 1) v = 0 := by unfold dgF; rw [if_pos z2]
            rw [e] at q
            exact g_iret dX2_figuresOf_31 rfl (Nat.le_refl _) (Nat.le_refl _) q
          · have e : dgF (k + 1) v = dgF k (v / 10) + 1 := by
              rw [show dgF (k + 1) v = if v = 0 then 0 else dgF k (v / 10) + 1 from rfl, if_neg z2]
            rw [e, show i + (dgF k (v / 10) + 1) = i + 1 + dgF k (v / 10) by omega] at q
            refine g_iload_n (pc' := 17) dX2_figuresOf_16 rfl rfl ?_
            refine g_bipush (pc' := 19) (v := nI 10) dX2_figuresOf_17 (by decide) ?_
            first | refine g_idivN (pc' := 20) dX2_figuresOf_19 (by omega) (by omega) (by omega) ?_ | refine g_idiv (pc' := 20) dX2_figuresOf_19 (by decide) ?_
            refine g_istore_n (pc' := 21) dX2_figuresOf_20 rfl (by decide) ?_
            first | refine g_iincN (z := 1) (pc' := 24) dX2_figuresOf_21 rfl rfl (by decide) ?_ | refine g_iinc (pc' := 24) dX2_figuresOf_21 rfl rfl (by decide) ?_
            first | refine g_iincN (z := 1) (pc' := 27) dX2_figuresOf_24 rfl rfl (by decide) ?_ | refine g_iinc (pc' := 27) dX2_figuresOf_24 rfl rfl (by decide) ?_
            refine g_goto (tgt := 6) dX2_figuresOf_27 (by decide) ?_
            exact ih (i + 1) (v / 10) (by omega) (by omega) q y
    exact loop 10 0 v hv (by omega) (by rw [Nat.zero_add]; exact q0) _
theorem c_holdsAll {hp : AH} {n D S h g : Nat} {Q : Option Value → AH → Nat → Prop} (hn : 64 ≤ n) (h2 : 2 ≤ S) (h6 : S ≤ 6) (hD : D ≤ 5) (T : HT hp D S) (hh : h < nh S D) (hg : g < nh S D) (hq : Q (some (.int (nI (bI (ptb S g h))))) hp n) : CT yX2_holdsAll cX2_holdsAll 6 (some .boolean) (rmD 1) [.ref 5, .int (nI h), .int (nI g)] hp n Q := by
  obtain ⟨ft, fz, fl, fm, c5, c6, c7, c8, c9, hT, hTM⟩ := id T
  obtain ⟨hN, hN1⟩ := nh_le h2 h6 hD
  have hN5 := nh_mono h2 h6 hD (Nat.le_refl 5)
  have t1 := td_lt h2 h6 (show h < nh S 5 by omega)
  have t2 := td_lt h2 h6 (show g < nh S 5 by omega)
  rw [← grd_pt h2 h6 5 (show h < nh S 5 by omega) (show g < nh S 5 by omega) (sz_le S h)] at hq
  show G yX2_holdsAll cX2_holdsAll 6 (some .boolean) (rmD 1) none Q 0 0 0 [.ref 5, .int (nI h), .int (nI g), uu, uu, uu] [] hp n
  refine g_aload_n (pc' := 1) dX2_holdsAll_0 rfl rfl ?_
  refine g_get (pc' := 4) fl_X2_9 dX2_holdsAll_1 (by omega) (by first | assumption | exact va_up_self _ _ _ | exact (va_up_ne _ _ (by first | decide | omega)).trans (by assumption) | exact (va_up_ne _ _ (by first | decide | omega)).trans (va_up_self _ _ _) | exact (va_up_ne _ _ (by first | decide | omega)).trans ((va_up_ne _ _ (by first | decide | omega)).trans (by assumption)) | exact (va_up_ne _ _ (by first | decide | omega)).trans ((va_up_ne _ _ (by first | decide | omega)).trans (va_up_self _ _ _)) | exact (va_up_ne _ _ (by first | decide | omega)).trans ((va_up_ne _ _ (by first | decide | omega)).trans ((va_up_ne _ _ (by first | decide | omega)).trans (by assumption))) | exact (va_up_ne _ _ (by first | decide | omega)).trans ((va_up_ne _ _ (by first | decide | omega)).trans ((va_up_ne _ _ (by first | decide | omega)).trans ((va_up_ne _ _ (by first | decide | omega)).trans (by assumption)))) | exact rfl) (by first | assumption | rfl | exact (List.getElem?_set_ne (by decide)).trans (by assumption) | exact List.getElem?_set_self (by omega)) ?_
  refine g_iload_n (pc' := 5) dX2_holdsAll_4 rfl rfl ?_
  refine g_atIN (pc' := 8) cw_X2_53 dX2_holdsAll_5 (by decide) (by decide) (Nat.le_refl _) (Nat.le_refl _) (Nat.le_of_ble_eq_true rfl) (by omega) (by first | assumption | exact va_up_self _ _ _ | exact (va_up_ne _ _ (by first | decide | omega)).trans (by assumption) | exact (va_up_ne _ _ (by first | decide | omega)).trans (va_up_self _ _ _) | exact (va_up_ne _ _ (by first | decide | omega)).trans ((va_up_ne _ _ (by first | decide | omega)).trans (by assumption)) | exact (va_up_ne _ _ (by first | decide | omega)).trans ((va_up_ne _ _ (by first | decide | omega)).trans (va_up_self _ _ _)) | exact (va_up_ne _ _ (by first | decide | omega)).trans ((va_up_ne _ _ (by first | decide | omega)).trans ((va_up_ne _ _ (by first | decide | omega)).trans (by assumption))) | exact (va_up_ne _ _ (by first | decide | omega)).trans ((va_up_ne _ _ (by first | decide | omega)).trans ((va_up_ne _ _ (by first | decide | omega)).trans ((va_up_ne _ _ (by first | decide | omega)).trans (by assumption)))) | exact rfl) (by decide) ((IX_nI (by omega) (by omega))) (hT.1 _ hg) ?_
  refine g_istore_n (pc' := 9) dX2_holdsAll_8 rfl (by decide) ?_
  refine g_aload_n (pc' := 10) dX2_holdsAll_9 rfl rfl ?_
  refine g_get (pc' := 13) fl_X2_9 dX2_holdsAll_10 (by omega) (by first | assumption | exact va_up_self _ _ _ | exact (va_up_ne _ _ (by first | decide | omega)).trans (by assumption) | exact (va_up_ne _ _ (by first | decide | omega)).trans (va_up_self _ _ _) | exact (va_up_ne _ _ (by first | decide | omega)).trans ((va_up_ne _ _ (by first | decide | omega)).trans (by assumption)) | exact (va_up_ne _ _ (by first | decide | omega)).trans ((va_up_ne _ _ (by first | decide | omega)).trans (va_up_self _ _ _)) | exact (va_up_ne _ _ (by first | decide | omega)).trans ((va_up_ne _ _ (by first | decide | omega)).trans ((va_up_ne _ _ (by first | decide | omega)).trans (by assumption))) | exact (va_up_ne _ _ (by first | decide | omega)).trans ((va_up_ne _ _ (by first | decide | omega)).trans ((va_up_ne _ _ (by first | decide | omega)).trans ((va_up_ne _ _ (by first | decide | omega)).trans (by assumption)))) | exact rfl) (by first | assumption | rfl | exact (List.getElem?_set_ne (by decide)).trans (by assumption) | exact List.getElem?_set_self (by omega)) ?_
  refine g_iload_n (pc' := 14) dX2_holdsAll_13 rfl rfl ?_
  refine g_atIN (pc' := 17) cw_X2_53 dX2_holdsAll_14 (by decide) (by decide) (Nat.le_refl _) (Nat.le_refl _) (Nat.le_of_ble_eq_true rfl) (by omega) (by first | assumption | exact va_up_self _ _ _ | exact (va_up_ne _ _ (by first | decide | omega)).trans (by assumption) | exact (va_up_ne _ _ (by first | decide | omega)).trans (va_up_self _ _ _) | exact (va_up_ne _ _ (by first | decide | omega)).trans ((va_up_ne _ _ (by first | decide | omega)).trans (by assumption)) | exact (va_up_ne _ _ (by first | decide | omega)).trans ((va_up_ne _ _ (by first | decide | omega)).trans (va_up_self _ _ _)) | exact (va_up_ne _ _ (by first | decide | omega)).trans ((va_up_ne _ _ (by first | decide | omega)).trans ((va_up_ne _ _ (by first | decide | omega)).trans (by assumption))) | exact (va_up_ne _ _ (by first | decide | omega)).trans ((va_up_ne _ _ (by first | decide | omega)).trans ((va_up_ne _ _ (by first | decide | omega)).trans ((va_up_ne _ _ (by first | decide | omega)).trans (by assumption)))) | exact rfl) (by decide) ((IX_nI (by omega) (by omega))) (hT.1 _ hh) ?_
  refine g_istore (pc' := 19) dX2_holdsAll_17 (by decide) ?_
  refine g_iconst (pc' := 20) (v := nI 0) dX2_holdsAll_19 (by decide) ?_
  refine g_istore (pc' := 22) dX2_holdsAll_20 (by decide) ?_
  have fin : ∀ b q r i, b = decide (q = 0) → q < 2 ^ 31 → Q (some (.int (nI (bI b)))) hp n → G yX2_holdsAll cX2_holdsAll 6 (some .boolean) (rmD 1) none Q 0 0 62 [.ref 5, .int (nI h), .int (nI g), .int (nI q), .int (nI r), .int (nI i)] [] hp n := by
    intro b q r i hb hq2 hQ
    refine g_iload_n (pc' := 63) dX2_holdsAll_62 rfl rfl ?_
    refine g_if_neN (tgt := 70) (pc' := 66) dX2_holdsAll_63 (by decide) (by first | omega | decide) (fun z1 => ?_) (fun z1 => ?_)
    · refine g_iconst (pc' := 71) (v := nI 0) dX2_holdsAll_70 (by decide) ?_
      rw [hb, decide_eq_false z1] at hQ
      exact g_zret dX2_holdsAll_71 rfl (by decide) (Nat.le_refl _) (Nat.le_refl _) hQ
    · refine g_iconst (pc' := 67) (v := nI 1) dX2_holdsAll_66 (by decide) ?_
      refine g_goto (tgt := 71) dX2_holdsAll_67 (by decide) ?_
      rw [hb, decide_eq_true z1] at hQ
      exact g_zret dX2_holdsAll_71 rfl (by decide) (Nat.le_refl _) (Nat.le_refl _) hQ
  have loop : ∀ f i r q, i + f = 5 → r < 2 ^ 31 → q < 2 ^ 31 → Q (some (.int (nI (bI (grd f r q))))) hp n → G yX2_holdsAll cX2_holdsAll 6 (some .boolean) (rmD 1) none Q 0 0 22 [.ref 5, .int (nI h), .int (nI g), .int (nI q), .int (nI r), .int (nI i)] [] hp n := by
    intro f
    induction f with
    | zero =>
      intro i r q hi hr hq2 hQ
      refine g_iload (pc' := 24) dX2_holdsAll_22 rfl ?_
      refine g_iconst (pc' := 25) (v := nI 5) dX2_holdsAll_24 (by decide) ?_
      refine g_icmp_geN (tgt := 62) (pc' := 28) dX2_holdsAll_25 (by decide) (by first | omega | decide) (by first | omega | decide) (fun z1 => ?_) (fun z1 => ?_)
      · exact fin _ q r i rfl hq2 hQ
      · omega
    | succ f ih =>
      intro i r q hi hr hq2 hQ
      refine g_iload (pc' := 24) dX2_holdsAll_22 rfl ?_
      refine g_iconst (pc' := 25) (v := nI 5) dX2_holdsAll_24 (by decide) ?_
      refine g_icmp_geN (tgt := 62) (pc' := 28) dX2_holdsAll_25 (by decide) (by first | omega | decide) (by first | omega | decide) (fun z1 => ?_) (fun z1 => ?_)
      · omega
      · refine g_iload_n (pc' := 29) dX2_holdsAll_28 rfl rfl ?_
        refine g_if_eqN (tgt := 62) (pc' := 32) dX2_holdsAll_29 (by decide) (by first | omega | decide) (fun z2 => ?_) (fun z2 => ?_)
        · have e : grd (f + 1) r q = true := by unfold grd; rw [if_pos z2]
          rw [e] at hQ
          exact fin true q r i (decide_eq_true z2).symm hq2 hQ
        · have e : grd (f + 1) r q = grd f (r / 10) (if r % 10 = q % 10 then q / 10 else q) := by
            rw [show grd (f + 1) r q = if q = 0 then true else grd f (r / 10) (if r % 10 = q % 10 then q / 10 else q) from rfl, if_neg z2]
          rw [e] at hQ
          refine g_iload (pc' := 34) dX2_holdsAll_32 rfl ?_
          refine g_bipush (pc' := 36) (v := nI 10) dX2_holdsAll_34 (by decide) ?_
          first | refine g_iremN (pc' := 37) dX2_holdsAll_36 (by omega) (by omega) (by omega) ?_ | refine g_irem (pc' := 37) dX2_holdsAll_36 (by decide) ?_
          refine g_iload_n (pc' := 38) dX2_holdsAll_37 rfl rfl ?_
          refine g_bipush (pc' := 40) (v := nI 10) dX2_holdsAll_38 (by decide) ?_
          first | refine g_iremN (pc' := 41) dX2_holdsAll_40 (by omega) (by omega) (by omega) ?_ | refine g_irem (pc' := 41) dX2_holdsAll_40 (by decide) ?_
          refine g_icmp_neN (tgt := 49) (pc' := 44) dX2_holdsAll_41 (by decide) (by first | omega | decide) (by first | omega | decide) (fun z3 => ?_) (fun z3 => ?_)
          · rw [if_neg z3] at hQ
            refine g_iload (pc' := 51) dX2_holdsAll_49 rfl ?_
            refine g_bipush (pc' := 53) (v := nI 10) dX2_holdsAll_51 (by decide) ?_
            first | refine g_idivN (pc' := 54) dX2_holdsAll_53 (by omega) (by omega) (by omega) ?_ | refine g_idiv (pc' := 54) dX2_holdsAll_53 (by decide) ?_
            refine g_istore (pc' := 56) dX2_holdsAll_54 (by decide) ?_
            first | refine g_iincN (z := 1) (pc' := 59) dX2_holdsAll_56 rfl rfl (by decide) ?_ | refine g_iinc (pc' := 59) dX2_holdsAll_56 rfl rfl (by decide) ?_
            refine g_goto (tgt := 22) dX2_holdsAll_59 (by decide) ?_
            exact ih (i + 1) (r / 10) q (by omega) (by omega) hq2 hQ
          · rw [if_pos z3] at hQ
            refine g_iload_n (pc' := 45) dX2_holdsAll_44 rfl rfl ?_
            refine g_bipush (pc' := 47) (v := nI 10) dX2_holdsAll_45 (by decide) ?_
            first | refine g_idivN (pc' := 48) dX2_holdsAll_47 (by omega) (by omega) (by omega) ?_ | refine g_idiv (pc' := 48) dX2_holdsAll_47 (by decide) ?_
            refine g_istore_n (pc' := 49) dX2_holdsAll_48 rfl (by decide) ?_
            refine g_iload (pc' := 51) dX2_holdsAll_49 rfl ?_
            refine g_bipush (pc' := 53) (v := nI 10) dX2_holdsAll_51 (by decide) ?_
            first | refine g_idivN (pc' := 54) dX2_holdsAll_53 (by omega) (by omega) (by omega) ?_ | refine g_idiv (pc' := 54) dX2_holdsAll_53 (by decide) ?_
            refine g_istore (pc' := 56) dX2_holdsAll_54 (by decide) ?_
            first | refine g_iincN (z := 1) (pc' := 59) dX2_holdsAll_56 rfl rfl (by decide) ?_ | refine g_iinc (pc' := 59) dX2_holdsAll_56 rfl rfl (by decide) ?_
            refine g_goto (tgt := 22) dX2_holdsAll_59 (by decide) ?_
            exact ih (i + 1) (r / 10) (q / 10) (by omega) (by omega) (by omega) hQ
  exact loop 5 0 (td S h) (td S g) (by omega) t1 t2 hq
theorem c_partOf {hp : AH} {n D S h : Nat} {x : Int32} {Q : Option Value → AH → Nat → Prop} (hn : 64 ≤ n) (h2 : 2 ≤ S) (h6 : S ≤ 6) (hD : D ≤ 5) (T : HT hp D S) (hh : h < nh S D) (hq : Q (some (.int (hoI (helN D S h x)))) hp n) : CT yX2_partOf cX2_partOf 4 (some .int) (rmD 2) [.ref 5, .int (nI h), .int x] hp n Q := by
  obtain ⟨ft, fz, fl, fm, c5, -⟩ := id T
  obtain ⟨hN, hN1⟩ := nh_le h2 h6 hD
  show G yX2_partOf cX2_partOf 4 (some .int) (rmD 2) none Q 0 0 0 [.ref 5, .int (nI h), .int x, uu] [] hp n
  refine g_aload_n (pc' := 1) dX2_partOf_0 rfl rfl ?_
  refine g_iconst (pc' := 2) (v := nI 0) dX2_partOf_1 (by decide) ?_
  refine g_iload_n (pc' := 3) dX2_partOf_2 rfl rfl ?_
  refine g_iload_n (pc' := 4) dX2_partOf_3 rfl rfl ?_
  have no : helN D S h x = none → ∀ w, G yX2_partOf cX2_partOf 4 (some .int) (rmD 2) none Q 0 0 29 [.ref 5, .int (nI h), .int x, w] [] hp n := by
    intro e w
    rw [e] at hq
    refine g_iconst (pc' := 30) (v := -1) dX2_partOf_29 (by decide) ?_
    exact g_iret dX2_partOf_30 rfl (Nat.le_refl _) (Nat.le_refl _) hq
  by_cases hx : x < 0
  · have en : helN D S h x = none := by unfold helN; rw [if_pos hx]
    refine gc_S 7 [.int x] [.int x, .int (nI 0), .ref 5] cw_X2_57 sm_X2_figuresOf dX2_partOf_4 (by decide) (by decide) (Nat.le_refl _) (Nat.le_refl _) (Nat.le_of_ble_eq_true rfl) rfl (Nat.le_of_ble_eq_true rfl) (c_figuresOf (fun _ m m1 m10 => ⟨rfl, ?_⟩) (fun v hv e => absurd hx (by rw [e]; exact nI_pos hv)))
    refine gc_V 10 5 [.int (nI 0), .int x, .int (nI m)] [] cw_X2_61 im_X2_joined se_X2_joined dX2_partOf_7 (by decide) (by decide) (Nat.le_refl _) (Nat.le_refl _) (Nat.le_of_ble_eq_true rfl) rfl (Nat.le_of_ble_eq_true rfl) (by omega) (by first | assumption | exact va_up_self _ _ _ | exact (va_up_ne _ _ (by first | decide | omega)).trans (by assumption) | exact (va_up_ne _ _ (by first | decide | omega)).trans (va_up_self _ _ _) | exact (va_up_ne _ _ (by first | decide | omega)).trans ((va_up_ne _ _ (by first | decide | omega)).trans (by assumption)) | exact (va_up_ne _ _ (by first | decide | omega)).trans ((va_up_ne _ _ (by first | decide | omega)).trans (va_up_self _ _ _)) | exact (va_up_ne _ _ (by first | decide | omega)).trans ((va_up_ne _ _ (by first | decide | omega)).trans ((va_up_ne _ _ (by first | decide | omega)).trans (by assumption))) | exact (va_up_ne _ _ (by first | decide | omega)).trans ((va_up_ne _ _ (by first | decide | omega)).trans ((va_up_ne _ _ (by first | decide | omega)).trans ((va_up_ne _ _ (by first | decide | omega)).trans (by assumption)))) | exact rfl) rfl rfl (c_joined hn h2 h6 hD T hN1 m10 (fun _ => m1) (fun _ => ⟨rfl, ?_⟩) (fun v hv e => absurd hx (by rw [e]; exact nI_pos hv)))
    show G yX2_partOf cX2_partOf 4 (some .int) (rmD 2) none Q 0 0 10 [.ref 5, .int (nI h), .int x, uu] [.int (-1)] hp n
    refine g_istore_n (pc' := 11) dX2_partOf_10 rfl (by decide) ?_
    refine g_iload_n (pc' := 12) dX2_partOf_11 rfl rfl ?_
    refine g_iconst (pc' := 13) (v := -1) dX2_partOf_12 (by decide) ?_
    refine g_icmp_eq (tgt := 29) (pc' := 16) dX2_partOf_13 (by decide) (fun z1 => ?_) (fun z1 => ?_)
    · exact no en _
    · exact absurd rfl z1
  · obtain ⟨v, hv, rfl⟩ := nI_of hx
    have ej : jn S D (dgF 10 v) 0 v = ho D S D 0 v := jn_ho h2 h6 hD hN1 (by rw [sz_0]; omega) (by omega)
    have eh : helN D S h (nI v) = match ho D S D 0 v with | none => none | some g => if ptb S g h then some g else none := by
      unfold helN
      rw [if_neg hx, nI_clamp hv]
      cases ho D S D 0 v <;> rfl
    refine gc_S 7 [.int (nI v)] [.int (nI v), .int (nI 0), .ref 5] cw_X2_57 sm_X2_figuresOf dX2_partOf_4 (by decide) (by decide) (Nat.le_refl _) (Nat.le_refl _) (Nat.le_of_ble_eq_true rfl) rfl (Nat.le_of_ble_eq_true rfl) (c_figuresOf (fun q => absurd q hx) (fun v' hv' e => ⟨rfl, ?_⟩))
    have ev : v = v' := (nI_eq hv hv').mp e
    subst ev
    refine gc_V 10 5 [.int (nI 0), .int (nI v), .int (nI (dgF 10 v))] [] cw_X2_61 im_X2_joined se_X2_joined dX2_partOf_7 (by decide) (by decide) (Nat.le_refl _) (Nat.le_refl _) (Nat.le_of_ble_eq_true rfl) rfl (Nat.le_of_ble_eq_true rfl) (by omega) (by first | assumption | exact va_up_self _ _ _ | exact (va_up_ne _ _ (by first | decide | omega)).trans (by assumption) | exact (va_up_ne _ _ (by first | decide | omega)).trans (va_up_self _ _ _) | exact (va_up_ne _ _ (by first | decide | omega)).trans ((va_up_ne _ _ (by first | decide | omega)).trans (by assumption)) | exact (va_up_ne _ _ (by first | decide | omega)).trans ((va_up_ne _ _ (by first | decide | omega)).trans (va_up_self _ _ _)) | exact (va_up_ne _ _ (by first | decide | omega)).trans ((va_up_ne _ _ (by first | decide | omega)).trans ((va_up_ne _ _ (by first | decide | omega)).trans (by assumption))) | exact (va_up_ne _ _ (by first | decide | omega)).trans ((va_up_ne _ _ (by first | decide | omega)).trans ((va_up_ne _ _ (by first | decide | omega)).trans ((va_up_ne _ _ (by first | decide | omega)).trans (by assumption)))) | exact rfl) rfl rfl (c_joined hn h2 h6 hD T hN1 (dgF_le 10 v) (fun q => absurd q hx) (fun q => absurd q hx) (fun v' hv' e => ⟨rfl, ?_⟩))
    have ev : v = v' := (nI_eq hv hv').mp e
    subst ev
    rw [ej]
    cases hg : ho D S D 0 v with
    | none =>
      rw [hg] at eh
      show G yX2_partOf cX2_partOf 4 (some .int) (rmD 2) none Q 0 0 10 [.ref 5, .int (nI h), .int (nI v), uu] [.int (-1)] hp n
      refine g_istore_n (pc' := 11) dX2_partOf_10 rfl (by decide) ?_
      refine g_iload_n (pc' := 12) dX2_partOf_11 rfl rfl ?_
      refine g_iconst (pc' := 13) (v := -1) dX2_partOf_12 (by decide) ?_
      refine g_icmp_eq (tgt := 29) (pc' := 16) dX2_partOf_13 (by decide) (fun z1 => ?_) (fun z1 => ?_)
      · exact no eh _
      · exact absurd rfl z1
    | some g =>
      rw [hg] at eh
      have hgl := ho_ok h2 h6 hD hN1 (by rw [sz_0]; omega) hg
      have b1 := bI_le (ptb S g h)
      show G yX2_partOf cX2_partOf 4 (some .int) (rmD 2) none Q 0 0 10 [.ref 5, .int (nI h), .int (nI v), uu] [.int (nI g)] hp n
      refine g_istore_n (pc' := 11) dX2_partOf_10 rfl (by decide) ?_
      refine g_iload_n (pc' := 12) dX2_partOf_11 rfl rfl ?_
      refine g_iconst (pc' := 13) (v := -1) dX2_partOf_12 (by decide) ?_
      refine g_icmp_eq (tgt := 29) (pc' := 16) dX2_partOf_13 (by decide) (fun z1 => ?_) (fun z1 => ?_)
      · exact absurd z1 (nI_nm1 (by omega))
      · refine g_aload_n (pc' := 17) dX2_partOf_16 rfl rfl ?_
        refine g_iload_n (pc' := 18) dX2_partOf_17 rfl rfl ?_
        refine g_iload_n (pc' := 19) dX2_partOf_18 rfl rfl ?_
        refine gc_V 22 5 [.int (nI h), .int (nI g)] [] cw_X2_65 im_X2_holdsAll se_X2_holdsAll dX2_partOf_19 (by decide) (by decide) (Nat.le_refl _) (Nat.le_refl _) (Nat.le_of_ble_eq_true rfl) rfl (Nat.le_of_ble_eq_true rfl) (by omega) (by first | assumption | exact va_up_self _ _ _ | exact (va_up_ne _ _ (by first | decide | omega)).trans (by assumption) | exact (va_up_ne _ _ (by first | decide | omega)).trans (va_up_self _ _ _) | exact (va_up_ne _ _ (by first | decide | omega)).trans ((va_up_ne _ _ (by first | decide | omega)).trans (by assumption)) | exact (va_up_ne _ _ (by first | decide | omega)).trans ((va_up_ne _ _ (by first | decide | omega)).trans (va_up_self _ _ _)) | exact (va_up_ne _ _ (by first | decide | omega)).trans ((va_up_ne _ _ (by first | decide | omega)).trans ((va_up_ne _ _ (by first | decide | omega)).trans (by assumption))) | exact (va_up_ne _ _ (by first | decide | omega)).trans ((va_up_ne _ _ (by first | decide | omega)).trans ((va_up_ne _ _ (by first | decide | omega)).trans ((va_up_ne _ _ (by first | decide | omega)).trans (by assumption)))) | exact rfl) rfl rfl (c_holdsAll hn h2 h6 hD T hh hgl ⟨rfl, ?_⟩)
        cases hp9 : ptb S g h with
        | false =>
          rw [show (match some g with | none => none | some g => if ptb S g h then some g else none) = if ptb S g h then some g else none from rfl, hp9] at eh
          refine g_if_eqN (tgt := 29) (pc' := 25) dX2_partOf_22 (by decide) (by first | omega | decide) (fun z2 => ?_) (fun z2 => ?_)
          · exact no eh _
          · exact absurd rfl z2
        | true =>
          rw [show (match some g with | none => none | some g => if ptb S g h then some g else none) = if ptb S g h then some g else none from rfl, hp9] at eh
          rw [eh] at hq
          refine g_if_eqN (tgt := 29) (pc' := 25) dX2_partOf_22 (by decide) (by first | omega | decide) (fun z2 => ?_) (fun z2 => ?_)
          · exact absurd z2 (by decide)
          · refine g_iload_n (pc' := 26) dX2_partOf_25 rfl rfl ?_
            refine g_goto (tgt := 30) dX2_partOf_26 (by decide) ?_
            exact g_iret dX2_partOf_30 rfl (Nat.le_refl _) (Nat.le_refl _) hq
