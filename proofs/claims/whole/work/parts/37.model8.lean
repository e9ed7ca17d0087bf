def mtB (S m : Nat) (ck : Nat → Nat) (h i : Nat) : Bool := decide (sz S h = m) && al (fun k => decide (sh S h k = ck k)) i
theorem mtB_false {S m : Nat} {ck : Nat → Nat} {h i : Nat} (e : mtB S m ck h i = false) : ∀ k, mtB S m ck h (i + k) = false := fun k => by
  unfold mtB at e ⊢
  cases hd : decide (sz S h = m) with
  | false => rfl
  | true =>
    rw [hd, Bool.true_and] at e
    rw [Bool.true_and]
    exact al_false e k
theorem c_placeOf {hp : AH} {n D S T R c m : Nat} {fs : List Value} {fsh fz fa : Nat → Int32} {ck : Nat → Nat} {res : Option Nat} {Q : Option Value → AH → Nat → Prop} (hn : 64 ≤ n) (c47 : hp 47 = ob 8 fs) (F : MF fs D S T R) (f8 : fs[8]? = some (.int (nI c))) (hc : c ≤ 462) (hm : m ≤ 5) (c51 : hp 51 = aI 2772 fsh) (c52 : hp 52 = aI 462 fz) (c63 : hp 63 = aI 6 fa) (hsh : ∀ h k, h < c → k < 6 → fsh (6 * h + k) = nI (sh S h k)) (hz : ∀ h, h < c → fz h = nI (sz S h)) (ha : ∀ k, k < 6 → fa k = nI (ck k)) (hck : ∀ k, k < 6 → ck k ≤ 6) (hr : match res with | none => ∀ h, h < c → mtB S m ck h 6 = false | some g => g < c ∧ mtB S m ck g 6 = true ∧ ∀ h, h < g → mtB S m ck h 6 = false) (hq : Q (some (.int (hoI res))) hp n) : CT yX8_placeOf cX8_placeOf 6 (some .int) (rmD 0) [.ref 47, .ref 63, .int (nI m)] hp n Q := by
  obtain ⟨f99, f0, f1, f2, f3, f4, f5, f6, f9, f10, f11, f12, f13, f16, f24, f25, f26, f27, f28, f29, f30⟩ := F
  show G yX8_placeOf cX8_placeOf 6 (some .int) (rmD 0) none Q 0 0 0 [.ref 47, .ref 63, .int (nI m), uu, uu, uu] [] hp n
  refine g_iconst (pc' := 1) (v := nI 0) dX8_placeOf_0 (by decide) ?_
  refine g_istore_n (pc' := 2) dX8_placeOf_1 rfl (by decide) ?_
  have loop : ∀ k h w4 w5, h + k = c → (∀ g, res = some g → h ≤ g) → G yX8_placeOf cX8_placeOf 6 (some .int) (rmD 0) none Q 0 0 2 [.ref 47, .ref 63, .int (nI m), .int (nI h), w4, w5] [] hp n := by
    intro k
    induction k with
    | zero =>
      intro h w4 w5 hh hg
      refine g_iload_n (pc' := 3) dX8_placeOf_2 rfl rfl ?_
      refine g_aload_n (pc' := 4) dX8_placeOf_3 rfl rfl ?_
      refine g_get (pc' := 7) fl_X8_71 dX8_placeOf_4 (by omega) (by first | assumption | exact va_up_self _ _ _ | exact (va_up_ne _ _ (by decide)).trans (by assumption) | exact (va_up_ne _ _ (by decide)).trans (va_up_self _ _ _) | exact (va_up_ne _ _ (by decide)).trans ((va_up_ne _ _ (by decide)).trans (by assumption)) | exact (va_up_ne _ _ (by decide)).trans ((va_up_ne _ _ (by decide)).trans (va_up_self _ _ _)) | exact (va_up_ne _ _ (by decide)).trans ((va_up_ne _ _ (by decide)).trans ((va_up_ne _ _ (by decide)).trans (by assumption))) | exact (va_up_ne _ _ (by decide)).trans ((va_up_ne _ _ (by decide)).trans ((va_up_ne _ _ (by decide)).trans ((va_up_ne _ _ (by decide)).trans (by assumption)))) | exact rfl) (by first | assumption | rfl | exact (List.getElem?_set_ne (by decide)).trans (by assumption) | exact List.getElem?_set_self (by omega)) ?_
      refine g_icmp_geN (tgt := 87) (pc' := 10) dX8_placeOf_7 (by decide) (by first | omega | decide) (by first | omega | decide) (fun h1 => ?_) (fun h1 => ?_)
      · refine g_iconst (pc' := 88) (v := -1) dX8_placeOf_87 (by decide) ?_
        cases res with
        | none => exact g_iret dX8_placeOf_88 rfl (Nat.le_refl _) (Nat.le_refl _) hq
        | some g => have := hg g rfl; have := hr.1; omega
      · omega
    | succ k ih =>
      intro h w4 w5 hh hg
      have zl := sz_le S h
      have inner : ∀ k2 i, i + k2 = 6 → G yX8_placeOf cX8_placeOf 6 (some .int) (rmD 0) none Q 0 0 30 [.ref 47, .ref 63, .int (nI m), .int (nI h), .int (nI (bI (mtB S m ck h i))), .int (nI i)] [] hp n := by
        have fin : ∀ b i, mtB S m ck h 6 = b → G yX8_placeOf cX8_placeOf 6 (some .int) (rmD 0) none Q 0 0 74 [.ref 47, .ref 63, .int (nI m), .int (nI h), .int (nI (bI b)), .int (nI i)] [] hp n := by
          intro b i hb
          have bl := bI_le b
          refine g_iload (pc' := 76) dX8_placeOf_74 rfl ?_
          refine g_if_eqN (tgt := 81) (pc' := 79) dX8_placeOf_76 (by decide) (by first | omega | decide) (fun h3 => ?_) (fun h3 => ?_)
          · first | refine g_iincN (z := 1) (pc' := 84) dX8_placeOf_81 rfl rfl (by decide) ?_ | refine g_iinc (pc' := 84) dX8_placeOf_81 rfl rfl (by decide) ?_
            refine g_goto (tgt := 2) dX8_placeOf_84 (by decide) ?_
            refine ih (h + 1) _ _ (by omega) (fun g e => ?_)
            have h4 := hg g e
            rcases Nat.lt_or_ge h g with q | q
            · exact q
            · have e2 : g = h := by omega
              subst e2
              subst e
              have h5 := hr.2.1
              rw [hb] at h5
              subst h5
              exact absurd h3 (by decide)
          · have hbt : b = true := by
              cases b with
              | true => rfl
              | false => exact absurd rfl h3
            rw [hbt] at hb
            refine g_iload_n (pc' := 80) dX8_placeOf_79 rfl rfl ?_
            have e : res = some h := by
              cases res with
              | none => exact absurd (hr h (by omega)) (by rw [hb]; decide)
              | some g =>
                have h4 := hg g rfl
                rcases Nat.lt_or_ge h g with q | q
                · exact absurd (hr.2.2 h q) (by rw [hb]; decide)
                · have e2 : g = h := by omega
                  rw [e2]
            rw [e] at hq
            exact g_iret dX8_placeOf_80 rfl (Nat.le_refl _) (Nat.le_refl _) hq
        intro k2
        induction k2 with
        | zero =>
          intro i hi
          have hi' : i = 6 := by omega
          subst hi'
          refine g_iload (pc' := 32) dX8_placeOf_30 rfl ?_
          refine g_bipush (pc' := 34) (v := nI 6) dX8_placeOf_32 (by decide) ?_
          refine g_icmp_geN (tgt := 74) (pc' := 37) dX8_placeOf_34 (by decide) (by first | omega | decide) (by first | omega | decide) (fun h3 => ?_) (fun h3 => ?_)
          · exact fin _ 6 rfl
          · omega
        | succ k2 ih2 =>
          intro i hi
          have bl := bI_le (mtB S m ck h i)
          refine g_iload (pc' := 32) dX8_placeOf_30 rfl ?_
          refine g_bipush (pc' := 34) (v := nI 6) dX8_placeOf_32 (by decide) ?_
          refine g_icmp_geN (tgt := 74) (pc' := 37) dX8_placeOf_34 (by decide) (by first | omega | decide) (by first | omega | decide) (fun h3 => ?_) (fun h3 => ?_)
          · omega
          · refine g_iload (pc' := 39) dX8_placeOf_37 rfl ?_
            refine g_if_eqN (tgt := 74) (pc' := 42) dX8_placeOf_39 (by decide) (by first | omega | decide) (fun h4 => ?_) (fun h4 => ?_)
            · have e0 : mtB S m ck h i = false := by
                cases hx : mtB S m ck h i with
                | false => rfl
                | true => rw [hx] at h4; exact absurd h4 (by decide)
              have e1 := mtB_false e0 (k2 + 1)
              rw [hi] at e1
              rw [e0]
              exact fin false i e1
            · have e0 : mtB S m ck h i = true := by
                cases hx : mtB S m ck h i with
                | true => rfl
                | false => rw [hx] at h4; exact absurd rfl h4
              have s1 := sh_le S h i
              have s2 := hck i (by omega)
              have nxt := ih2 (i + 1) (by omega)
              have e2 : mtB S m ck h (i + 1) = decide (sh S h i = ck i) := by
                unfold mtB at e0 ⊢
                rw [Bool.and_eq_true] at e0
                show (_ && (decide (sh S h i = ck i) && _)) = _
                rw [e0.1, e0.2, Bool.true_and, Bool.and_true]
              rw [e2] at nxt
              refine g_aload_n (pc' := 43) dX8_placeOf_42 rfl rfl ?_
              refine g_get (pc' := 46) fl_X8_29 dX8_placeOf_43 (by omega) (by first | assumption | exact va_up_self _ _ _ | exact (va_up_ne _ _ (by decide)).trans (by assumption) | exact (va_up_ne _ _ (by decide)).trans (va_up_self _ _ _) | exact (va_up_ne _ _ (by decide)).trans ((va_up_ne _ _ (by decide)).trans (by assumption)) | exact (va_up_ne _ _ (by decide)).trans ((va_up_ne _ _ (by decide)).trans (va_up_self _ _ _)) | exact (va_up_ne _ _ (by decide)).trans ((va_up_ne _ _ (by decide)).trans ((va_up_ne _ _ (by decide)).trans (by assumption))) | exact (va_up_ne _ _ (by decide)).trans ((va_up_ne _ _ (by decide)).trans ((va_up_ne _ _ (by decide)).trans ((va_up_ne _ _ (by decide)).trans (by assumption)))) | exact rfl) (by first | assumption | rfl | exact (List.getElem?_set_ne (by decide)).trans (by assumption) | exact List.getElem?_set_self (by omega)) ?_
              refine g_bipush (pc' := 48) (v := nI 6) dX8_placeOf_46 (by decide) ?_
              refine g_iload_n (pc' := 49) dX8_placeOf_48 rfl rfl ?_
              first | refine g_imulN (pc' := 50) dX8_placeOf_49 ?_ | refine g_imul (pc' := 50) dX8_placeOf_49 ?_
              refine g_iload (pc' := 52) dX8_placeOf_50 rfl ?_
              first | refine g_iaddN (pc' := 53) dX8_placeOf_52 ?_ | refine g_iadd (pc' := 53) dX8_placeOf_52 ?_
              refine g_ialdV (pc' := 54) dX8_placeOf_53 (by omega) (by first | assumption | exact va_up_self _ _ _ | exact (va_up_ne _ _ (by decide)).trans (by assumption) | exact (va_up_ne _ _ (by decide)).trans (va_up_self _ _ _) | exact (va_up_ne _ _ (by decide)).trans ((va_up_ne _ _ (by decide)).trans (by assumption)) | exact (va_up_ne _ _ (by decide)).trans ((va_up_ne _ _ (by decide)).trans (va_up_self _ _ _)) | exact (va_up_ne _ _ (by decide)).trans ((va_up_ne _ _ (by decide)).trans ((va_up_ne _ _ (by decide)).trans (by assumption))) | exact (va_up_ne _ _ (by decide)).trans ((va_up_ne _ _ (by decide)).trans ((va_up_ne _ _ (by decide)).trans ((va_up_ne _ _ (by decide)).trans (by assumption)))) | exact rfl) ((IX_nI (by omega) (by omega))) (hsh _ _ (by omega) (by omega)) ?_
              refine g_aload_n (pc' := 55) dX8_placeOf_54 rfl rfl ?_
              refine g_iload (pc' := 57) dX8_placeOf_55 rfl ?_
              refine g_ialdV (pc' := 58) dX8_placeOf_57 (by omega) (by first | assumption | exact va_up_self _ _ _ | exact (va_up_ne _ _ (by decide)).trans (by assumption) | exact (va_up_ne _ _ (by decide)).trans (va_up_self _ _ _) | exact (va_up_ne _ _ (by decide)).trans ((va_up_ne _ _ (by decide)).trans (by assumption)) | exact (va_up_ne _ _ (by decide)).trans ((va_up_ne _ _ (by decide)).trans (va_up_self _ _ _)) | exact (va_up_ne _ _ (by decide)).trans ((va_up_ne _ _ (by decide)).trans ((va_up_ne _ _ (by decide)).trans (by assumption))) | exact (va_up_ne _ _ (by decide)).trans ((va_up_ne _ _ (by decide)).trans ((va_up_ne _ _ (by decide)).trans ((va_up_ne _ _ (by decide)).trans (by assumption)))) | exact rfl) ((IX_nI (by omega) (by omega))) (ha _ (by omega)) ?_
              refine g_icmp_neN (tgt := 65) (pc' := 61) dX8_placeOf_58 (by decide) (by first | omega | decide) (by first | omega | decide) (fun h5 => ?_) (fun h5 => ?_)
              · refine g_iconst (pc' := 66) (v := nI 0) dX8_placeOf_65 (by decide) ?_
                refine g_istore (pc' := 68) dX8_placeOf_66 (by decide) ?_
                first | refine g_iincN (z := 1) (pc' := 71) dX8_placeOf_68 rfl rfl (by decide) ?_ | refine g_iinc (pc' := 71) dX8_placeOf_68 rfl rfl (by decide) ?_
                refine g_goto (tgt := 30) dX8_placeOf_71 (by decide) ?_
                rw [decide_eq_false h5] at nxt
                exact nxt
              · refine g_iconst (pc' := 62) (v := nI 1) dX8_placeOf_61 (by decide) ?_
                refine g_goto (tgt := 66) dX8_placeOf_62 (by decide) ?_
                refine g_istore (pc' := 68) dX8_placeOf_66 (by decide) ?_
                first | refine g_iincN (z := 1) (pc' := 71) dX8_placeOf_68 rfl rfl (by decide) ?_ | refine g_iinc (pc' := 71) dX8_placeOf_68 rfl rfl (by decide) ?_
                refine g_goto (tgt := 30) dX8_placeOf_71 (by decide) ?_
                rw [decide_eq_true h5] at nxt
                exact nxt
      have nxt := inner 6 0 (by omega)
      have e0 : mtB S m ck h 0 = decide (sz S h = m) := by
        unfold mtB
        show (_ && true) = _
        rw [Bool.and_true]
      rw [e0] at nxt
      refine g_iload_n (pc' := 3) dX8_placeOf_2 rfl rfl ?_
      refine g_aload_n (pc' := 4) dX8_placeOf_3 rfl rfl ?_
      refine g_get (pc' := 7) fl_X8_71 dX8_placeOf_4 (by omega) (by first | assumption | exact va_up_self _ _ _ | exact (va_up_ne _ _ (by decide)).trans (by assumption) | exact (va_up_ne _ _ (by decide)).trans (va_up_self _ _ _) | exact (va_up_ne _ _ (by decide)).trans ((va_up_ne _ _ (by decide)).trans (by assumption)) | exact (va_up_ne _ _ (by decide)).trans ((va_up_ne _ _ (by decide)).trans (va_up_self _ _ _)) | exact (va_up_ne _ _ (by decide)).trans ((va_up_ne _ _ (by decide)).trans ((va_up_ne _ _ (by decide)).trans (by assumption))) | exact (va_up_ne _ _ (by decide)).trans ((va_up_ne _ _ (by decide)).trans ((va_up_ne _ _ (by decide)).trans ((va_up_ne _ _ (by decide)).trans (by assumption)))) | exact rfl) (by first | assumption | rfl | exact (List.getElem?_set_ne (by decide)).trans (by assumption) | exact List.getElem?_set_self (by omega)) ?_
      refine g_icmp_geN (tgt := 87) (pc' := 10) dX8_placeOf_7 (by decide) (by first | omega | decide) (by first | omega | decide) (fun h1 => ?_) (fun h1 => ?_)
      · omega
      · refine g_aload_n (pc' := 11) dX8_placeOf_10 rfl rfl ?_
        refine g_get (pc' := 14) fl_X8_32 dX8_placeOf_11 (by omega) (by first | assumption | exact va_up_self _ _ _ | exact (va_up_ne _ _ (by decide)).trans (by assumption) | exact (va_up_ne _ _ (by decide)).trans (va_up_self _ _ _) | exact (va_up_ne _ _ (by decide)).trans ((va_up_ne _ _ (by decide)).trans (by assumption)) | exact (va_up_ne _ _ (by decide)).trans ((va_up_ne _ _ (by decide)).trans (va_up_self _ _ _)) | exact (va_up_ne _ _ (by decide)).trans ((va_up_ne _ _ (by decide)).trans ((va_up_ne _ _ (by decide)).trans (by assumption))) | exact (va_up_ne _ _ (by decide)).trans ((va_up_ne _ _ (by decide)).trans ((va_up_ne _ _ (by decide)).trans ((va_up_ne _ _ (by decide)).trans (by assumption)))) | exact rfl) (by first | assumption | rfl | exact (List.getElem?_set_ne (by decide)).trans (by assumption) | exact List.getElem?_set_self (by omega)) ?_
        refine g_iload_n (pc' := 15) dX8_placeOf_14 rfl rfl ?_
        refine g_ialdV (pc' := 16) dX8_placeOf_15 (by omega) (by first | assumption | exact va_up_self _ _ _ | exact (va_up_ne _ _ (by decide)).trans (by assumption) | exact (va_up_ne _ _ (by decide)).trans (va_up_self _ _ _) | exact (va_up_ne _ _ (by decide)).trans ((va_up_ne _ _ (by decide)).trans (by assumption)) | exact (va_up_ne _ _ (by decide)).trans ((va_up_ne _ _ (by decide)).trans (va_up_self _ _ _)) | exact (va_up_ne _ _ (by decide)).trans ((va_up_ne _ _ (by decide)).trans ((va_up_ne _ _ (by decide)).trans (by assumption))) | exact (va_up_ne _ _ (by decide)).trans ((va_up_ne _ _ (by decide)).trans ((va_up_ne _ _ (by decide)).trans ((va_up_ne _ _ (by decide)).trans (by assumption)))) | exact rfl) ((IX_nI (by omega) (by omega))) (hz _ (by omega)) ?_
        refine g_iload_n (pc' := 17) dX8_placeOf_16 rfl rfl ?_
        refine g_icmp_neN (tgt := 24) (pc' := 20) dX8_placeOf_17 (by decide) (by first | omega | decide) (by first | omega | decide) (fun h3 => ?_) (fun h3 => ?_)
        · refine g_iconst (pc' := 25) (v := nI 0) dX8_placeOf_24 (by decide) ?_
          refine g_istore (pc' := 27) dX8_placeOf_25 (by decide) ?_
          refine g_iconst (pc' := 28) (v := nI 0) dX8_placeOf_27 (by decide) ?_
          refine g_istore (pc' := 30) dX8_placeOf_28 (by decide) ?_
          rw [decide_eq_false h3] at nxt
          exact nxt
        · refine g_iconst (pc' := 21) (v := nI 1) dX8_placeOf_20 (by decide) ?_
          refine g_goto (tgt := 25) dX8_placeOf_21 (by decide) ?_
          refine g_istore (pc' := 27) dX8_placeOf_25 (by decide) ?_
          refine g_iconst (pc' := 28) (v := nI 0) dX8_placeOf_27 (by decide) ?_
          refine g_istore (pc' := 30) dX8_placeOf_28 (by decide) ?_
          rw [decide_eq_true h3] at nxt
          exact nxt
  exact loop c 0 _ _ (by omega) (fun g _ => Nat.zero_le g)
