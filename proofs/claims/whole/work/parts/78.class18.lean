/-! THE CLASS: fall, draw, hold, fill -/
theorem mf_t {R s : Nat} {bg it tt : Bool} (hm : mfB R bg it tt s = true) : bg = true ∧ ¬ opn s R = 0 ∧ (it = true → tt = true) := by
  cases bg with
  | false => simp [mfB] at hm
  | true =>
    refine ⟨rfl, fun q => ?_, fun q => ?_⟩
    · simp [mfB, q] at hm
    · subst q
      cases tt with
      | true => rfl
      | false => simp [mfB] at hm
theorem tl_f {D S T R s h k : Nat} {it tt : Bool} (hT : 1 ≤ T) (G0 : WG D S T R it tt s h k) (ho : ¬ opn s R = 0) (hi : it = true → tt = true) : 1 ≤ tlN T R true it s k ∧ tlN T R true it s k - 1 = fkN it T k ∧ twN D S R true it tt s h = D - sz S h ∧ fhN it h = h := by
  have e : decide (opn s R = 0) = false := decide_eq_false ho
  unfold tlN twN fkN fhN
  rw [e]
  cases it with
  | false =>
    obtain ⟨q1, q2, q3⟩ := G0.2.2 rfl
    refine ⟨hT, rfl, ?_, ?_⟩
    · show D = D - sz S h
      rw [q1, sz_0]
      rfl
    · show 0 = h
      omega
  | true =>
    have q := hi rfl
    subst q
    have := (G0.2.1 rfl).2.2.2.1 rfl
    exact ⟨this, rfl, rfl, rfl⟩
theorem wh_h {D S T R s h k : Nat} {it tt : Bool} (h2 : 2 ≤ S) (h6 : S ≤ 6) (hD : D ≤ 5) (G0 : WG D S T R it tt s h k) : h < nh S D := by
  cases it with
  | true => exact (G0.2.1 rfl).2.1
  | false =>
    obtain ⟨q1, -⟩ := G0.2.2 rfl
    rw [q1]
    exact (nh_le h2 h6 hD).2
theorem WC_fall {D S T R s h k g : Nat} {it tt : Bool} (hD : D ≤ 5) (hT : 1 ≤ T) (hT3 : T ≤ 3) (G0 : WG D S T R it tt s h k) (ho : ¬ opn s R = 0) (hg : g < nh S D) (hz : sz S g = D) : WC D S T R true false s g (fkN it T k) 0 (fkN it T k) := by
  have := WC_of hD hT3 (WG_fall hT G0 ho hg hz) (fun q => by cases q)
  have e : decide (opn s R = 0) = false := decide_eq_false ho
  unfold twN tlN at this
  rw [e] at this
  exact this
section FL
variable {hp : AH} {n D S T R s sm h k kid K : Nat} {kd nn pp fl : Nat → Nat} {bg it tt : Bool} {lu sl : Int64} {rd : Bool} {x : Int32} {Q : Option Value → AH → Nat → Prop}
theorem c_sideOf {hp : AH} {n d S : Nat} {Q : Option Value → AH → Nat → Prop} (hd : d < 2 ^ 31) (h2 : 2 ≤ S) (h6 : S ≤ 6) (hq : Q (some (.int (nI (1 + d / 2 ^ 12 % S)))) hp n) : CT yX7_sideOf cX7_sideOf 2 (some .int) (rmD 0) [.int (nI d), .int (nI S)] hp n Q := by
  show G yX7_sideOf cX7_sideOf 2 (some .int) (rmD 0) none Q 0 0 0 [.int (nI d), .int (nI S)] [] hp n
  refine g_iload_n (pc' := 1) dX7_sideOf_0 rfl rfl ?_
  refine g_iconst (pc' := 2) (v := nI 1) dX7_sideOf_1 (by decide) ?_
  refine g_icmp_geN (tgt := 9) (pc' := 5) dX7_sideOf_2 (by decide) (by first | omega | decide) (by first | omega | decide) (fun z1 => ?_) (fun z1 => ?_)
  rotate_left
  · omega
  refine g_iconst (pc' := 10) (v := nI 1) dX7_sideOf_9 (by decide) ?_
  refine g_iload_n (pc' := 11) dX7_sideOf_10 rfl rfl ?_
  refine g_bipush (pc' := 13) (v := nI 12) dX7_sideOf_11 (by decide) ?_
  refine g_ishr (pc' := 14) dX7_sideOf_13 ?_
  rw [sh_r hd (by omega)]
  refine g_iload_n (pc' := 15) dX7_sideOf_14 rfl rfl ?_
  first | refine g_iremN (pc' := 16) dX7_sideOf_15 (by omega) (by omega) (by omega) ?_ | refine g_irem (pc' := 16) dX7_sideOf_15 (by decide) ?_
  first | refine g_iaddN (pc' := 17) dX7_sideOf_16 ?_ | refine g_iadd (pc' := 17) dX7_sideOf_16 ?_
  exact g_iret dX7_sideOf_17 rfl (Nat.le_refl _) (Nat.le_refl _) hq
theorem c_fallC (hn : 64 ≤ n) (Mr : MR D S T R kd nn pp) (X : CS hp n D S T R kd nn pp bg it tt s sm h k fl lu sl kid K rd) (hW : WS D S T R bg it tt s sm h k lu sl) (hsm : sm < 2 ^ 31)
    (hq0 : mfB R bg it tt s = false → Q (some (.int (-4))) hp n)
    (hq1 : mfB R bg it tt s = true → jfI S (D - sz S (fhN it h)) (fhN it h) x = none → Q (some (.int (-3))) hp n)
    (hq2 : mfB R bg it tt s = true → ∀ to, jfI S (D - sz S (fhN it h)) (fhN it h) x = some to → ∀ hp' : AH, CS hp' n D S T R kd nn pp true true false s sm to (fkN it T k) fl (lu + (lN (sdM D S T R kd nn pp true false s sm to (fkN it T k)) - lN (sdM D S T R kd nn pp it tt s sm h k))) sl kid K rd → FRc hp hp' → Q (some (.int (nI (td S to)))) hp' n) : CT yX7_fall cX7_fall 3 (some .int) (rmD 6) [.ref 0, .int x] hp n Q := by
  obtain ⟨h2, h6, hD1, hD, hT1, hT3, hR, hRV⟩ := Mr
  obtain ⟨c0, B, O, Gm⟩ := id X
  have htw := tw_mf hD1 hW
  show G yX7_fall cX7_fall 3 (some .int) (rmD 6) none Q 0 0 0 [.ref 0, .int x, uu] [] hp n
  refine g_aload_n (pc' := 1) dX7_fall_0 rfl rfl ?_
  refine g_get (pc' := 4) fl_X7_81 dX7_fall_1 (by omega) (by first | assumption | exact va_up_self _ _ _ | exact (va_up_ne _ _ (by first | decide | omega)).trans (by assumption) | exact (va_up_ne _ _ (by first | decide | omega)).trans (va_up_self _ _ _) | exact (va_up_ne _ _ (by first | decide | omega)).trans ((va_up_ne _ _ (by first | decide | omega)).trans (by assumption)) | exact (va_up_ne _ _ (by first | decide | omega)).trans ((va_up_ne _ _ (by first | decide | omega)).trans (va_up_self _ _ _)) | exact (va_up_ne _ _ (by first | decide | omega)).trans ((va_up_ne _ _ (by first | decide | omega)).trans ((va_up_ne _ _ (by first | decide | omega)).trans (by assumption))) | exact (va_up_ne _ _ (by first | decide | omega)).trans ((va_up_ne _ _ (by first | decide | omega)).trans ((va_up_ne _ _ (by first | decide | omega)).trans ((va_up_ne _ _ (by first | decide | omega)).trans (by assumption)))) | exact rfl) (by first | assumption | rfl | exact (List.getElem?_set_ne (by decide)).trans (by assumption) | exact List.getElem?_set_self (by omega)) ?_
  cases hm : mfB R bg it tt s with
  | false =>
    rw [htw.mpr hm]
    refine g_if_neN (tgt := 10) (pc' := 7) dX7_fall_4 (by decide) (by first | omega | decide) (fun z1 => ?_) (fun z1 => ?_)
    · exact absurd rfl z1
    · refine g_bipush (pc' := 9) (v := -4) dX7_fall_7 (by decide) ?_
      exact g_iret dX7_fall_9 rfl (Nat.le_refl _) (Nat.le_refl _) (hq0 hm)
  | true =>
    obtain ⟨eb, ho, hi⟩ := mf_t hm
    subst eb
    obtain ⟨G0, ht⟩ := hW.1 rfl
    obtain ⟨XG, -⟩ := Gm rfl
    obtain ⟨N, A, Wo, hP, hs, hV⟩ := id XG
    obtain ⟨hT, c4, -⟩ := id A
    obtain ⟨f1, f2, f3, f4⟩ := tl_f hT1 G0 ho hi
    have hh := wh_h h2 h6 hD G0
    obtain ⟨ft9, fz9, fl9, fm9, c5, -⟩ := id hT
    have WC0 := WC_of hD hT3 G0 ht
    have zh := sz_of h2 h6 hD hh
    have hq1' := hq1 hm
    have hq2' := hq2 hm
    clear hq1 hq2
    rw [f4] at hq1' hq2'
    have tw0 : ¬ twN D S R true it tt s h = 0 := fun q => by rw [htw.mp q] at hm; cases hm
    generalize htl : tlN T R true it s k = tl at f1 f2 WC0 c0
    rw [f3] at WC0 c0 tw0 ⊢
    have fin : ∀ g, jfI S (D - sz S h) h x = some g → g < nh S D ∧ sz S g = D → G yX7_fall cX7_fall 3 (some .int) (rmD 6) none Q 0 0 38 [.ref 0, .int x, .int (nI g)] [] hp n := by
      intro g eg hgz
      have G1 := WC_fall hD hT1 hT3 G0 ho hgz.1 hgz.2
      rw [← f2] at G1
      refine g_aload_n (pc' := 39) dX7_fall_38 rfl rfl ?_
      refine g_iload_n (pc' := 40) dX7_fall_39 rfl rfl ?_
      refine gc_V 43 0 [.int (nI g)] [] cw_X7_123 im_X7_comeToHeap se_X7_comeToHeap dX7_fall_40 (by decide) (by decide) (Nat.le_refl _) (Nat.le_refl _) (Nat.le_of_ble_eq_true rfl) rfl (Nat.le_of_ble_eq_true rfl) (by omega) (by first | assumption | exact va_up_self _ _ _ | exact (va_up_ne _ _ (by first | decide | omega)).trans (by assumption) | exact (va_up_ne _ _ (by first | decide | omega)).trans (va_up_self _ _ _) | exact (va_up_ne _ _ (by first | decide | omega)).trans ((va_up_ne _ _ (by first | decide | omega)).trans (by assumption)) | exact (va_up_ne _ _ (by first | decide | omega)).trans ((va_up_ne _ _ (by first | decide | omega)).trans (va_up_self _ _ _)) | exact (va_up_ne _ _ (by first | decide | omega)).trans ((va_up_ne _ _ (by first | decide | omega)).trans ((va_up_ne _ _ (by first | decide | omega)).trans (by assumption))) | exact (va_up_ne _ _ (by first | decide | omega)).trans ((va_up_ne _ _ (by first | decide | omega)).trans ((va_up_ne _ _ (by first | decide | omega)).trans ((va_up_ne _ _ (by first | decide | omega)).trans (by assumption)))) | exact rfl) rfl rfl (c_comeToHeap hn XG WC0 hsm c0 f1 hgz.1 G1 ⟨rfl, ?_⟩)
      rw [f2]
      refine g_iret dX7_fall_43 rfl (Nat.le_refl _) (Nat.le_refl _) (hq2' g eg _ (CS_u X true false sm g (fkN it T k) _ sl ?_) (FRc_u (by omega)))
      have e : decide (opn s R = 0) = false := decide_eq_false ho
      unfold twN tlN
      rw [e]
      rfl
    refine g_if_neN (tgt := 10) (pc' := 7) dX7_fall_4 (by decide) (by first | omega | decide) (fun z1 => ?_) (fun z1 => ?_)
    · refine g_aload_n (pc' := 11) dX7_fall_10 rfl rfl ?_
      refine g_get (pc' := 14) fl_X7_25 dX7_fall_11 (by omega) (by first | assumption | exact va_up_self _ _ _ | exact (va_up_ne _ _ (by first | decide | omega)).trans (by assumption) | exact (va_up_ne _ _ (by first | decide | omega)).trans (va_up_self _ _ _) | exact (va_up_ne _ _ (by first | decide | omega)).trans ((va_up_ne _ _ (by first | decide | omega)).trans (by assumption)) | exact (va_up_ne _ _ (by first | decide | omega)).trans ((va_up_ne _ _ (by first | decide | omega)).trans (va_up_self _ _ _)) | exact (va_up_ne _ _ (by first | decide | omega)).trans ((va_up_ne _ _ (by first | decide | omega)).trans ((va_up_ne _ _ (by first | decide | omega)).trans (by assumption))) | exact (va_up_ne _ _ (by first | decide | omega)).trans ((va_up_ne _ _ (by first | decide | omega)).trans ((va_up_ne _ _ (by first | decide | omega)).trans ((va_up_ne _ _ (by first | decide | omega)).trans (by assumption)))) | exact rfl) (by first | assumption | rfl | exact (List.getElem?_set_ne (by decide)).trans (by assumption) | exact List.getElem?_set_self (by omega)) ?_
      refine g_getN (pc' := 17) fn_X7_113 dX7_fall_14 (by omega) (by first | assumption | exact va_up_self _ _ _ | exact (va_up_ne _ _ (by first | decide | omega)).trans (by assumption) | exact (va_up_ne _ _ (by first | decide | omega)).trans (va_up_self _ _ _) | exact (va_up_ne _ _ (by first | decide | omega)).trans ((va_up_ne _ _ (by first | decide | omega)).trans (by assumption)) | exact (va_up_ne _ _ (by first | decide | omega)).trans ((va_up_ne _ _ (by first | decide | omega)).trans (va_up_self _ _ _)) | exact (va_up_ne _ _ (by first | decide | omega)).trans ((va_up_ne _ _ (by first | decide | omega)).trans ((va_up_ne _ _ (by first | decide | omega)).trans (by assumption))) | exact (va_up_ne _ _ (by first | decide | omega)).trans ((va_up_ne _ _ (by first | decide | omega)).trans ((va_up_ne _ _ (by first | decide | omega)).trans ((va_up_ne _ _ (by first | decide | omega)).trans (by assumption)))) | exact rfl) (by first | assumption | rfl | exact (List.getElem?_set_ne (by decide)).trans (by assumption) | exact List.getElem?_set_self (by omega)) ?_
      refine g_aload_n (pc' := 18) dX7_fall_17 rfl rfl ?_
      refine g_get (pc' := 21) fl_X7_78 dX7_fall_18 (by omega) (by first | assumption | exact va_up_self _ _ _ | exact (va_up_ne _ _ (by first | decide | omega)).trans (by assumption) | exact (va_up_ne _ _ (by first | decide | omega)).trans (va_up_self _ _ _) | exact (va_up_ne _ _ (by first | decide | omega)).trans ((va_up_ne _ _ (by first | decide | omega)).trans (by assumption)) | exact (va_up_ne _ _ (by first | decide | omega)).trans ((va_up_ne _ _ (by first | decide | omega)).trans (va_up_self _ _ _)) | exact (va_up_ne _ _ (by first | decide | omega)).trans ((va_up_ne _ _ (by first | decide | omega)).trans ((va_up_ne _ _ (by first | decide | omega)).trans (by assumption))) | exact (va_up_ne _ _ (by first | decide | omega)).trans ((va_up_ne _ _ (by first | decide | omega)).trans ((va_up_ne _ _ (by first | decide | omega)).trans ((va_up_ne _ _ (by first | decide | omega)).trans (by assumption)))) | exact rfl) (by first | assumption | rfl | exact (List.getElem?_set_ne (by decide)).trans (by assumption) | exact List.getElem?_set_self (by omega)) ?_
      refine g_iload_n (pc' := 22) dX7_fall_21 rfl rfl ?_
      refine g_aload_n (pc' := 23) dX7_fall_22 rfl rfl ?_
      refine g_get (pc' := 26) fl_X7_81 dX7_fall_23 (by omega) (by first | assumption | exact va_up_self _ _ _ | exact (va_up_ne _ _ (by first | decide | omega)).trans (by assumption) | exact (va_up_ne _ _ (by first | decide | omega)).trans (va_up_self _ _ _) | exact (va_up_ne _ _ (by first | decide | omega)).trans ((va_up_ne _ _ (by first | decide | omega)).trans (by assumption)) | exact (va_up_ne _ _ (by first | decide | omega)).trans ((va_up_ne _ _ (by first | decide | omega)).trans (va_up_self _ _ _)) | exact (va_up_ne _ _ (by first | decide | omega)).trans ((va_up_ne _ _ (by first | decide | omega)).trans ((va_up_ne _ _ (by first | decide | omega)).trans (by assumption))) | exact (va_up_ne _ _ (by first | decide | omega)).trans ((va_up_ne _ _ (by first | decide | omega)).trans ((va_up_ne _ _ (by first | decide | omega)).trans ((va_up_ne _ _ (by first | decide | omega)).trans (by assumption)))) | exact rfl) (by first | assumption | rfl | exact (List.getElem?_set_ne (by decide)).trans (by assumption) | exact List.getElem?_set_self (by omega)) ?_
      refine gc_V 29 5 [.int (nI h), .int x, .int (nI (D - sz S h))] [] cw_X7_117 im_X2_joined se_X2_joined dX7_fall_26 (by decide) (by decide) (Nat.le_refl _) (Nat.le_refl _) (Nat.le_of_ble_eq_true rfl) rfl (Nat.le_of_ble_eq_true rfl) (by omega) (by first | assumption | exact va_up_self _ _ _ | exact (va_up_ne _ _ (by first | decide | omega)).trans (by assumption) | exact (va_up_ne _ _ (by first | decide | omega)).trans (va_up_self _ _ _) | exact (va_up_ne _ _ (by first | decide | omega)).trans ((va_up_ne _ _ (by first | decide | omega)).trans (by assumption)) | exact (va_up_ne _ _ (by first | decide | omega)).trans ((va_up_ne _ _ (by first | decide | omega)).trans (va_up_self _ _ _)) | exact (va_up_ne _ _ (by first | decide | omega)).trans ((va_up_ne _ _ (by first | decide | omega)).trans ((va_up_ne _ _ (by first | decide | omega)).trans (by assumption))) | exact (va_up_ne _ _ (by first | decide | omega)).trans ((va_up_ne _ _ (by first | decide | omega)).trans ((va_up_ne _ _ (by first | decide | omega)).trans ((va_up_ne _ _ (by first | decide | omega)).trans (by assumption)))) | exact rfl) rfl rfl (c_joined hn h2 h6 hD hT hh (by omega) (fun _ => by omega) (fun hx => ⟨rfl, ?_⟩) (fun v hv hx => ⟨rfl, ?_⟩))
      · show G yX7_fall cX7_fall 3 (some .int) (rmD 6) none Q 0 0 29 [.ref 0, .int x, uu] [.int (-1)] hp n
        refine g_istore_n (pc' := 30) dX7_fall_29 rfl (by decide) ?_
        refine g_iload_n (pc' := 31) dX7_fall_30 rfl rfl ?_
        refine g_iconst (pc' := 32) (v := -1) dX7_fall_31 (by decide) ?_
        refine g_icmp_ne (tgt := 38) (pc' := 35) dX7_fall_32 (by decide) (fun z2 => ?_) (fun z2 => ?_)
        · exact absurd rfl z2
        · refine g_bipush (pc' := 37) (v := -3) dX7_fall_35 (by decide) ?_
          exact g_iret dX7_fall_37 rfl (Nat.le_refl _) (Nat.le_refl _) (hq1' (if_pos hx))
      · have ej : jfI S (D - sz S h) h x = jf S (D - sz S h) h v := by
          unfold jfI
          rw [hx, if_neg (nI_pos hv), nI_clamp hv]
        rw [jn_jf h2 h6 hD hh (by omega)]
        cases hg : jf S (D - sz S h) h v with
        | none =>
          show G yX7_fall cX7_fall 3 (some .int) (rmD 6) none Q 0 0 29 [.ref 0, .int x, uu] [.int (-1)] hp n
          refine g_istore_n (pc' := 30) dX7_fall_29 rfl (by decide) ?_
          refine g_iload_n (pc' := 31) dX7_fall_30 rfl rfl ?_
          refine g_iconst (pc' := 32) (v := -1) dX7_fall_31 (by decide) ?_
          refine g_icmp_ne (tgt := 38) (pc' := 35) dX7_fall_32 (by decide) (fun z2 => ?_) (fun z2 => ?_)
          · exact absurd rfl z2
          · refine g_bipush (pc' := 37) (v := -3) dX7_fall_35 (by decide) ?_
            exact g_iret dX7_fall_37 rfl (Nat.le_refl _) (Nat.le_refl _) (hq1' (ej.trans hg))
        | some g =>
          have hgz := jf_ok h2 h6 hD hh (by omega) hg
          have hN := (nh_le h2 h6 hD).1
          show G yX7_fall cX7_fall 3 (some .int) (rmD 6) none Q 0 0 29 [.ref 0, .int x, uu] [.int (nI g)] hp n
          refine g_istore_n (pc' := 30) dX7_fall_29 rfl (by decide) ?_
          refine g_iload_n (pc' := 31) dX7_fall_30 rfl rfl ?_
          refine g_iconst (pc' := 32) (v := -1) dX7_fall_31 (by decide) ?_
          refine g_icmp_ne (tgt := 38) (pc' := 35) dX7_fall_32 (by decide) (fun z2 => ?_) (fun z2 => ?_)
          · exact fin g (ej.trans hg) hgz
          · exact absurd z2 (nI_nm1 (by omega))
    · exact absurd z1 tw0
theorem c_drawC {zf : Int32 → Int32} {af : Int32 → Nat} (hZ : DZ zf af) (hn : 64 ≤ n) (Mr : MR D S T R kd nn pp) (X : CS hp n D S T R kd nn pp bg it tt s sm h k fl lu sl kid K rd) (hW : WS D S T R bg it tt s sm h k lu sl) (hsm : sm < 2 ^ 31)
    (hq0 : mfB R bg it tt s = false → Q (some (.int (-4))) hp n)
    (hq2 : mfB R bg it tt s = true → ∀ to, to = dr zf af S (D - sz S (fhN it h)) (fhN it h) x → ∀ hp' : AH, CS hp' n D S T R kd nn pp true true false s sm to (fkN it T k) fl (lu + (lN (sdM D S T R kd nn pp true false s sm to (fkN it T k)) - lN (sdM D S T R kd nn pp it tt s sm h k))) sl kid K rd → FRc hp hp' → Q (some (.int (nI (td S to)))) hp' n) : CT yX7_draw cX7_draw 5 (some .int) (rmD 6) [.ref 0, .int x] hp n Q := by
  obtain ⟨h2, h6, hD1, hD, hT1, hT3, hR, hRV⟩ := Mr
  obtain ⟨c0, B, O, Gm⟩ := id X
  have htw := tw_mf hD1 hW
  show G yX7_draw cX7_draw 5 (some .int) (rmD 6) none Q 0 0 0 [.ref 0, .int x, uu, uu, uu] [] hp n
  refine g_aload_n (pc' := 1) dX7_draw_0 rfl rfl ?_
  refine g_get (pc' := 4) fl_X7_81 dX7_draw_1 (by omega) (by first | assumption | exact va_up_self _ _ _ | exact (va_up_ne _ _ (by first | decide | omega)).trans (by assumption) | exact (va_up_ne _ _ (by first | decide | omega)).trans (va_up_self _ _ _) | exact (va_up_ne _ _ (by first | decide | omega)).trans ((va_up_ne _ _ (by first | decide | omega)).trans (by assumption)) | exact (va_up_ne _ _ (by first | decide | omega)).trans ((va_up_ne _ _ (by first | decide | omega)).trans (va_up_self _ _ _)) | exact (va_up_ne _ _ (by first | decide | omega)).trans ((va_up_ne _ _ (by first | decide | omega)).trans ((va_up_ne _ _ (by first | decide | omega)).trans (by assumption))) | exact (va_up_ne _ _ (by first | decide | omega)).trans ((va_up_ne _ _ (by first | decide | omega)).trans ((va_up_ne _ _ (by first | decide | omega)).trans ((va_up_ne _ _ (by first | decide | omega)).trans (by assumption)))) | exact rfl) (by first | assumption | rfl | exact (List.getElem?_set_ne (by decide)).trans (by assumption) | exact List.getElem?_set_self (by omega)) ?_
  cases hm : mfB R bg it tt s with
  | false =>
    rw [htw.mpr hm]
    refine g_if_neN (tgt := 10) (pc' := 7) dX7_draw_4 (by decide) (by first | omega | decide) (fun z1 => ?_) (fun z1 => ?_)
    · exact absurd rfl z1
    · refine g_bipush (pc' := 9) (v := -4) dX7_draw_7 (by decide) ?_
      exact g_iret dX7_draw_9 rfl (Nat.le_refl _) (Nat.le_refl _) (hq0 hm)
  | true =>
    obtain ⟨eb, ho, hi⟩ := mf_t hm
    subst eb
    obtain ⟨G0, ht⟩ := hW.1 rfl
    obtain ⟨XG, -⟩ := Gm rfl
    obtain ⟨N, A, Wo, hP, hs, hV⟩ := id XG
    obtain ⟨hT, c4, -⟩ := id A
    obtain ⟨f1, f2, f3, f4⟩ := tl_f hT1 G0 ho hi
    have hh := wh_h h2 h6 hD G0
    obtain ⟨ft9, fz9, fl9, fm9, c5, c6, c7, c8, c9, hTH, hTM⟩ := id hT
    have WC0 := WC_of hD hT3 G0 ht
    have zh := sz_of h2 h6 hD hh
    have hN := (nh_le h2 h6 hD).1
    have hq2' := hq2 hm
    clear hq2
    rw [f4] at hq2'
    have tw0 : ¬ twN D S R true it tt s h = 0 := fun q => by rw [htw.mp q] at hm; cases hm
    generalize htl : tlN T R true it s k = tl at f1 f2 WC0 c0
    rw [f3] at WC0 c0 tw0 ⊢
    refine g_if_neN (tgt := 10) (pc' := 7) dX7_draw_4 (by decide) (by first | omega | decide) (fun z1 => ?_) (fun z1 => ?_)
    · refine g_aload_n (pc' := 11) dX7_draw_10 rfl rfl ?_
      refine g_get (pc' := 14) fl_X7_78 dX7_draw_11 (by omega) (by first | assumption | exact va_up_self _ _ _ | exact (va_up_ne _ _ (by first | decide | omega)).trans (by assumption) | exact (va_up_ne _ _ (by first | decide | omega)).trans (va_up_self _ _ _) | exact (va_up_ne _ _ (by first | decide | omega)).trans ((va_up_ne _ _ (by first | decide | omega)).trans (by assumption)) | exact (va_up_ne _ _ (by first | decide | omega)).trans ((va_up_ne _ _ (by first | decide | omega)).trans (va_up_self _ _ _)) | exact (va_up_ne _ _ (by first | decide | omega)).trans ((va_up_ne _ _ (by first | decide | omega)).trans ((va_up_ne _ _ (by first | decide | omega)).trans (by assumption))) | exact (va_up_ne _ _ (by first | decide | omega)).trans ((va_up_ne _ _ (by first | decide | omega)).trans ((va_up_ne _ _ (by first | decide | omega)).trans ((va_up_ne _ _ (by first | decide | omega)).trans (by assumption)))) | exact rfl) (by first | assumption | rfl | exact (List.getElem?_set_ne (by decide)).trans (by assumption) | exact List.getElem?_set_self (by omega)) ?_
      refine g_istore_n (pc' := 15) dX7_draw_14 rfl (by decide) ?_
      refine g_iload_n (pc' := 16) dX7_draw_15 rfl rfl ?_
      refine g_istore_n (pc' := 17) dX7_draw_16 rfl (by decide) ?_
      refine g_iconst (pc' := 18) (v := nI 0) dX7_draw_17 (by decide) ?_
      refine g_istore (pc' := 20) dX7_draw_18 (by decide) ?_
      have loop : ∀ f i g y, i + f = D - sz S h → g < nh S D → sz S g + f = D → dr zf af S (D - sz S h) h x = dr zf af S f g y → G yX7_draw cX7_draw 5 (some .int) (rmD 6) none Q 0 0 20 [.ref 0, .int x, .int (nI g), .int y, .int (nI i)] [] hp n := by
        intro f
        induction f with
        | zero =>
          intro i g y hi9 hg hf e
          have e' : dr zf af S (D - sz S h) h x = g := e
          have G1 := WC_fall hD hT1 hT3 G0 ho hg (by omega)
          rw [← f2] at G1
          refine g_iload (pc' := 22) dX7_draw_20 rfl ?_
          refine g_aload_n (pc' := 23) dX7_draw_22 rfl rfl ?_
          refine g_get (pc' := 26) fl_X7_81 dX7_draw_23 (by omega) (by first | assumption | exact va_up_self _ _ _ | exact (va_up_ne _ _ (by first | decide | omega)).trans (by assumption) | exact (va_up_ne _ _ (by first | decide | omega)).trans (va_up_self _ _ _) | exact (va_up_ne _ _ (by first | decide | omega)).trans ((va_up_ne _ _ (by first | decide | omega)).trans (by assumption)) | exact (va_up_ne _ _ (by first | decide | omega)).trans ((va_up_ne _ _ (by first | decide | omega)).trans (va_up_self _ _ _)) | exact (va_up_ne _ _ (by first | decide | omega)).trans ((va_up_ne _ _ (by first | decide | omega)).trans ((va_up_ne _ _ (by first | decide | omega)).trans (by assumption))) | exact (va_up_ne _ _ (by first | decide | omega)).trans ((va_up_ne _ _ (by first | decide | omega)).trans ((va_up_ne _ _ (by first | decide | omega)).trans ((va_up_ne _ _ (by first | decide | omega)).trans (by assumption)))) | exact rfl) (by first | assumption | rfl | exact (List.getElem?_set_ne (by decide)).trans (by assumption) | exact List.getElem?_set_self (by omega)) ?_
          refine g_icmp_geN (tgt := 67) (pc' := 29) dX7_draw_26 (by decide) (by first | omega | decide) (by first | omega | decide) (fun z3 => ?_) (fun z3 => ?_)
          · refine g_aload_n (pc' := 68) dX7_draw_67 rfl rfl ?_
            refine g_iload_n (pc' := 69) dX7_draw_68 rfl rfl ?_
            refine gc_V 72 0 [.int (nI g)] [] cw_X7_123 im_X7_comeToHeap se_X7_comeToHeap dX7_draw_69 (by decide) (by decide) (Nat.le_refl _) (Nat.le_refl _) (Nat.le_of_ble_eq_true rfl) rfl (Nat.le_of_ble_eq_true rfl) (by omega) (by first | assumption | exact va_up_self _ _ _ | exact (va_up_ne _ _ (by first | decide | omega)).trans (by assumption) | exact (va_up_ne _ _ (by first | decide | omega)).trans (va_up_self _ _ _) | exact (va_up_ne _ _ (by first | decide | omega)).trans ((va_up_ne _ _ (by first | decide | omega)).trans (by assumption)) | exact (va_up_ne _ _ (by first | decide | omega)).trans ((va_up_ne _ _ (by first | decide | omega)).trans (va_up_self _ _ _)) | exact (va_up_ne _ _ (by first | decide | omega)).trans ((va_up_ne _ _ (by first | decide | omega)).trans ((va_up_ne _ _ (by first | decide | omega)).trans (by assumption))) | exact (va_up_ne _ _ (by first | decide | omega)).trans ((va_up_ne _ _ (by first | decide | omega)).trans ((va_up_ne _ _ (by first | decide | omega)).trans ((va_up_ne _ _ (by first | decide | omega)).trans (by assumption)))) | exact rfl) rfl rfl (c_comeToHeap hn XG WC0 hsm c0 f1 hg G1 ⟨rfl, ?_⟩)
            rw [f2]
            refine g_iret dX7_draw_72 rfl (Nat.le_refl _) (Nat.le_refl _) (hq2' g e'.symm _ (CS_u X true false sm g (fkN it T k) _ sl ?_) (FRc_u (by omega)))
            have e : decide (opn s R = 0) = false := decide_eq_false ho
            unfold twN tlN
            rw [e]
            rfl
          · omega
        | succ f ih =>
          intro i g y hi9 hg hf e
          have zg := sz_le S g
          obtain ⟨d0, d1, d2⟩ := hZ y
          have hmd : af y / 2 ^ 12 % S < S := Nat.mod_lt _ (by omega)
          obtain ⟨-, n2, n3, -⟩ := nx_ok h2 h6 hD hg (by omega) hmd
          refine g_iload (pc' := 22) dX7_draw_20 rfl ?_
          refine g_aload_n (pc' := 23) dX7_draw_22 rfl rfl ?_
          refine g_get (pc' := 26) fl_X7_81 dX7_draw_23 (by omega) (by first | assumption | exact va_up_self _ _ _ | exact (va_up_ne _ _ (by first | decide | omega)).trans (by assumption) | exact (va_up_ne _ _ (by first | decide | omega)).trans (va_up_self _ _ _) | exact (va_up_ne _ _ (by first | decide | omega)).trans ((va_up_ne _ _ (by first | decide | omega)).trans (by assumption)) | exact (va_up_ne _ _ (by first | decide | omega)).trans ((va_up_ne _ _ (by first | decide | omega)).trans (va_up_self _ _ _)) | exact (va_up_ne _ _ (by first | decide | omega)).trans ((va_up_ne _ _ (by first | decide | omega)).trans ((va_up_ne _ _ (by first | decide | omega)).trans (by assumption))) | exact (va_up_ne _ _ (by first | decide | omega)).trans ((va_up_ne _ _ (by first | decide | omega)).trans ((va_up_ne _ _ (by first | decide | omega)).trans ((va_up_ne _ _ (by first | decide | omega)).trans (by assumption)))) | exact rfl) (by first | assumption | rfl | exact (List.getElem?_set_ne (by decide)).trans (by assumption) | exact List.getElem?_set_self (by omega)) ?_
          refine g_icmp_geN (tgt := 67) (pc' := 29) dX7_draw_26 (by decide) (by first | omega | decide) (by first | omega | decide) (fun z3 => ?_) (fun z3 => ?_)
          · omega
          · refine g_iload_n (pc' := 30) dX7_draw_29 rfl rfl ?_
            refine g_ldc (pc' := 32) dX7_draw_30 ki_X7_127 ?_
            refine g_imul (pc' := 33) dX7_draw_32 ?_
            refine g_sipush (pc' := 36) (v := nI 12345) dX7_draw_33 (by decide) ?_
            refine g_iadd (pc' := 37) dX7_draw_36 ?_
            refine g_ldc (pc' := 39) dX7_draw_37 ki_X7_128 ?_
            refine g_iand (pc' := 40) dX7_draw_39 ?_
            rw [d0, d1]
            refine g_istore_n (pc' := 41) dX7_draw_40 rfl (by decide) ?_
            refine g_aload_n (pc' := 42) dX7_draw_41 rfl rfl ?_
            refine g_get (pc' := 45) fl_X7_25 dX7_draw_42 (by omega) (by first | assumption | exact va_up_self _ _ _ | exact (va_up_ne _ _ (by first | decide | omega)).trans (by assumption) | exact (va_up_ne _ _ (by first | decide | omega)).trans (va_up_self _ _ _) | exact (va_up_ne _ _ (by first | decide | omega)).trans ((va_up_ne _ _ (by first | decide | omega)).trans (by assumption)) | exact (va_up_ne _ _ (by first | decide | omega)).trans ((va_up_ne _ _ (by first | decide | omega)).trans (va_up_self _ _ _)) | exact (va_up_ne _ _ (by first | decide | omega)).trans ((va_up_ne _ _ (by first | decide | omega)).trans ((va_up_ne _ _ (by first | decide | omega)).trans (by assumption))) | exact (va_up_ne _ _ (by first | decide | omega)).trans ((va_up_ne _ _ (by first | decide | omega)).trans ((va_up_ne _ _ (by first | decide | omega)).trans ((va_up_ne _ _ (by first | decide | omega)).trans (by assumption)))) | exact rfl) (by first | assumption | rfl | exact (List.getElem?_set_ne (by decide)).trans (by assumption) | exact List.getElem?_set_self (by omega)) ?_
            refine g_getN (pc' := 48) fn_X7_113 dX7_draw_45 (by omega) (by first | assumption | exact va_up_self _ _ _ | exact (va_up_ne _ _ (by first | decide | omega)).trans (by assumption) | exact (va_up_ne _ _ (by first | decide | omega)).trans (va_up_self _ _ _) | exact (va_up_ne _ _ (by first | decide | omega)).trans ((va_up_ne _ _ (by first | decide | omega)).trans (by assumption)) | exact (va_up_ne _ _ (by first | decide | omega)).trans ((va_up_ne _ _ (by first | decide | omega)).trans (va_up_self _ _ _)) | exact (va_up_ne _ _ (by first | decide | omega)).trans ((va_up_ne _ _ (by first | decide | omega)).trans ((va_up_ne _ _ (by first | decide | omega)).trans (by assumption))) | exact (va_up_ne _ _ (by first | decide | omega)).trans ((va_up_ne _ _ (by first | decide | omega)).trans ((va_up_ne _ _ (by first | decide | omega)).trans ((va_up_ne _ _ (by first | decide | omega)).trans (by assumption)))) | exact rfl) (by first | assumption | rfl | exact (List.getElem?_set_ne (by decide)).trans (by assumption) | exact List.getElem?_set_self (by omega)) ?_
            refine g_iload_n (pc' := 49) dX7_draw_48 rfl rfl ?_
            refine g_iload_n (pc' := 50) dX7_draw_49 rfl rfl ?_
            refine g_aload_n (pc' := 51) dX7_draw_50 rfl rfl ?_
            refine g_get (pc' := 54) fl_X7_49 dX7_draw_51 (by omega) (by first | assumption | exact va_up_self _ _ _ | exact (va_up_ne _ _ (by first | decide | omega)).trans (by assumption) | exact (va_up_ne _ _ (by first | decide | omega)).trans (va_up_self _ _ _) | exact (va_up_ne _ _ (by first | decide | omega)).trans ((va_up_ne _ _ (by first | decide | omega)).trans (by assumption)) | exact (va_up_ne _ _ (by first | decide | omega)).trans ((va_up_ne _ _ (by first | decide | omega)).trans (va_up_self _ _ _)) | exact (va_up_ne _ _ (by first | decide | omega)).trans ((va_up_ne _ _ (by first | decide | omega)).trans ((va_up_ne _ _ (by first | decide | omega)).trans (by assumption))) | exact (va_up_ne _ _ (by first | decide | omega)).trans ((va_up_ne _ _ (by first | decide | omega)).trans ((va_up_ne _ _ (by first | decide | omega)).trans ((va_up_ne _ _ (by first | decide | omega)).trans (by assumption)))) | exact rfl) (by first | assumption | rfl | exact (List.getElem?_set_ne (by decide)).trans (by assumption) | exact List.getElem?_set_self (by omega)) ?_
            refine gc_S 57 [.int (nI (af y)), .int (nI S)] [.int (nI g), .ref 5] cw_X7_129 sm_X7_sideOf dX7_draw_54 (by decide) (by decide) (Nat.le_refl _) (Nat.le_refl _) (Nat.le_of_ble_eq_true rfl) rfl (Nat.le_of_ble_eq_true rfl) (c_sideOf d2 h2 h6 ⟨rfl, ?_⟩)
            show G yX7_draw cX7_draw 5 (some .int) (rmD 6) none Q 0 0 57 [.ref 0, .int x, .int (nI g), .int (nI (af y)), .int (nI i)] [.int (nI (1 + af y / 2 ^ 12 % S)), .int (nI g), .ref 5] hp n
            refine gc_V 60 5 [.int (nI g), .int (nI (1 + af y / 2 ^ 12 % S))] [] cw_X7_133 im_X2_withDie se_X2_withDie dX7_draw_57 (by decide) (by decide) (Nat.le_refl _) (Nat.le_refl _) (Nat.le_of_ble_eq_true rfl) rfl (Nat.le_of_ble_eq_true rfl) (by omega) (by first | assumption | exact va_up_self _ _ _ | exact (va_up_ne _ _ (by first | decide | omega)).trans (by assumption) | exact (va_up_ne _ _ (by first | decide | omega)).trans (va_up_self _ _ _) | exact (va_up_ne _ _ (by first | decide | omega)).trans ((va_up_ne _ _ (by first | decide | omega)).trans (by assumption)) | exact (va_up_ne _ _ (by first | decide | omega)).trans ((va_up_ne _ _ (by first | decide | omega)).trans (va_up_self _ _ _)) | exact (va_up_ne _ _ (by first | decide | omega)).trans ((va_up_ne _ _ (by first | decide | omega)).trans ((va_up_ne _ _ (by first | decide | omega)).trans (by assumption))) | exact (va_up_ne _ _ (by first | decide | omega)).trans ((va_up_ne _ _ (by first | decide | omega)).trans ((va_up_ne _ _ (by first | decide | omega)).trans ((va_up_ne _ _ (by first | decide | omega)).trans (by assumption)))) | exact rfl) rfl rfl (c_withDie (z := sz S g) (r := nx S g (af y / 2 ^ 12 % S)) hn h6 hD c5 c7 c9 hg hN (hTH.2.1 _ hg) (by omega) (by omega) (by omega) (by rw [show 1 + af y / 2 ^ 12 % S - 1 = af y / 2 ^ 12 % S by omega]; exact hTM _ _ hg (by omega) hmd) ⟨rfl, ?_⟩)
            show G yX7_draw cX7_draw 5 (some .int) (rmD 6) none Q 0 0 60 [.ref 0, .int x, .int (nI g), .int (nI (af y)), .int (nI i)] [.int (nI (nx S g (af y / 2 ^ 12 % S)))] hp n
            refine g_istore_n (pc' := 61) dX7_draw_60 rfl (by decide) ?_
            first | refine g_iincN (z := 1) (pc' := 64) dX7_draw_61 rfl rfl (by decide) ?_ | refine g_iinc (pc' := 64) dX7_draw_61 rfl rfl (by decide) ?_
            refine g_goto (tgt := 20) dX7_draw_64 (by decide) ?_
            have := ih (i + 1) _ (zf y) (by omega) n2 (by omega) e
            rw [d1] at this
            exact this
      exact loop _ 0 h x (by omega) hh (by omega) rfl
    · exact absurd z1 tw0
end FL
theorem pt_sz {S g h : Nat} (h2 : 2 ≤ S) (h6 : S ≤ 6) (hg : g < nh S 5) (hh : h < nh S 5) (hp : pt S g h) : sz S g ≤ sz S h := by
  rw [← sh_sum h2 h6 hg, ← sh_sum h2 h6 hh]
  exact smF_mono hp
theorem pt_eq {S g h : Nat} (h2 : 2 ≤ S) (h6 : S ≤ 6) (hg : g < nh S 5) (hh : h < nh S 5) (hp : pt S g h) (hz : sz S g = sz S h) : g = h := by
  by_cases e : g = h
  · exact e
  · obtain ⟨p, s, -, a2, -, a4, a5⟩ := pt_down h2 h6 hg hh hp e
    have := pt_sz h2 h6 hg (by omega) a5
    omega
theorem mh_of {D S T R s h k sm : Nat} {bg it tt : Bool} {lu sl : Int64} (hW : WS D S T R bg it tt s sm h k lu sl) : (it && decide (twN D S R bg it tt s h = 0) && decide (0 < tlN T R bg it s k)) = mhB bg it tt k := by
  unfold mhB
  cases bg with
  | false =>
    rw [(hW.2 rfl).1]
    rfl
  | true =>
    cases it with
    | false => rfl
    | true =>
      obtain ⟨G0, ht⟩ := hW.1 rfl
      obtain ⟨a1, a2, a3, a4, a5⟩ := G0.2.1 rfl
      have e : decide (opn s R = 0) = false := decide_eq_false (by omega)
      unfold twN tlN
      rw [e]
      cases tt with
      | true =>
        have := ht rfl
        show (true && decide (D - sz S h = 0) && decide (0 < k)) = _
        rw [decide_eq_false (by omega)]
        rfl
      | false => rfl
theorem hh_of {D S T R s h k sm : Nat} {bg it tt : Bool} {lu sl : Int64} (hW : WS D S T R bg it tt s sm h k lu sl) : (it && decide (twN D S R bg it tt s h = 0)) = (bg && it && !tt) := by
  cases bg with
  | false =>
    rw [(hW.2 rfl).1]
    rfl
  | true =>
    cases it with
    | false => rfl
    | true =>
      obtain ⟨G0, ht⟩ := hW.1 rfl
      obtain ⟨a1, a2, a3, a4, a5⟩ := G0.2.1 rfl
      have e : decide (opn s R = 0) = false := decide_eq_false (by omega)
      unfold twN
      rw [e]
      cases tt with
      | true =>
        have := ht rfl
        show (true && decide (D - sz S h = 0)) = _
        rw [decide_eq_false (by omega)]
        rfl
      | false => rfl
theorem tw_le {D S R s h : Nat} {bg it tt : Bool} (hD : D ≤ 5) : twN D S R bg it tt s h ≤ 5 := by
  unfold twN
  split
  · split
    · split <;> omega
    · exact hD
  · omega
theorem tl_le {D S T R s h k sm : Nat} {bg it tt : Bool} {lu sl : Int64} (hT : T ≤ 3) (hW : WS D S T R bg it tt s sm h k lu sl) : tlN T R bg it s k ≤ 3 := by
  cases bg with
  | false => exact Nat.zero_le _
  | true =>
    obtain ⟨G0, ht⟩ := hW.1 rfl
    unfold tlN
    split
    · split
      · have := (G0.2.1 (by assumption)).2.2.1
        omega
      · exact hT
    · omega
theorem mh_t {bg it tt : Bool} {k : Nat} (h : mhB bg it tt k = true) : bg = true ∧ it = true ∧ tt = false ∧ 0 < k := by
  unfold mhB at h
  cases bg <;> cases it <;> cases tt <;> simp_all
