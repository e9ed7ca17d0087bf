theorem c_beginM {hp : AH} {n D S T R s sm h k : Nat} {kd nn pp fl : Nat → Nat} {bg it tt : Bool} {lu sl : Int64} {Q : Option Value → AH → Nat → Prop} (hn : 64 ≤ n) (M : MS hp D S T R kd nn pp bg it tt s sm h k fl lu sl) (hs0 : bg = false → s = 0)
    (hq0 : bg = true ∨ R = 0 → Q (some (.int (-4))) hp n)
    (hqL : bg = false → 1 ≤ R → 1000000000000000 < (S ^ D) ^ (T * R) → ∀ hp' : AH, MS hp' D S T R kd nn pp bg it tt s sm h k fl lu sl → FRm hp hp' → Q (some (.int (-5))) hp' n)
    (hq : bg = false → 1 ≤ R → (S ^ D) ^ (T * R) ≤ 1000000000000000 → ∀ hp' : AH, MS hp' D S T R kd nn pp true false false 0 0 0 0 fl (lN 0) (lN 0) → FRm hp hp' → Q (some (.int (nI 1))) hp' n) : CT yX8_begin cX8_begin 3 (some .int) (rmD 4) [.ref 47] hp n Q := by
  obtain ⟨⟨h2, h6, hD1, hD, hT1, hT3, hR, hRV⟩, ⟨x8, x23, x31, c47, hb⟩, hA, hX, ⟨ffl, c56, hffl⟩⟩ := id M
  have b1 := bI_le bg
  cases bg with
  | true =>
    show G yX8_begin cX8_begin 3 (some .int) (rmD 4) none Q 0 0 0 [.ref 47, uu, uu] [] hp n
    refine g_aload_n (pc' := 1) dX8_begin_0 rfl rfl ?_
    refine g_get (pc' := 4) fl_X8_82 dX8_begin_1 (by omega) (by first | assumption | exact va_up_self _ _ _ | exact (va_up_ne _ _ (by decide)).trans (by assumption) | exact (va_up_ne _ _ (by decide)).trans (va_up_self _ _ _) | exact (va_up_ne _ _ (by decide)).trans ((va_up_ne _ _ (by decide)).trans (by assumption)) | exact (va_up_ne _ _ (by decide)).trans ((va_up_ne _ _ (by decide)).trans (va_up_self _ _ _)) | exact (va_up_ne _ _ (by decide)).trans ((va_up_ne _ _ (by decide)).trans ((va_up_ne _ _ (by decide)).trans (by assumption))) | exact (va_up_ne _ _ (by decide)).trans ((va_up_ne _ _ (by decide)).trans ((va_up_ne _ _ (by decide)).trans ((va_up_ne _ _ (by decide)).trans (by assumption)))) | exact rfl) (by first | assumption | rfl | exact (List.getElem?_set_ne (by decide)).trans (by assumption) | exact List.getElem?_set_self (by omega)) ?_
    refine g_if_neN (tgt := 14) (pc' := 7) dX8_begin_4 (by decide) (by first | omega | decide) (fun z1 => ?_) (fun z1 => ?_)
    · refine g_bipush (pc' := 16) (v := -4) dX8_begin_14 (by decide) ?_
      exact g_iret dX8_begin_16 rfl (Nat.le_refl _) (Nat.le_refl _) (hq0 (Or.inl rfl))
    · exact absurd z1 (by decide)
  | false =>
    have es := hs0 rfl
    subst es
    by_cases hR0 : R = 0
    · subst hR0
      show G yX8_begin cX8_begin 3 (some .int) (rmD 4) none Q 0 0 0 [.ref 47, uu, uu] [] hp n
      refine g_aload_n (pc' := 1) dX8_begin_0 rfl rfl ?_
      refine g_get (pc' := 4) fl_X8_82 dX8_begin_1 (by omega) (by first | assumption | exact va_up_self _ _ _ | exact (va_up_ne _ _ (by decide)).trans (by assumption) | exact (va_up_ne _ _ (by decide)).trans (va_up_self _ _ _) | exact (va_up_ne _ _ (by decide)).trans ((va_up_ne _ _ (by decide)).trans (by assumption)) | exact (va_up_ne _ _ (by decide)).trans ((va_up_ne _ _ (by decide)).trans (va_up_self _ _ _)) | exact (va_up_ne _ _ (by decide)).trans ((va_up_ne _ _ (by decide)).trans ((va_up_ne _ _ (by decide)).trans (by assumption))) | exact (va_up_ne _ _ (by decide)).trans ((va_up_ne _ _ (by decide)).trans ((va_up_ne _ _ (by decide)).trans ((va_up_ne _ _ (by decide)).trans (by assumption)))) | exact rfl) (by first | assumption | rfl | exact (List.getElem?_set_ne (by decide)).trans (by assumption) | exact List.getElem?_set_self (by omega)) ?_
      refine g_if_neN (tgt := 14) (pc' := 7) dX8_begin_4 (by decide) (by first | omega | decide) (fun z1 => ?_) (fun z1 => ?_)
      · exact absurd rfl z1
      · refine g_aload_n (pc' := 8) dX8_begin_7 rfl rfl ?_
        refine g_get (pc' := 11) fl_X8_86 dX8_begin_8 (by omega) (by first | assumption | exact va_up_self _ _ _ | exact (va_up_ne _ _ (by decide)).trans (by assumption) | exact (va_up_ne _ _ (by decide)).trans (va_up_self _ _ _) | exact (va_up_ne _ _ (by decide)).trans ((va_up_ne _ _ (by decide)).trans (by assumption)) | exact (va_up_ne _ _ (by decide)).trans ((va_up_ne _ _ (by decide)).trans (va_up_self _ _ _)) | exact (va_up_ne _ _ (by decide)).trans ((va_up_ne _ _ (by decide)).trans ((va_up_ne _ _ (by decide)).trans (by assumption))) | exact (va_up_ne _ _ (by decide)).trans ((va_up_ne _ _ (by decide)).trans ((va_up_ne _ _ (by decide)).trans ((va_up_ne _ _ (by decide)).trans (by assumption)))) | exact rfl) (by first | assumption | rfl | exact (List.getElem?_set_ne (by decide)).trans (by assumption) | exact List.getElem?_set_self (by omega)) ?_
        refine g_if_neN (tgt := 17) (pc' := 14) dX8_begin_11 (by decide) (by first | omega | decide) (fun z2 => ?_) (fun z2 => ?_)
        · exact absurd rfl z2
        · refine g_bipush (pc' := 16) (v := -4) dX8_begin_14 (by decide) ?_
          exact g_iret dX8_begin_16 rfl (Nat.le_refl _) (Nat.le_refl _) (hq0 (Or.inr rfl))
    · obtain ⟨fk, fn, fp, c48, c49, c50, hrow⟩ := id hA
      obtain ⟨⟨a1, c51⟩, ⟨a2, c52⟩, ⟨a3, c53⟩, ⟨a4, c54⟩, ⟨a5, c55⟩, ⟨a6, c57⟩, ⟨a7, c58⟩, ⟨a8, c59⟩, ⟨a9, c60⟩, ⟨a10, c61⟩, ⟨a11, c62⟩, ⟨a12, c63⟩⟩ := id hX
      refine c_begin (kd := kd) (nn := nn) (pp := pp) hn c47 mo_MF h2 h6 hD1 hD hT1 hT3 (by omega) hR hRV rfl rfl rfl rfl c48 c49 c50 c51 c52 c53 c54 c55 c57 c58 c59 c60 c63 hrow (fun hL => hqL rfl (by omega) hL _ ⟨⟨h2, h6, hD1, hD, hT1, hT3, hR, hRV⟩, ⟨x8, _, x31, rfl, (fun q => by cases q)⟩, MA_of hA (fun i q1 q2 => va_up_ne _ _ (by omega)), MX_of hX (fun i q1 q2 q3 q4 q5 => va_up_ne _ _ (by omega)) (MS_59 M _).1 (MS_59 M _).2, ffl, (va_up_ne _ _ (by decide)).trans c56, hffl⟩ (fun i hi => va_up_ne _ _ (by omega))) (fun hL hp' x hfr d47 hMG d59 d60 d63 => ?_)
      have hMG' := hMG
      obtain ⟨fsh, fz, ft, fm, fpt, fsp, fw, m1, m2, m3, m4, m5, m6, m7, -⟩ := hMG'
      exact hq rfl (by omega) hL hp' ⟨⟨h2, h6, hD1, hD, hT1, hT3, hR, hRV⟩, ⟨_, _, x, d47, fun _ => ⟨by omega, hL, rfl, rfl, hMG⟩⟩, MA_of hA (fun i q1 q2 => hfr i (by omega)), ⟨⟨_, m1⟩, ⟨_, m2⟩, ⟨_, m3⟩, ⟨_, m4⟩, ⟨_, m5⟩, ⟨_, m6⟩, ⟨_, m7⟩, d59, d60, ⟨a10, (hfr 61 (by omega)).trans c61⟩, ⟨a11, (hfr 62 (by omega)).trans c62⟩, d63⟩, ffl, (hfr 56 (by omega)).trans c56, hffl⟩ (fun i hi => hfr i (by omega))
/-- findHeaps at any time: the state stays -/
theorem c_fH {hp : AH} {n D S T R s sm h k : Nat} {kd nn pp fl : Nat → Nat} {bg it tt : Bool} {lu sl : Int64} {Q : Option Value → AH → Nat → Prop} (hn : 64 ≤ n) (M : MS hp D S T R kd nn pp bg it tt s sm h k fl lu sl)
    (hq : ∀ (hp' : AH) (x23 : Int64) (x31 : Int32) (fsh fz ft fm : Nat → Int32), MS hp' D S T R kd nn pp bg it tt s sm h k fl lu sl → FRm hp hp' → hp' 47 = ob 8 (mo (nI D) (nI S) (nI T) (nI R) (nI (bI bg)) (nI (nh S D)) (nI s) (nI sm) (nI (bI it)) (nI (bI tt)) (nI h) (nI k) lu sl x23 x31) → hp' 51 = aI 2772 fsh → hp' 52 = aI 462 fz → hp' 53 = aI 462 ft → hp' 54 = aI 2772 fm → TB S (nh S D) fsh fz ft → TM S D (nh S D) fm → Q none hp' n) : CT yX8_findHeaps cX8_findHeaps 7 none (rmD 1) [.ref 47] hp n Q := by
  obtain ⟨⟨h2, h6, hD1, hD, hT1, hT3, hR, hRV⟩, ⟨x8, x23, x31, c47, hb⟩, hA, hX, ⟨ffl, c56, hffl⟩⟩ := id M
  obtain ⟨⟨a1, c51⟩, ⟨a2, c52⟩, ⟨a3, c53⟩, ⟨a4, c54⟩, ⟨a5, c55⟩, ⟨a6, c57⟩, ⟨a7, c58⟩, ⟨a8, c59⟩, ⟨a9, c60⟩, ⟨a10, c61⟩, ⟨a11, c62⟩, ⟨a12, c63⟩⟩ := id hX
  refine c_findHeaps hn c47 mo_MF h2 h6 hD1 hD rfl c51 c52 c53 c54 c63 (fun fsh fz ft fm fa hTB hTM => hq _ x23 x31 fsh fz ft fm ⟨⟨h2, h6, hD1, hD, hT1, hT3, hR, hRV⟩, ⟨_, x23, x31, rfl, fun e => ?_⟩, ?_, ⟨⟨_, rfl⟩, ⟨_, rfl⟩, ⟨_, rfl⟩, ⟨_, rfl⟩, ⟨a5, c55⟩, ⟨a6, c57⟩, ⟨a7, c58⟩, ⟨a8, c59⟩, ⟨a9, c60⟩, ⟨a10, c61⟩, ⟨a11, c62⟩, ⟨_, rfl⟩⟩, ffl, c56, hffl⟩ (fun i hi => ?_) rfl rfl rfl rfl rfl hTB hTM)
  · obtain ⟨q1, q2, -, q4, q5⟩ := hb e
    obtain ⟨gsh, gz, gt', gm, gpt, gsp, gw', m1, m2, m3, m4, m5, m6, m7, m8, m9, m10⟩ := q5
    exact ⟨q1, q2, rfl, q4, fsh, fz, ft, fm, gpt, gsp, gw', rfl, rfl, rfl, rfl, m5, m6, m7, hTB, hTM, m10⟩
  · obtain ⟨fk, fn, fp, c48, c49, c50, hrow⟩ := hA
    exact ⟨fk, fn, fp, c48, c49, c50, hrow⟩
  · simp only [va_up, hF]
    repeat rw [if_neg (by omega)]
/-- the whole heap that a number tells -/
def wpN (D S : Nat) (x : Int32) : Option Nat := if x < 0 then none else match ho D S D 0 x.toNatClampNeg with
  | none => none
  | some h => if sz S h = D then some h else none
theorem c_points {hp : AH} {n D S T R s sm h k : Nat} {kd nn pp fl : Nat → Nat} {bg it tt : Bool} {lu sl : Int64} {x y : Int32} {Q : Option Value → AH → Nat → Prop} (hn : 64 ≤ n) (M : MS hp D S T R kd nn pp bg it tt s sm h k fl lu sl)
    (hq0 : rwB R x = false → Q (some (.int (-2))) hp n)
    (hq1 : rwB R x = true → wpN D S y = none → ∀ hp' : AH, MS hp' D S T R kd nn pp bg it tt s sm h k fl lu sl → FRm hp hp' → Q (some (.int (-3))) hp' n)
    (hq2 : ∀ r, r < R → x = nI r → ∀ g, wpN D S y = some g → ∀ hp' : AH, MS hp' D S T R kd nn pp bg it tt s sm h k fl lu sl → FRm hp hp' → Q (some (.int (nI (Pf kd nn pp S r g)))) hp' n) : CT yX8_points cX8_points 4 (some .int) (rmD 2) [.ref 47, .int x, .int y] hp n Q := by
  obtain ⟨⟨h2, h6, hD1, hD, hT1, hT3, hR, hRV⟩, ⟨x8, x23, x31, c47, hb⟩, -⟩ := id M
  obtain ⟨hN, hN1⟩ := nh_le h2 h6 hD
  show G yX8_points cX8_points 4 (some .int) (rmD 2) none Q 0 0 0 [.ref 47, .int x, .int y, uu] [] hp n
  refine g_iload_n (pc' := 1) dX8_points_0 rfl rfl ?_
  refine g_iconst (pc' := 2) (v := nI 0) dX8_points_1 (by decide) ?_
  refine g_aload_n (pc' := 3) dX8_points_2 rfl rfl ?_
  refine g_get (pc' := 6) fl_X8_86 dX8_points_3 (by omega) (by first | assumption | exact va_up_self _ _ _ | exact (va_up_ne _ _ (by decide)).trans (by assumption) | exact (va_up_ne _ _ (by decide)).trans (va_up_self _ _ _) | exact (va_up_ne _ _ (by decide)).trans ((va_up_ne _ _ (by decide)).trans (by assumption)) | exact (va_up_ne _ _ (by decide)).trans ((va_up_ne _ _ (by decide)).trans (va_up_self _ _ _)) | exact (va_up_ne _ _ (by decide)).trans ((va_up_ne _ _ (by decide)).trans ((va_up_ne _ _ (by decide)).trans (by assumption))) | exact (va_up_ne _ _ (by decide)).trans ((va_up_ne _ _ (by decide)).trans ((va_up_ne _ _ (by decide)).trans ((va_up_ne _ _ (by decide)).trans (by assumption)))) | exact rfl) (by first | assumption | rfl | exact (List.getElem?_set_ne (by decide)).trans (by assumption) | exact List.getElem?_set_self (by omega)) ?_
  refine g_iconst (pc' := 7) (v := nI 1) dX8_points_6 (by decide) ?_
  refine g_isub (pc' := 8) dX8_points_7 ?_
  refine gc_S 11 [.int x, .int (nI 0), .int (nI R - nI 1)] [] cw_X8_78 sm_X8_in dX8_points_8 (by decide) (by decide) (Nat.le_refl _) (Nat.le_refl _) (Nat.le_of_ble_eq_true rfl) rfl (Nat.le_of_ble_eq_true rfl) (c_in ⟨rfl, ?_⟩)
  show G yX8_points cX8_points 4 (some .int) (rmD 2) none Q 0 0 11 [.ref 47, .int x, .int y, uu] [.int (nI (bI (rwB R x)))] hp n
  cases hw : rwB R x with
  | false =>
    refine g_if_neN (tgt := 17) (pc' := 14) dX8_points_11 (by decide) (by first | omega | decide) (fun z1 => ?_) (fun z1 => ?_)
    · exact absurd rfl z1
    · refine g_bipush (pc' := 16) (v := -2) dX8_points_14 (by decide) ?_
      exact g_iret dX8_points_16 rfl (Nat.le_refl _) (Nat.le_refl _) (hq0 hw)
  | true =>
    have hq1' := hq1 hw
    obtain ⟨r, hr, rfl⟩ := rwB_t hR hw
    refine g_if_neN (tgt := 17) (pc' := 14) dX8_points_11 (by decide) (by first | omega | decide) (fun z1 => ?_) (fun z1 => ?_)
    · refine g_aload_n (pc' := 18) dX8_points_17 rfl rfl ?_
      refine gc_V 21 47 [] [] cw_X8_131 im_X8_findHeaps se_X8_findHeaps dX8_points_18 (by decide) (by decide) (Nat.le_refl _) (Nat.le_refl _) (Nat.le_of_ble_eq_true rfl) rfl (Nat.le_of_ble_eq_true rfl) (by omega) (by first | assumption | exact va_up_self _ _ _ | exact (va_up_ne _ _ (by decide)).trans (by assumption) | exact (va_up_ne _ _ (by decide)).trans (va_up_self _ _ _) | exact (va_up_ne _ _ (by decide)).trans ((va_up_ne _ _ (by decide)).trans (by assumption)) | exact (va_up_ne _ _ (by decide)).trans ((va_up_ne _ _ (by decide)).trans (va_up_self _ _ _)) | exact (va_up_ne _ _ (by decide)).trans ((va_up_ne _ _ (by decide)).trans ((va_up_ne _ _ (by decide)).trans (by assumption))) | exact (va_up_ne _ _ (by decide)).trans ((va_up_ne _ _ (by decide)).trans ((va_up_ne _ _ (by decide)).trans ((va_up_ne _ _ (by decide)).trans (by assumption)))) | exact rfl) rfl rfl (c_fH hn M (fun hp' y23 y31 fsh fz ft fm M' R' d47 d51 d52 d53 d54 hTB hTM => ⟨rfl, ?_⟩))
      have no : ∀ w, wpN D S y = none → G yX8_points cX8_points 4 (some .int) (rmD 2) none Q 0 0 45 [.ref 47, .int (nI r), .int y, .int w] [] hp' n := by
        intro w e
        refine g_bipush (pc' := 47) (v := -3) dX8_points_45 (by decide) ?_
        refine g_goto (tgt := 56) dX8_points_47 (by decide) ?_
        exact g_iret dX8_points_56 rfl (Nat.le_refl _) (Nat.le_refl _) (hq1' e hp' M' R')
      refine g_aload_n (pc' := 22) dX8_points_21 rfl rfl ?_
      refine g_iload_n (pc' := 23) dX8_points_22 rfl rfl ?_
      refine gc_V 26 47 [.int y] [] cw_X8_189 im_X8_heapOf se_X8_heapOf dX8_points_23 (by decide) (by decide) (Nat.le_refl _) (Nat.le_refl _) (Nat.le_of_ble_eq_true rfl) rfl (Nat.le_of_ble_eq_true rfl) (by omega) (by first | assumption | exact va_up_self _ _ _ | exact (va_up_ne _ _ (by decide)).trans (by assumption) | exact (va_up_ne _ _ (by decide)).trans (va_up_self _ _ _) | exact (va_up_ne _ _ (by decide)).trans ((va_up_ne _ _ (by decide)).trans (by assumption)) | exact (va_up_ne _ _ (by decide)).trans ((va_up_ne _ _ (by decide)).trans (va_up_self _ _ _)) | exact (va_up_ne _ _ (by decide)).trans ((va_up_ne _ _ (by decide)).trans ((va_up_ne _ _ (by decide)).trans (by assumption))) | exact (va_up_ne _ _ (by decide)).trans ((va_up_ne _ _ (by decide)).trans ((va_up_ne _ _ (by decide)).trans ((va_up_ne _ _ (by decide)).trans (by assumption)))) | exact rfl) rfl rfl (c_heapOf hn d47 mo_MF h2 h6 hD d52 d54 hTB.2.1 hTM (fun hy => ⟨rfl, ?_⟩) (fun v hv hy => ⟨rfl, ?_⟩))
      · show G yX8_points cX8_points 4 (some .int) (rmD 2) none Q 0 0 26 [.ref 47, .int (nI r), .int y, uu] [.int (-1)] hp' n
        refine g_istore_n (pc' := 27) dX8_points_26 rfl (by decide) ?_
        refine g_iload_n (pc' := 28) dX8_points_27 rfl rfl ?_
        refine g_iconst (pc' := 29) (v := -1) dX8_points_28 (by decide) ?_
        refine g_icmp_eq (tgt := 45) (pc' := 32) dX8_points_29 (by decide) (fun z2 => ?_) (fun z2 => ?_)
        · exact no _ (if_pos hy)
        · exact absurd rfl z2
      · have e1 : wpN D S y = match ho D S D 0 v with | none => none | some g => if sz S g = D then some g else none := by
          unfold wpN
          rw [hy, if_neg (nI_pos hv), nI_clamp hv]
        cases hg : ho D S D 0 v with
        | none =>
          rw [hg] at e1
          show G yX8_points cX8_points 4 (some .int) (rmD 2) none Q 0 0 26 [.ref 47, .int (nI r), .int y, uu] [.int (-1)] hp' n
          refine g_istore_n (pc' := 27) dX8_points_26 rfl (by decide) ?_
          refine g_iload_n (pc' := 28) dX8_points_27 rfl rfl ?_
          refine g_iconst (pc' := 29) (v := -1) dX8_points_28 (by decide) ?_
          refine g_icmp_eq (tgt := 45) (pc' := 32) dX8_points_29 (by decide) (fun z2 => ?_) (fun z2 => ?_)
          · exact no _ e1
          · exact absurd rfl z2
        | some g =>
          rw [hg] at e1
          have hgl := ho_ok h2 h6 hD hN1 (by rw [sz_0]; omega) hg
          have zg := sz_le S g
          show G yX8_points cX8_points 4 (some .int) (rmD 2) none Q 0 0 26 [.ref 47, .int (nI r), .int y, uu] [.int (nI g)] hp' n
          refine g_istore_n (pc' := 27) dX8_points_26 rfl (by decide) ?_
          refine g_iload_n (pc' := 28) dX8_points_27 rfl rfl ?_
          refine g_iconst (pc' := 29) (v := -1) dX8_points_28 (by decide) ?_
          refine g_icmp_eq (tgt := 45) (pc' := 32) dX8_points_29 (by decide) (fun z2 => ?_) (fun z2 => ?_)
          · exact absurd z2 (nI_nm1 (by omega))
          · refine g_aload_n (pc' := 33) dX8_points_32 rfl rfl ?_
            refine g_get (pc' := 36) fl_X8_32 dX8_points_33 (by omega) (by first | assumption | exact va_up_self _ _ _ | exact (va_up_ne _ _ (by decide)).trans (by assumption) | exact (va_up_ne _ _ (by decide)).trans (va_up_self _ _ _) | exact (va_up_ne _ _ (by decide)).trans ((va_up_ne _ _ (by decide)).trans (by assumption)) | exact (va_up_ne _ _ (by decide)).trans ((va_up_ne _ _ (by decide)).trans (va_up_self _ _ _)) | exact (va_up_ne _ _ (by decide)).trans ((va_up_ne _ _ (by decide)).trans ((va_up_ne _ _ (by decide)).trans (by assumption))) | exact (va_up_ne _ _ (by decide)).trans ((va_up_ne _ _ (by decide)).trans ((va_up_ne _ _ (by decide)).trans ((va_up_ne _ _ (by decide)).trans (by assumption)))) | exact rfl) (by first | assumption | rfl | exact (List.getElem?_set_ne (by decide)).trans (by assumption) | exact List.getElem?_set_self (by omega)) ?_
            refine g_iload_n (pc' := 37) dX8_points_36 rfl rfl ?_
            refine g_ialdV (pc' := 38) dX8_points_37 (by omega) (by first | assumption | exact va_up_self _ _ _ | exact (va_up_ne _ _ (by decide)).trans (by assumption) | exact (va_up_ne _ _ (by decide)).trans (va_up_self _ _ _) | exact (va_up_ne _ _ (by decide)).trans ((va_up_ne _ _ (by decide)).trans (by assumption)) | exact (va_up_ne _ _ (by decide)).trans ((va_up_ne _ _ (by decide)).trans (va_up_self _ _ _)) | exact (va_up_ne _ _ (by decide)).trans ((va_up_ne _ _ (by decide)).trans ((va_up_ne _ _ (by decide)).trans (by assumption))) | exact (va_up_ne _ _ (by decide)).trans ((va_up_ne _ _ (by decide)).trans ((va_up_ne _ _ (by decide)).trans ((va_up_ne _ _ (by decide)).trans (by assumption)))) | exact rfl) ((IX_nI (by omega) (by omega))) (hTB.2.1 _ hgl) ?_
            refine g_aload_n (pc' := 39) dX8_points_38 rfl rfl ?_
            refine g_get (pc' := 42) fl_X8_7 dX8_points_39 (by omega) (by first | assumption | exact va_up_self _ _ _ | exact (va_up_ne _ _ (by decide)).trans (by assumption) | exact (va_up_ne _ _ (by decide)).trans (va_up_self _ _ _) | exact (va_up_ne _ _ (by decide)).trans ((va_up_ne _ _ (by decide)).trans (by assumption)) | exact (va_up_ne _ _ (by decide)).trans ((va_up_ne _ _ (by decide)).trans (va_up_self _ _ _)) | exact (va_up_ne _ _ (by decide)).trans ((va_up_ne _ _ (by decide)).trans ((va_up_ne _ _ (by decide)).trans (by assumption))) | exact (va_up_ne _ _ (by decide)).trans ((va_up_ne _ _ (by decide)).trans ((va_up_ne _ _ (by decide)).trans ((va_up_ne _ _ (by decide)).trans (by assumption)))) | exact rfl) (by first | assumption | rfl | exact (List.getElem?_set_ne (by decide)).trans (by assumption) | exact List.getElem?_set_self (by omega)) ?_
            refine g_icmp_eqN (tgt := 50) (pc' := 45) dX8_points_42 (by decide) (by first | omega | decide) (by first | omega | decide) (fun z3 => ?_) (fun z3 => ?_)
            · simp only [z3, if_true] at e1
              obtain ⟨r1, r2, r3, r4⟩ := hRV r hr
              obtain ⟨-, -, ⟨fk, fn, fp, c48, c49, c50, hrow⟩, -, -⟩ := id M'
              obtain ⟨q1, q2, q3⟩ := hrow r hr
              refine g_aload_n (pc' := 51) dX8_points_50 rfl rfl ?_
              refine g_iload_n (pc' := 52) dX8_points_51 rfl rfl ?_
              refine g_iload_n (pc' := 53) dX8_points_52 rfl rfl ?_
              refine gc_V 56 47 [.int (nI g), .int (nI r)] [] cw_X8_134 im_X8_pointsIn se_X8_pointsIn dX8_points_53 (by decide) (by decide) (Nat.le_refl _) (Nat.le_refl _) (Nat.le_of_ble_eq_true rfl) rfl (Nat.le_of_ble_eq_true rfl) (by omega) (by first | assumption | exact va_up_self _ _ _ | exact (va_up_ne _ _ (by decide)).trans (by assumption) | exact (va_up_ne _ _ (by decide)).trans (va_up_self _ _ _) | exact (va_up_ne _ _ (by decide)).trans ((va_up_ne _ _ (by decide)).trans (by assumption)) | exact (va_up_ne _ _ (by decide)).trans ((va_up_ne _ _ (by decide)).trans (va_up_self _ _ _)) | exact (va_up_ne _ _ (by decide)).trans ((va_up_ne _ _ (by decide)).trans ((va_up_ne _ _ (by decide)).trans (by assumption))) | exact (va_up_ne _ _ (by decide)).trans ((va_up_ne _ _ (by decide)).trans ((va_up_ne _ _ (by decide)).trans ((va_up_ne _ _ (by decide)).trans (by assumption)))) | exact rfl) rfl rfl (c_pointsIn (cn := sh S g) hn d47 mo_MF c48 c49 c50 d51 (by omega) (by omega) r1 r2 r3 r4 (fun k hk => hTB.1 g k hgl hk) (fun k _ => sh_le S g k) q1 q2 q3 ⟨rfl, ?_⟩)
              exact g_iret dX8_points_56 rfl (Nat.le_refl _) (Nat.le_refl _) (hq2 r hr rfl g e1 hp' M' R')
            · simp only [z3, if_false] at e1
              exact no _ e1
    · exact absurd z1 (by decide)
