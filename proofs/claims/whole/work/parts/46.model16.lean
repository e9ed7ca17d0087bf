def dz (x : Int32) : Int32 := (x * 1103515245 + nI 12345) &&& 2147483647
def dn (x : Int32) : Nat := (dz x).toNatClampNeg
theorem dz_nI (x : Int32) : dz x = nI (dn x) ∧ dn x < 2 ^ 31 := by
  obtain ⟨j, h1, h2⟩ := pk_andE (x * 1103515245 + nI 12345) (m := 2147483647) 31 (by decide)
  have e : dn x = j := by
    show (dz x).toNatClampNeg = j
    unfold dz
    rw [h2, nI_clamp h1]
  rw [e]
  exact ⟨h2, h1⟩
/-- what is asked of the draws: the number behind y, and as a whole number -/
def DZ (zf : Int32 → Int32) (af : Int32 → Nat) : Prop := ∀ y, (y * 1103515245 + nI 12345) &&& 2147483647 = zf y ∧ zf y = nI (af y) ∧ af y < 2 ^ 31
theorem DZ_dz : DZ dz dn := fun y => ⟨rfl, dz_nI y⟩
/-- dice drawn to h -/
def dr (zf : Int32 → Int32) (af : Int32 → Nat) (S : Nat) : Nat → Nat → Int32 → Nat
  | 0, h, _ => h
  | f + 1, h, x => dr zf af S f (nx S h (af x / 2 ^ 12 % S)) (zf x)
theorem dr_ok {zf : Int32 → Int32} {af : Int32 → Nat} {S D : Nat} (h2 : 2 ≤ S) (h6 : S ≤ 6) (hD : D ≤ 5) : ∀ (f h : Nat) (x : Int32), h < nh S D → sz S h + f = D → dr zf af S f h x < nh S D ∧ sz S (dr zf af S f h x) = D := by
  intro f
  induction f with
  | zero => intro h x hh hz; exact ⟨hh, hz⟩
  | succ f ih =>
    intro h x hh hz
    obtain ⟨-, b2, b3, -⟩ := nx_ok h2 h6 hD hh (by omega) (show af x / 2 ^ 12 % S < S from Nat.mod_lt _ (by omega))
    exact ih _ _ b2 (by omega)
theorem c_draw {zf : Int32 → Int32} {af : Int32 → Nat} {hp : AH} {n D S T R s sm h k : Nat} {kd nn pp fl : Nat → Nat} {bg it tt : Bool} {lu sl : Int64} {x : Int32} {Q : Option Value → AH → Nat → Prop} (hZ : DZ zf af) (hn : 64 ≤ n) (M : MS hp D S T R kd nn pp bg it tt s sm h k fl lu sl) (hs : s < 256) (G0 : bg = true → WG D S T R it tt s h k) (hsm : sm < 2 ^ 31)
    (hq0 : mfB R bg it tt s = false → Q (some (.int (-4))) hp n)
    (hq2 : mfB R bg it tt s = true → ∀ to, to = dr zf af S (D - sz S (fhN it h)) (fhN it h) x → ∀ hp' : AH, MS hp' D S T R kd nn pp true true false s sm to (fkN it T k) fl (lu + (lN (sdM D S T R kd nn pp true false s sm to (fkN it T k)) - lN (sdM D S T R kd nn pp it tt s sm h k))) sl → FRm hp hp' → Q (some (.int (nI (td S to)))) hp' n) : CT yX8_draw cX8_draw 4 (some .int) (rmD 8) [.ref 47, .int x] hp n Q := by
  obtain ⟨⟨h2, h6, hD1, hD, hT1, hT3, hR, hRV⟩, ⟨x8, x23, x31, c47, hb⟩, -⟩ := id M
  obtain ⟨hN, hN1⟩ := nh_le h2 h6 hD
  show G yX8_draw cX8_draw 4 (some .int) (rmD 8) none Q 0 0 0 [.ref 47, .int x, uu, uu] [] hp n
  refine g_aload_n (pc' := 1) dX8_draw_0 rfl rfl ?_
  refine gc_V 4 47 [] [] cw_X8_181 im_X8_mayFall se_X8_mayFall dX8_draw_1 (by decide) (by decide) (Nat.le_refl _) (Nat.le_refl _) (Nat.le_of_ble_eq_true rfl) rfl (Nat.le_of_ble_eq_true rfl) (by omega) (by first | assumption | exact va_up_self _ _ _ | exact (va_up_ne _ _ (by decide)).trans (by assumption) | exact (va_up_ne _ _ (by decide)).trans (va_up_self _ _ _) | exact (va_up_ne _ _ (by decide)).trans ((va_up_ne _ _ (by decide)).trans (by assumption)) | exact (va_up_ne _ _ (by decide)).trans ((va_up_ne _ _ (by decide)).trans (va_up_self _ _ _)) | exact (va_up_ne _ _ (by decide)).trans ((va_up_ne _ _ (by decide)).trans ((va_up_ne _ _ (by decide)).trans (by assumption))) | exact (va_up_ne _ _ (by decide)).trans ((va_up_ne _ _ (by decide)).trans ((va_up_ne _ _ (by decide)).trans ((va_up_ne _ _ (by decide)).trans (by assumption)))) | exact rfl) rfl rfl (c_mayFall (D := D) (S := S) (T := T) (R := R) (bg := bg) (it := it) (tt := tt) (s := s) hn c47 mo_MF hR rfl rfl rfl rfl hs ⟨rfl, ?_⟩)
  cases hm : mfB R bg it tt s with
  | false =>
    refine g_if_neN (tgt := 10) (pc' := 7) dX8_draw_4 (by decide) (by first | omega | decide) (fun z1 => ?_) (fun z1 => ?_)
    · exact absurd rfl z1
    · refine g_bipush (pc' := 9) (v := -4) dX8_draw_7 (by decide) ?_
      exact g_iret dX8_draw_9 rfl (Nat.le_refl _) (Nat.le_refl _) (hq0 hm)
  | true =>
    have hq2' := hq2 hm
    clear hq2
    have ebg : bg = true := by
      cases bg with
      | true => rfl
      | false => simp [mfB] at hm
    subst ebg
    have hop : ¬ opn s R = 0 := by
      intro q
      simp [mfB, q] at hm
    have htt : it = true → tt = true := by
      intro q
      subst q
      cases tt with
      | true => rfl
      | false => simp [mfB] at hm
    have G1 := G0 rfl
    obtain ⟨x0, B⟩ := MS_B M
    obtain ⟨c47, F, -, hL, -, -, -, -, ⟨fsh, fz, ftd, fm, fpt, fsp, fw, c51, c52, c53, c54, c55, c57, c58, hTB, hTM, hpt, hpw, hw⟩, -, -⟩ := id B
    have hfh : fhN it h < nh S D := by
      unfold fhN
      cases it with
      | true => exact (G1.2.1 rfl).2.1
      | false => simp only [Bool.false_eq_true, if_false]; omega
    refine g_if_neN (tgt := 10) (pc' := 7) dX8_draw_4 (by decide) (by first | omega | decide) (fun z1 => ?_) (fun z1 => ?_)
    · clear z1
      refine g_aload_n (pc' := 11) dX8_draw_10 rfl rfl ?_
      refine g_get (pc' := 14) fl_X8_147 dX8_draw_11 (by omega) (by first | assumption | exact va_up_self _ _ _ | exact (va_up_ne _ _ (by decide)).trans (by assumption) | exact (va_up_ne _ _ (by decide)).trans (va_up_self _ _ _) | exact (va_up_ne _ _ (by decide)).trans ((va_up_ne _ _ (by decide)).trans (by assumption)) | exact (va_up_ne _ _ (by decide)).trans ((va_up_ne _ _ (by decide)).trans (va_up_self _ _ _)) | exact (va_up_ne _ _ (by decide)).trans ((va_up_ne _ _ (by decide)).trans ((va_up_ne _ _ (by decide)).trans (by assumption))) | exact (va_up_ne _ _ (by decide)).trans ((va_up_ne _ _ (by decide)).trans ((va_up_ne _ _ (by decide)).trans ((va_up_ne _ _ (by decide)).trans (by assumption)))) | exact rfl) (by first | assumption | rfl | exact (List.getElem?_set_ne (by decide)).trans (by assumption) | exact List.getElem?_set_self (by omega)) ?_
      have main : G yX8_draw cX8_draw 4 (some .int) (rmD 8) none Q 0 0 25 [.ref 47, .int x, uu, uu] [.int (nI (fhN it h))] hp n := by
        have zf9 := sz_of h2 h6 hD hfh
        refine g_istore_n (pc' := 26) dX8_draw_25 rfl (by decide) ?_
        refine g_iload_n (pc' := 27) dX8_draw_26 rfl rfl ?_
        refine g_istore_n (pc' := 28) dX8_draw_27 rfl (by decide) ?_
        have loop : ∀ f g y, g < nh S D → sz S g + f = D → dr zf af S (D - sz S (fhN it h)) (fhN it h) x = dr zf af S f g y → G yX8_draw cX8_draw 4 (some .int) (rmD 8) none Q 0 0 28 [.ref 47, .int x, .int (nI g), .int y] [] hp n := by
          intro f
          induction f with
          | zero =>
            intro g y hg hf e
            have e' : dr zf af S (D - sz S (fhN it h)) (fhN it h) x = g := e
            refine g_aload_n (pc' := 29) dX8_draw_28 rfl rfl ?_
            refine g_get (pc' := 32) fl_X8_32 dX8_draw_29 (by omega) (by first | assumption | exact va_up_self _ _ _ | exact (va_up_ne _ _ (by decide)).trans (by assumption) | exact (va_up_ne _ _ (by decide)).trans (va_up_self _ _ _) | exact (va_up_ne _ _ (by decide)).trans ((va_up_ne _ _ (by decide)).trans (by assumption)) | exact (va_up_ne _ _ (by decide)).trans ((va_up_ne _ _ (by decide)).trans (va_up_self _ _ _)) | exact (va_up_ne _ _ (by decide)).trans ((va_up_ne _ _ (by decide)).trans ((va_up_ne _ _ (by decide)).trans (by assumption))) | exact (va_up_ne _ _ (by decide)).trans ((va_up_ne _ _ (by decide)).trans ((va_up_ne _ _ (by decide)).trans ((va_up_ne _ _ (by decide)).trans (by assumption)))) | exact rfl) (by first | assumption | rfl | exact (List.getElem?_set_ne (by decide)).trans (by assumption) | exact List.getElem?_set_self (by omega)) ?_
            refine g_iload_n (pc' := 33) dX8_draw_32 rfl rfl ?_
            refine g_ialdV (pc' := 34) dX8_draw_33 (by omega) (by first | assumption | exact va_up_self _ _ _ | exact (va_up_ne _ _ (by decide)).trans (by assumption) | exact (va_up_ne _ _ (by decide)).trans (va_up_self _ _ _) | exact (va_up_ne _ _ (by decide)).trans ((va_up_ne _ _ (by decide)).trans (by assumption)) | exact (va_up_ne _ _ (by decide)).trans ((va_up_ne _ _ (by decide)).trans (va_up_self _ _ _)) | exact (va_up_ne _ _ (by decide)).trans ((va_up_ne _ _ (by decide)).trans ((va_up_ne _ _ (by decide)).trans (by assumption))) | exact (va_up_ne _ _ (by decide)).trans ((va_up_ne _ _ (by decide)).trans ((va_up_ne _ _ (by decide)).trans ((va_up_ne _ _ (by decide)).trans (by assumption)))) | exact rfl) ((IX_nI (by omega) (by omega))) (hTB.2.1 _ hg) ?_
            refine g_aload_n (pc' := 35) dX8_draw_34 rfl rfl ?_
            refine g_get (pc' := 38) fl_X8_7 dX8_draw_35 (by omega) (by first | assumption | exact va_up_self _ _ _ | exact (va_up_ne _ _ (by decide)).trans (by assumption) | exact (va_up_ne _ _ (by decide)).trans (va_up_self _ _ _) | exact (va_up_ne _ _ (by decide)).trans ((va_up_ne _ _ (by decide)).trans (by assumption)) | exact (va_up_ne _ _ (by decide)).trans ((va_up_ne _ _ (by decide)).trans (va_up_self _ _ _)) | exact (va_up_ne _ _ (by decide)).trans ((va_up_ne _ _ (by decide)).trans ((va_up_ne _ _ (by decide)).trans (by assumption))) | exact (va_up_ne _ _ (by decide)).trans ((va_up_ne _ _ (by decide)).trans ((va_up_ne _ _ (by decide)).trans ((va_up_ne _ _ (by decide)).trans (by assumption)))) | exact rfl) (by first | assumption | rfl | exact (List.getElem?_set_ne (by decide)).trans (by assumption) | exact List.getElem?_set_self (by omega)) ?_
            refine g_icmp_geN (tgt := 76) (pc' := 41) dX8_draw_38 (by decide) (by first | omega | decide) (by first | omega | decide) (fun z3 => ?_) (fun z3 => ?_)
            · refine g_aload_n (pc' := 77) dX8_draw_76 rfl rfl ?_
              refine g_iload_n (pc' := 78) dX8_draw_77 rfl rfl ?_
              refine gc_V 81 47 [.int (nI g)] [] cw_X8_184 im_X8_came se_X8_came dX8_draw_78 (by decide) (by decide) (Nat.le_refl _) (Nat.le_refl _) (Nat.le_of_ble_eq_true rfl) rfl (Nat.le_of_ble_eq_true rfl) (by omega) (by first | assumption | exact va_up_self _ _ _ | exact (va_up_ne _ _ (by decide)).trans (by assumption) | exact (va_up_ne _ _ (by decide)).trans (va_up_self _ _ _) | exact (va_up_ne _ _ (by decide)).trans ((va_up_ne _ _ (by decide)).trans (by assumption)) | exact (va_up_ne _ _ (by decide)).trans ((va_up_ne _ _ (by decide)).trans (va_up_self _ _ _)) | exact (va_up_ne _ _ (by decide)).trans ((va_up_ne _ _ (by decide)).trans ((va_up_ne _ _ (by decide)).trans (by assumption))) | exact (va_up_ne _ _ (by decide)).trans ((va_up_ne _ _ (by decide)).trans ((va_up_ne _ _ (by decide)).trans ((va_up_ne _ _ (by decide)).trans (by assumption)))) | exact rfl) rfl rfl (c_came hn M G1 hsm (fun q => (G1.2.1 q).2.2.2.1 (htt q)) hg (WG_fall hT1 G1 hop hg (by omega)) (fun hp' M' R' => ⟨rfl, ?_⟩))
              exact g_iret dX8_draw_81 rfl (Nat.le_refl _) (Nat.le_refl _) (hq2' g e'.symm hp' M' R')
            · omega
          | succ f ih =>
            intro g y hg hf e
            have zg := sz_le S g
            refine g_aload_n (pc' := 29) dX8_draw_28 rfl rfl ?_
            refine g_get (pc' := 32) fl_X8_32 dX8_draw_29 (by omega) (by first | assumption | exact va_up_self _ _ _ | exact (va_up_ne _ _ (by decide)).trans (by assumption) | exact (va_up_ne _ _ (by decide)).trans (va_up_self _ _ _) | exact (va_up_ne _ _ (by decide)).trans ((va_up_ne _ _ (by decide)).trans (by assumption)) | exact (va_up_ne _ _ (by decide)).trans ((va_up_ne _ _ (by decide)).trans (va_up_self _ _ _)) | exact (va_up_ne _ _ (by decide)).trans ((va_up_ne _ _ (by decide)).trans ((va_up_ne _ _ (by decide)).trans (by assumption))) | exact (va_up_ne _ _ (by decide)).trans ((va_up_ne _ _ (by decide)).trans ((va_up_ne _ _ (by decide)).trans ((va_up_ne _ _ (by decide)).trans (by assumption)))) | exact rfl) (by first | assumption | rfl | exact (List.getElem?_set_ne (by decide)).trans (by assumption) | exact List.getElem?_set_self (by omega)) ?_
            refine g_iload_n (pc' := 33) dX8_draw_32 rfl rfl ?_
            refine g_ialdV (pc' := 34) dX8_draw_33 (by omega) (by first | assumption | exact va_up_self _ _ _ | exact (va_up_ne _ _ (by decide)).trans (by assumption) | exact (va_up_ne _ _ (by decide)).trans (va_up_self _ _ _) | exact (va_up_ne _ _ (by decide)).trans ((va_up_ne _ _ (by decide)).trans (by assumption)) | exact (va_up_ne _ _ (by decide)).trans ((va_up_ne _ _ (by decide)).trans (va_up_self _ _ _)) | exact (va_up_ne _ _ (by decide)).trans ((va_up_ne _ _ (by decide)).trans ((va_up_ne _ _ (by decide)).trans (by assumption))) | exact (va_up_ne _ _ (by decide)).trans ((va_up_ne _ _ (by decide)).trans ((va_up_ne _ _ (by decide)).trans ((va_up_ne _ _ (by decide)).trans (by assumption)))) | exact rfl) ((IX_nI (by omega) (by omega))) (hTB.2.1 _ hg) ?_
            refine g_aload_n (pc' := 35) dX8_draw_34 rfl rfl ?_
            refine g_get (pc' := 38) fl_X8_7 dX8_draw_35 (by omega) (by first | assumption | exact va_up_self _ _ _ | exact (va_up_ne _ _ (by decide)).trans (by assumption) | exact (va_up_ne _ _ (by decide)).trans (va_up_self _ _ _) | exact (va_up_ne _ _ (by decide)).trans ((va_up_ne _ _ (by decide)).trans (by assumption)) | exact (va_up_ne _ _ (by decide)).trans ((va_up_ne _ _ (by decide)).trans (va_up_self _ _ _)) | exact (va_up_ne _ _ (by decide)).trans ((va_up_ne _ _ (by decide)).trans ((va_up_ne _ _ (by decide)).trans (by assumption))) | exact (va_up_ne _ _ (by decide)).trans ((va_up_ne _ _ (by decide)).trans ((va_up_ne _ _ (by decide)).trans ((va_up_ne _ _ (by decide)).trans (by assumption)))) | exact rfl) (by first | assumption | rfl | exact (List.getElem?_set_ne (by decide)).trans (by assumption) | exact List.getElem?_set_self (by omega)) ?_
            refine g_icmp_geN (tgt := 76) (pc' := 41) dX8_draw_38 (by decide) (by first | omega | decide) (by first | omega | decide) (fun z3 => ?_) (fun z3 => ?_)
            · omega
            · obtain ⟨d0, d1, d2⟩ := hZ y
              have hmd : af y / 2 ^ 12 % S < S := Nat.mod_lt _ (by omega)
              obtain ⟨-, n2, n3, -⟩ := nx_ok h2 h6 hD hg (by omega) hmd
              refine g_iload_n (pc' := 42) dX8_draw_41 rfl rfl ?_
              refine g_ldc (pc' := 44) dX8_draw_42 ki_X8_187 ?_
              refine g_imul (pc' := 45) dX8_draw_44 ?_
              refine g_sipush (pc' := 48) (v := nI 12345) dX8_draw_45 (by decide) ?_
              refine g_iadd (pc' := 49) dX8_draw_48 ?_
              refine g_ldc (pc' := 51) dX8_draw_49 ki_X8_188 ?_
              refine g_iand (pc' := 52) dX8_draw_51 ?_
              rw [d0, d1]
              refine g_istore_n (pc' := 53) dX8_draw_52 rfl (by decide) ?_
              refine g_aload_n (pc' := 54) dX8_draw_53 rfl rfl ?_
              refine g_get (pc' := 57) fl_X8_38 dX8_draw_54 (by omega) (by first | assumption | exact va_up_self _ _ _ | exact (va_up_ne _ _ (by decide)).trans (by assumption) | exact (va_up_ne _ _ (by decide)).trans (va_up_self _ _ _) | exact (va_up_ne _ _ (by decide)).trans ((va_up_ne _ _ (by decide)).trans (by assumption)) | exact (va_up_ne _ _ (by decide)).trans ((va_up_ne _ _ (by decide)).trans (va_up_self _ _ _)) | exact (va_up_ne _ _ (by decide)).trans ((va_up_ne _ _ (by decide)).trans ((va_up_ne _ _ (by decide)).trans (by assumption))) | exact (va_up_ne _ _ (by decide)).trans ((va_up_ne _ _ (by decide)).trans ((va_up_ne _ _ (by decide)).trans ((va_up_ne _ _ (by decide)).trans (by assumption)))) | exact rfl) (by first | assumption | rfl | exact (List.getElem?_set_ne (by decide)).trans (by assumption) | exact List.getElem?_set_self (by omega)) ?_
              refine g_bipush (pc' := 59) (v := nI 6) dX8_draw_57 (by decide) ?_
              refine g_iload_n (pc' := 60) dX8_draw_59 rfl rfl ?_
              first | refine g_imulN (pc' := 61) dX8_draw_60 ?_ | refine g_imul (pc' := 61) dX8_draw_60 ?_
              refine g_iload_n (pc' := 62) dX8_draw_61 rfl rfl ?_
              refine g_bipush (pc' := 64) (v := nI 12) dX8_draw_62 (by decide) ?_
              refine g_ishr (pc' := 65) dX8_draw_64 ?_
              rw [sh_r d2 (by omega)]
              refine g_aload_n (pc' := 66) dX8_draw_65 rfl rfl ?_
              refine g_get (pc' := 69) fl_X8_13 dX8_draw_66 (by omega) (by first | assumption | exact va_up_self _ _ _ | exact (va_up_ne _ _ (by decide)).trans (by assumption) | exact (va_up_ne _ _ (by decide)).trans (va_up_self _ _ _) | exact (va_up_ne _ _ (by decide)).trans ((va_up_ne _ _ (by decide)).trans (by assumption)) | exact (va_up_ne _ _ (by decide)).trans ((va_up_ne _ _ (by decide)).trans (va_up_self _ _ _)) | exact (va_up_ne _ _ (by decide)).trans ((va_up_ne _ _ (by decide)).trans ((va_up_ne _ _ (by decide)).trans (by assumption))) | exact (va_up_ne _ _ (by decide)).trans ((va_up_ne _ _ (by decide)).trans ((va_up_ne _ _ (by decide)).trans ((va_up_ne _ _ (by decide)).trans (by assumption)))) | exact rfl) (by first | assumption | rfl | exact (List.getElem?_set_ne (by decide)).trans (by assumption) | exact List.getElem?_set_self (by omega)) ?_
              first | refine g_iremN (pc' := 70) dX8_draw_69 (by omega) (by omega) (by omega) ?_ | refine g_irem (pc' := 70) dX8_draw_69 (by decide) ?_
              first | refine g_iaddN (pc' := 71) dX8_draw_70 ?_ | refine g_iadd (pc' := 71) dX8_draw_70 ?_
              refine g_ialdV (pc' := 72) dX8_draw_71 (by omega) (by first | assumption | exact va_up_self _ _ _ | exact (va_up_ne _ _ (by decide)).trans (by assumption) | exact (va_up_ne _ _ (by decide)).trans (va_up_self _ _ _) | exact (va_up_ne _ _ (by decide)).trans ((va_up_ne _ _ (by decide)).trans (by assumption)) | exact (va_up_ne _ _ (by decide)).trans ((va_up_ne _ _ (by decide)).trans (va_up_self _ _ _)) | exact (va_up_ne _ _ (by decide)).trans ((va_up_ne _ _ (by decide)).trans ((va_up_ne _ _ (by decide)).trans (by assumption))) | exact (va_up_ne _ _ (by decide)).trans ((va_up_ne _ _ (by decide)).trans ((va_up_ne _ _ (by decide)).trans ((va_up_ne _ _ (by decide)).trans (by assumption)))) | exact rfl) ((IX_nI (by omega) (by omega))) (hTM _ _ hg (by omega) hmd) ?_
              refine g_istore_n (pc' := 73) dX8_draw_72 rfl (by decide) ?_
              refine g_goto (tgt := 28) dX8_draw_73 (by decide) ?_
              have := ih _ (zf y) n2 (by omega) e
              rw [d1] at this
              exact this
        exact loop _ _ _ hfh (by omega) rfl
      cases it with
      | true =>
        refine g_if_eqN (tgt := 24) (pc' := 17) dX8_draw_14 (by decide) (by first | omega | decide) (fun z1 => ?_) (fun z1 => ?_)
        · exact absurd z1 (by decide)
        · refine g_aload_n (pc' := 18) dX8_draw_17 rfl rfl ?_
          refine g_get (pc' := 21) fl_X8_153 dX8_draw_18 (by omega) (by first | assumption | exact va_up_self _ _ _ | exact (va_up_ne _ _ (by decide)).trans (by assumption) | exact (va_up_ne _ _ (by decide)).trans (va_up_self _ _ _) | exact (va_up_ne _ _ (by decide)).trans ((va_up_ne _ _ (by decide)).trans (by assumption)) | exact (va_up_ne _ _ (by decide)).trans ((va_up_ne _ _ (by decide)).trans (va_up_self _ _ _)) | exact (va_up_ne _ _ (by decide)).trans ((va_up_ne _ _ (by decide)).trans ((va_up_ne _ _ (by decide)).trans (by assumption))) | exact (va_up_ne _ _ (by decide)).trans ((va_up_ne _ _ (by decide)).trans ((va_up_ne _ _ (by decide)).trans ((va_up_ne _ _ (by decide)).trans (by assumption)))) | exact rfl) (by first | assumption | rfl | exact (List.getElem?_set_ne (by decide)).trans (by assumption) | exact List.getElem?_set_self (by omega)) ?_
          refine g_goto (tgt := 25) dX8_draw_21 (by decide) ?_
          exact main
      | false =>
        refine g_if_eqN (tgt := 24) (pc' := 17) dX8_draw_14 (by decide) (by first | omega | decide) (fun z1 => ?_) (fun z1 => ?_)
        · refine g_iconst (pc' := 25) (v := nI 0) dX8_draw_24 (by decide) ?_
          exact main
        · exact absurd rfl z1
    · exact absurd z1 (by decide)
/-- dice of the heap h that a number tells -/
def helN (D S h : Nat) (x : Int32) : Option Nat := if x < 0 then none else match ho D S D 0 x.toNatClampNeg with
  | none => none
  | some g => if ptb S g h then some g else none
theorem helN_ok {D S h g : Nat} {x : Int32} (h2 : 2 ≤ S) (h6 : S ≤ 6) (hD : D ≤ 5) (e : helN D S h x = some g) : g < nh S D ∧ pt S g h := by
  unfold helN at e
  split at e
  · cases e
  · split at e
    · cases e
    · rename_i q
      split at e
      · rename_i p
        cases e
        exact ⟨ho_ok h2 h6 hD (nh_le h2 h6 hD).2 (by rw [sz_0]; omega) q, ptb_iff.mp p⟩
      · cases e
theorem c_heldOf {hp : AH} {n D S T R h : Nat} {fs : List Value} {P : Nat → Nat → Nat} {x : Int32} {Q : Option Value → AH → Nat → Prop} (hn : 64 ≤ n) (B : MBg hp fs D S T R P) (f19 : fs[19]? = some (.int (nI h))) (hh : h < nh S D) (hq : Q (some (.int (hoI (helN D S h x)))) hp n) : CT yX8_heldOf cX8_heldOf 3 (some .int) (rmD 1) [.ref 47, .int x] hp n Q := by
  obtain ⟨c47, F, ⟨h2, h6, hD1, hD, hT1, hT3, hR1, hR⟩, -, -, -, -, -, ⟨fsh, fz, ftd, fm, fpt, fsp, fw, c51, c52, c53, c54, c55, c57, c58, hTB, hTM, hpt, hpw, hw⟩, -, -⟩ := id B
  obtain ⟨hN, hN1⟩ := nh_le h2 h6 hD
  have no : ∀ y, helN D S h x = none → G yX8_heldOf cX8_heldOf 3 (some .int) (rmD 1) none Q 0 0 27 [.ref 47, .int x, .int y] [] hp n := by
    intro y e
    rw [e] at hq
    refine g_iconst (pc' := 28) (v := -1) dX8_heldOf_27 (by decide) ?_
    exact g_iret dX8_heldOf_28 rfl (Nat.le_refl _) (Nat.le_refl _) hq
  show G yX8_heldOf cX8_heldOf 3 (some .int) (rmD 1) none Q 0 0 0 [.ref 47, .int x, uu] [] hp n
  refine g_aload_n (pc' := 1) dX8_heldOf_0 rfl rfl ?_
  refine g_iload_n (pc' := 2) dX8_heldOf_1 rfl rfl ?_
  refine gc_V 5 47 [.int x] [] cw_X8_189 im_X8_heapOf se_X8_heapOf dX8_heldOf_2 (by decide) (by decide) (Nat.le_refl _) (Nat.le_refl _) (Nat.le_of_ble_eq_true rfl) rfl (Nat.le_of_ble_eq_true rfl) (by omega) (by first | assumption | exact va_up_self _ _ _ | exact (va_up_ne _ _ (by decide)).trans (by assumption) | exact (va_up_ne _ _ (by decide)).trans (va_up_self _ _ _) | exact (va_up_ne _ _ (by decide)).trans ((va_up_ne _ _ (by decide)).trans (by assumption)) | exact (va_up_ne _ _ (by decide)).trans ((va_up_ne _ _ (by decide)).trans (va_up_self _ _ _)) | exact (va_up_ne _ _ (by decide)).trans ((va_up_ne _ _ (by decide)).trans ((va_up_ne _ _ (by decide)).trans (by assumption))) | exact (va_up_ne _ _ (by decide)).trans ((va_up_ne _ _ (by decide)).trans ((va_up_ne _ _ (by decide)).trans ((va_up_ne _ _ (by decide)).trans (by assumption)))) | exact rfl) rfl rfl (c_heapOf hn c47 F h2 h6 hD c52 c54 hTB.2.1 hTM (fun hx => ⟨rfl, ?_⟩) (fun v hv hx => ⟨rfl, ?_⟩))
  · show G yX8_heldOf cX8_heldOf 3 (some .int) (rmD 1) none Q 0 0 5 [.ref 47, .int x, uu] [.int (-1)] hp n
    refine g_istore_n (pc' := 6) dX8_heldOf_5 rfl (by decide) ?_
    refine g_iload_n (pc' := 7) dX8_heldOf_6 rfl rfl ?_
    refine g_iconst (pc' := 8) (v := -1) dX8_heldOf_7 (by decide) ?_
    refine g_icmp_eq (tgt := 27) (pc' := 11) dX8_heldOf_8 (by decide) (fun z1 => ?_) (fun z1 => ?_)
    · exact no _ (if_pos hx)
    · exact absurd rfl z1
  · have e1 : helN D S h x = match ho D S D 0 v with | none => none | some g => if ptb S g h then some g else none := by
      unfold helN
      rw [hx, if_neg (nI_pos hv), nI_clamp hv]
    cases hg : ho D S D 0 v with
    | none =>
      rw [hg] at e1
      show G yX8_heldOf cX8_heldOf 3 (some .int) (rmD 1) none Q 0 0 5 [.ref 47, .int x, uu] [.int (-1)] hp n
      refine g_istore_n (pc' := 6) dX8_heldOf_5 rfl (by decide) ?_
      refine g_iload_n (pc' := 7) dX8_heldOf_6 rfl rfl ?_
      refine g_iconst (pc' := 8) (v := -1) dX8_heldOf_7 (by decide) ?_
      refine g_icmp_eq (tgt := 27) (pc' := 11) dX8_heldOf_8 (by decide) (fun z1 => ?_) (fun z1 => ?_)
      · exact no _ e1
      · exact absurd rfl z1
    | some g =>
      rw [hg] at e1
      have hgl := ho_ok h2 h6 hD hN1 (by rw [sz_0]; omega) hg
      have b1 := bI_le (ptb S g h)
      show G yX8_heldOf cX8_heldOf 3 (some .int) (rmD 1) none Q 0 0 5 [.ref 47, .int x, uu] [.int (nI g)] hp n
      refine g_istore_n (pc' := 6) dX8_heldOf_5 rfl (by decide) ?_
      refine g_iload_n (pc' := 7) dX8_heldOf_6 rfl rfl ?_
      refine g_iconst (pc' := 8) (v := -1) dX8_heldOf_7 (by decide) ?_
      refine g_icmp_eq (tgt := 27) (pc' := 11) dX8_heldOf_8 (by decide) (fun z1 => ?_) (fun z1 => ?_)
      · exact absurd z1 (nI_nm1 (by omega))
      · refine g_aload_n (pc' := 12) dX8_heldOf_11 rfl rfl ?_
        refine g_iload_n (pc' := 13) dX8_heldOf_12 rfl rfl ?_
        refine g_aload_n (pc' := 14) dX8_heldOf_13 rfl rfl ?_
        refine g_get (pc' := 17) fl_X8_153 dX8_heldOf_14 (by omega) (by first | assumption | exact va_up_self _ _ _ | exact (va_up_ne _ _ (by decide)).trans (by assumption) | exact (va_up_ne _ _ (by decide)).trans (va_up_self _ _ _) | exact (va_up_ne _ _ (by decide)).trans ((va_up_ne _ _ (by decide)).trans (by assumption)) | exact (va_up_ne _ _ (by decide)).trans ((va_up_ne _ _ (by decide)).trans (va_up_self _ _ _)) | exact (va_up_ne _ _ (by decide)).trans ((va_up_ne _ _ (by decide)).trans ((va_up_ne _ _ (by decide)).trans (by assumption))) | exact (va_up_ne _ _ (by decide)).trans ((va_up_ne _ _ (by decide)).trans ((va_up_ne _ _ (by decide)).trans ((va_up_ne _ _ (by decide)).trans (by assumption)))) | exact rfl) (by first | assumption | rfl | exact (List.getElem?_set_ne (by decide)).trans (by assumption) | exact List.getElem?_set_self (by omega)) ?_
        refine gc_V 20 47 [.int (nI g), .int (nI h)] [] cw_X8_103 im_X8_isPart se_X8_isPart dX8_heldOf_17 (by decide) (by decide) (Nat.le_refl _) (Nat.le_refl _) (Nat.le_of_ble_eq_true rfl) rfl (Nat.le_of_ble_eq_true rfl) (by omega) (by first | assumption | exact va_up_self _ _ _ | exact (va_up_ne _ _ (by decide)).trans (by assumption) | exact (va_up_ne _ _ (by decide)).trans (va_up_self _ _ _) | exact (va_up_ne _ _ (by decide)).trans ((va_up_ne _ _ (by decide)).trans (by assumption)) | exact (va_up_ne _ _ (by decide)).trans ((va_up_ne _ _ (by decide)).trans (va_up_self _ _ _)) | exact (va_up_ne _ _ (by decide)).trans ((va_up_ne _ _ (by decide)).trans ((va_up_ne _ _ (by decide)).trans (by assumption))) | exact (va_up_ne _ _ (by decide)).trans ((va_up_ne _ _ (by decide)).trans ((va_up_ne _ _ (by decide)).trans ((va_up_ne _ _ (by decide)).trans (by assumption)))) | exact rfl) rfl rfl (c_isPart hn c47 F c51 (by omega) (by omega) (fun k hk => hTB.1 g k hgl hk) (fun k hk => hTB.1 h k hh hk) ⟨rfl, ?_⟩)
        cases hp1 : ptb S g h with
        | true =>
          simp only [hp1, if_true] at e1
          refine g_if_eqN (tgt := 27) (pc' := 23) dX8_heldOf_20 (by decide) (by first | omega | decide) (fun z2 => ?_) (fun z2 => ?_)
          · exact absurd z2 (by decide)
          · rw [e1] at hq
            refine g_iload_n (pc' := 24) dX8_heldOf_23 rfl rfl ?_
            refine g_goto (tgt := 28) dX8_heldOf_24 (by decide) ?_
            exact g_iret dX8_heldOf_28 rfl (Nat.le_refl _) (Nat.le_refl _) hq
        | false =>
          simp only [hp1, Bool.false_eq_true, if_false] at e1
          refine g_if_eqN (tgt := 27) (pc' := 23) dX8_heldOf_20 (by decide) (by first | omega | decide) (fun z2 => ?_) (fun z2 => ?_)
          · exact no _ e1
          · exact absurd rfl z2
