/-! THE CLASS: Worths -/
theorem c_rangeCheck {hp : AH} {n N x y : Nat} {Q : Option Value → AH → Nat → Prop} (hN : N < 2 ^ 31) (hxy : x ≤ y) (hyN : y ≤ N) (hq : Q none hp n) : CT yJ7_rangeCheck_23922 cJ7_rangeCheck_23922 3 none (rmD 0) [.int (nI N), .int (nI x), .int (nI y)] hp n Q := by
  show G yJ7_rangeCheck_23922 cJ7_rangeCheck_23922 3 none (rmD 0) none Q 0 0 0 [.int (nI N), .int (nI x), .int (nI y)] [] hp n
  refine g_iload_n (pc' := 1) dJ7_rangeCheck_23922_0 rfl rfl ?_
  refine g_iload_n (pc' := 2) dJ7_rangeCheck_23922_1 rfl rfl ?_
  refine g_icmp_leN (tgt := 46) (pc' := 5) dJ7_rangeCheck_23922_2 (by decide) (by first | omega | decide) (by first | omega | decide) (fun z1 => ?_) (fun z1 => ?_)
  · refine g_iload_n (pc' := 47) dJ7_rangeCheck_23922_46 rfl rfl ?_
    refine g_if_geN (tgt := 59) (pc' := 50) dJ7_rangeCheck_23922_47 (by decide) (by first | omega | decide) (fun z2 => ?_) (fun z2 => ?_)
    · refine g_iload_n (pc' := 60) dJ7_rangeCheck_23922_59 rfl rfl ?_
      refine g_iload_n (pc' := 61) dJ7_rangeCheck_23922_60 rfl rfl ?_
      refine g_icmp_leN (tgt := 73) (pc' := 64) dJ7_rangeCheck_23922_61 (by decide) (by first | omega | decide) (by first | omega | decide) (fun z3 => ?_) (fun z3 => ?_)
      · exact g_vret dJ7_rangeCheck_23922_73 rfl (Nat.le_refl _) (Nat.le_refl _) hq
      · omega
    · exact z2.elim
  · omega
theorem c_fillJ {hp : AH} {n c N x y : Nat} {f : Nat → Int64} {v : Int64} {Q : Option Value → AH → Nat → Prop} (hc : c < n) (cc : hp c = aJ N f) (hN : N < 2 ^ 31) (hxy : x ≤ y) (hyN : y ≤ N)
    (hq : ∀ f' : Nat → Int64, (∀ i, x ≤ i → i < y → f' i = v) → (∀ i, i < x ∨ y ≤ i → f' i = f i) → Q none (va_up hp c (aJ N f')) n) : CT yJ7_fill_bad5a cJ7_fill_bad5a 6 none (rmD 1) [.ref c, .int (nI x), .int (nI y), .long v] hp n Q := by
  show G yJ7_fill_bad5a cJ7_fill_bad5a 6 none (rmD 1) none Q 0 0 0 [.ref c, .int (nI x), .int (nI y), .long v, uu, uu] [] hp n
  refine g_aload_n (pc' := 1) dJ7_fill_bad5a_0 rfl rfl ?_
  refine g_alen (pc' := 2) dJ7_fill_bad5a_1 (by omega) (by first | assumption | exact va_up_self _ _ _ | exact (va_up_ne _ _ (by first | decide | omega)).trans (by assumption) | exact (va_up_ne _ _ (by first | decide | omega)).trans (va_up_self _ _ _) | exact (va_up_ne _ _ (by first | decide | omega)).trans ((va_up_ne _ _ (by first | decide | omega)).trans (by assumption)) | exact (va_up_ne _ _ (by first | decide | omega)).trans ((va_up_ne _ _ (by first | decide | omega)).trans (va_up_self _ _ _)) | exact (va_up_ne _ _ (by first | decide | omega)).trans ((va_up_ne _ _ (by first | decide | omega)).trans ((va_up_ne _ _ (by first | decide | omega)).trans (by assumption))) | exact (va_up_ne _ _ (by first | decide | omega)).trans ((va_up_ne _ _ (by first | decide | omega)).trans ((va_up_ne _ _ (by first | decide | omega)).trans ((va_up_ne _ _ (by first | decide | omega)).trans (by assumption)))) | exact rfl) (by decide) ?_
  refine g_iload_n (pc' := 3) dJ7_fill_bad5a_2 rfl rfl ?_
  refine g_iload_n (pc' := 4) dJ7_fill_bad5a_3 rfl rfl ?_
  refine gc_S 7 [.int (nI N), .int (nI x), .int (nI y)] [] cw_J7_13 sm_J7_rangeCheck_23922 dJ7_fill_bad5a_4 (by decide) (by decide) (Nat.le_refl _) (Nat.le_refl _) (Nat.le_of_ble_eq_true rfl) rfl (Nat.le_of_ble_eq_true rfl) (c_rangeCheck hN hxy hyN ⟨rfl, ?_⟩)
  show G yJ7_fill_bad5a cJ7_fill_bad5a 6 none (rmD 1) none Q 0 0 7 [.ref c, .int (nI x), .int (nI y), .long v, uu, uu] [] hp n
  refine g_iload_n (pc' := 8) dJ7_fill_bad5a_7 rfl rfl ?_
  refine g_istore (pc' := 10) dJ7_fill_bad5a_8 (by decide) ?_
  rw [← up_id cc]
  have loop : ∀ k i f', i + k = y → x ≤ i → (∀ j, x ≤ j → j < i → f' j = v) → (∀ j, j < x ∨ i ≤ j → f' j = f j) → G yJ7_fill_bad5a cJ7_fill_bad5a 6 none (rmD 1) none Q 0 0 10 [.ref c, .int (nI x), .int (nI y), .long v, uu, .int (nI i)] [] (va_up hp c (aJ N f')) n := by
    intro k
    induction k with
    | zero =>
      intro i f' hi hx h1 h3
      refine g_iload (pc' := 12) dJ7_fill_bad5a_10 rfl ?_
      refine g_iload_n (pc' := 13) dJ7_fill_bad5a_12 rfl rfl ?_
      refine g_icmp_geN (tgt := 27) (pc' := 16) dJ7_fill_bad5a_13 (by decide) (by first | omega | decide) (by first | omega | decide) (fun z1 => ?_) (fun z1 => ?_)
      · have e : i = y := by omega
        subst e
        exact g_vret dJ7_fill_bad5a_27 rfl (Nat.le_refl _) (Nat.le_refl _) (hq f' h1 h3)
      · omega
    | succ k ih =>
      intro i f' hi hx h1 h3
      refine g_iload (pc' := 12) dJ7_fill_bad5a_10 rfl ?_
      refine g_iload_n (pc' := 13) dJ7_fill_bad5a_12 rfl rfl ?_
      refine g_icmp_geN (tgt := 27) (pc' := 16) dJ7_fill_bad5a_13 (by decide) (by first | omega | decide) (by first | omega | decide) (fun z1 => ?_) (fun z1 => ?_)
      · omega
      · refine g_aload_n (pc' := 17) dJ7_fill_bad5a_16 rfl rfl ?_
        refine g_iload (pc' := 19) dJ7_fill_bad5a_17 rfl ?_
        refine g_lload_n (pc' := 20) dJ7_fill_bad5a_19 rfl rfl ?_
        refine g_last (pc' := 21) dJ7_fill_bad5a_20 (by omega) (by first | assumption | exact va_up_self _ _ _ | exact (va_up_ne _ _ (by first | decide | omega)).trans (by assumption) | exact (va_up_ne _ _ (by first | decide | omega)).trans (va_up_self _ _ _) | exact (va_up_ne _ _ (by first | decide | omega)).trans ((va_up_ne _ _ (by first | decide | omega)).trans (by assumption)) | exact (va_up_ne _ _ (by first | decide | omega)).trans ((va_up_ne _ _ (by first | decide | omega)).trans (va_up_self _ _ _)) | exact (va_up_ne _ _ (by first | decide | omega)).trans ((va_up_ne _ _ (by first | decide | omega)).trans ((va_up_ne _ _ (by first | decide | omega)).trans (by assumption))) | exact (va_up_ne _ _ (by first | decide | omega)).trans ((va_up_ne _ _ (by first | decide | omega)).trans ((va_up_ne _ _ (by first | decide | omega)).trans ((va_up_ne _ _ (by first | decide | omega)).trans (by assumption)))) | exact rfl) ((IX_nI (by omega) (by omega))) ?_
        rw [up_up]
        first | refine g_iincN (z := 1) (pc' := 24) dJ7_fill_bad5a_21 rfl rfl (by decide) ?_ | refine g_iinc (pc' := 24) dJ7_fill_bad5a_21 rfl rfl (by decide) ?_
        refine g_goto (tgt := 10) dJ7_fill_bad5a_24 (by decide) ?_
        refine ih (i + 1) _ (by omega) (by omega) (fun j q1 q2 => ?_) (fun j q => ?_)
        · by_cases e : j = i
          · rw [e, pk_uLs]
          · rw [pk_uLn e]; exact h1 j q1 (by omega)
        · rw [pk_uLn (by omega)]; exact h3 j (by omega)
  exact loop (y - x) x f (by omega) (Nat.le_refl _) (fun j q1 q2 => by omega) (fun j _ => rfl)
section GD
variable {D S T R : Nat} {P : Nat → Nat → Nat}
theorem gd_63 (N : GN D S T R) (hP : ∀ r h, r < R → P r h ≤ 210) {s : Nat} (hs : 1 ≤ opn s R) {h : Nat} (hh : h < nh S D) (hz : sz S h = D) : gd D S T R P s h < 2 ^ 63 := by
  obtain ⟨h2, h6, hD1, hD, hT1, hT3, hR1, hR, hL⟩ := N
  have h1 := gd_le h2 h6 hD hT1 (fun r h hr _ _ => hP r h hr) hs h hh hz
  have h3 := gd_room hT1 hR (by omega) hL hs
  have h4 : 1 ≤ (S ^ D) ^ T := pw_pos (pw_pos (by omega) D) T
  have h5 := Nat.le_mul_of_pos_right (210 * opn s R * (S ^ D) ^ (T * (opn s R - 1))) h4
  omega
theorem gw_le_gd {s h r : Nat} (hr : r < R) (hb : bt0 s r = true) : gw P ((S ^ D) ^ (T * (opn s R - 1))) (Wt D S T R P) s h r ≤ gd D S T R P s h := by
  have := mxF_ge (f := fun r => if bt0 s r then gw P ((S ^ D) ^ (T * (opn s R - 1))) (Wt D S T R P) s h r else 0) hr
  simp only [hb, if_true] at this
  exact this
theorem mxF_mono {f : Nat → Nat} : ∀ {a b : Nat}, a ≤ b → mxF f a ≤ mxF f b := fun {a b} h => mxF_le (fun i hi => mxF_ge (by omega))
theorem gd_bound (N : GN D S T R) (hP : ∀ r h, r < R → P r h ≤ 210) {s : Nat} (hs : 1 ≤ opn s R) : (∀ h, h < nh S D → sz S h = D → gd D S T R P s h ≤ 210 * opn s R * (S ^ D) ^ (T * (opn s R - 1))) ∧ 210 * opn s R * (S ^ D) ^ (T * (opn s R - 1)) * (S ^ D) ^ T < 2 ^ 63 := by
  obtain ⟨h2, h6, hD1, hD, hT1, hT3, hR1, hR, hL⟩ := N
  exact ⟨gd_le h2 h6 hD hT1 (fun r h hr _ _ => hP r h hr) hs, gd_room hT1 hR (by omega) hL hs⟩
end GD
theorem opn_pred {s r R : Nat} (hb : bt0 s r = true) (hr : r < R) : opn (s ||| 2 ^ r) R = opn s R - 1 := by
  have := opn_or hb hr
  omega
theorem shl_bit {s r : Nat} (hr : r < 8) : nI s ||| (nI 1 <<< (nI r &&& 31)) = nI (s ||| 2 ^ r) := by
  have h : 2 ^ r ≤ 2 ^ 7 := Nat.pow_le_pow_right (by decide) (by omega)
  rw [sh_l (s := 1) (r := r) (by omega) (by omega), Nat.one_mul, or_n]
theorem c_layGroundW {hp : AH} {n D S T R s : Nat} {P : Nat → Nat → Nat} {fb : Nat → Int64} {Q : Option Value → AH → Nat → Prop} (hn : 64 ≤ n) (N : GN D S T R) (A : GA hp D S T R P) (hP : ∀ r h, r < R → P r h ≤ 210) (c13 : hp 13 = ob 6 [.ref 4, .ref 15, .ref 14]) (U : TU hp 15) (c14 : hp 14 = aJ 256 fb) (hs : s < 2 ^ R) (hop : 1 ≤ opn s R) (hfb : ∀ r, r < R → bt0 s r = true → fb (s ||| 2 ^ r) = lN (Wt D S T R P (s ||| 2 ^ r)))
    (hq : ∀ f : Nat → Int64, (∀ h, h < nh S D → sz S h = D → f h = lN (gd D S T R P s h)) → Q none (va_up hp 17 (aJ 462 f)) n) : CT yX6_layGround cX6_layGround 14 none (rmD 3) [.ref 13, .int (nI s)] hp n Q := by
  obtain ⟨h2, h6, hD1, hD, hT1, hT3, hR1, hR, hL⟩ := id N
  obtain ⟨hT, c4, ⟨fp, c10, hfp⟩, -, -⟩ := id A
  obtain ⟨ft, fz, fl, fm, c5, -⟩ := id hT
  obtain ⟨t1, -, -, t6, -⟩ := id U
  obtain ⟨f17, c17⟩ := t6 0 (by omega)
  obtain ⟨hN, hN1⟩ := nh_le h2 h6 hD
  have hwa := wh_add h2 h6 hD
  have hs8 := p256 hR hs
  show G yX6_layGround cX6_layGround 14 none (rmD 3) none Q 0 0 0 [.ref 13, .int (nI s), uu, uu, uu, uu, uu, uu, uu, uu, uu, uu, uu, uu] [] hp n
  refine g_aload_n (pc' := 1) dX6_layGround_0 rfl rfl ?_
  refine g_get (pc' := 4) fl_X6_15 dX6_layGround_1 (by omega) (by first | assumption | exact va_up_self _ _ _ | exact (va_up_ne _ _ (by first | decide | omega)).trans (by assumption) | exact (va_up_ne _ _ (by first | decide | omega)).trans (va_up_self _ _ _) | exact (va_up_ne _ _ (by first | decide | omega)).trans ((va_up_ne _ _ (by first | decide | omega)).trans (by assumption)) | exact (va_up_ne _ _ (by first | decide | omega)).trans ((va_up_ne _ _ (by first | decide | omega)).trans (va_up_self _ _ _)) | exact (va_up_ne _ _ (by first | decide | omega)).trans ((va_up_ne _ _ (by first | decide | omega)).trans ((va_up_ne _ _ (by first | decide | omega)).trans (by assumption))) | exact (va_up_ne _ _ (by first | decide | omega)).trans ((va_up_ne _ _ (by first | decide | omega)).trans ((va_up_ne _ _ (by first | decide | omega)).trans ((va_up_ne _ _ (by first | decide | omega)).trans (by assumption)))) | exact rfl) (by first | assumption | rfl | exact (List.getElem?_set_ne (by decide)).trans (by assumption) | exact List.getElem?_set_self (by omega)) ?_
  refine g_getN (pc' := 7) fn_X6_70 dX6_layGround_4 (by omega) (by first | assumption | exact va_up_self _ _ _ | exact (va_up_ne _ _ (by first | decide | omega)).trans (by assumption) | exact (va_up_ne _ _ (by first | decide | omega)).trans (va_up_self _ _ _) | exact (va_up_ne _ _ (by first | decide | omega)).trans ((va_up_ne _ _ (by first | decide | omega)).trans (by assumption)) | exact (va_up_ne _ _ (by first | decide | omega)).trans ((va_up_ne _ _ (by first | decide | omega)).trans (va_up_self _ _ _)) | exact (va_up_ne _ _ (by first | decide | omega)).trans ((va_up_ne _ _ (by first | decide | omega)).trans ((va_up_ne _ _ (by first | decide | omega)).trans (by assumption))) | exact (va_up_ne _ _ (by first | decide | omega)).trans ((va_up_ne _ _ (by first | decide | omega)).trans ((va_up_ne _ _ (by first | decide | omega)).trans ((va_up_ne _ _ (by first | decide | omega)).trans (by assumption)))) | exact rfl) (by first | assumption | rfl | exact (List.getElem?_set_ne (by decide)).trans (by assumption) | exact List.getElem?_set_self (by omega)) ?_
  refine gc_V 10 5 [] [] cw_X6_74 im_X2_wholeCount se_X2_wholeCount dX6_layGround_7 (by decide) (by decide) (Nat.le_refl _) (Nat.le_refl _) (Nat.le_of_ble_eq_true rfl) rfl (Nat.le_of_ble_eq_true rfl) (by omega) (by first | assumption | exact va_up_self _ _ _ | exact (va_up_ne _ _ (by first | decide | omega)).trans (by assumption) | exact (va_up_ne _ _ (by first | decide | omega)).trans (va_up_self _ _ _) | exact (va_up_ne _ _ (by first | decide | omega)).trans ((va_up_ne _ _ (by first | decide | omega)).trans (by assumption)) | exact (va_up_ne _ _ (by first | decide | omega)).trans ((va_up_ne _ _ (by first | decide | omega)).trans (va_up_self _ _ _)) | exact (va_up_ne _ _ (by first | decide | omega)).trans ((va_up_ne _ _ (by first | decide | omega)).trans ((va_up_ne _ _ (by first | decide | omega)).trans (by assumption))) | exact (va_up_ne _ _ (by first | decide | omega)).trans ((va_up_ne _ _ (by first | decide | omega)).trans ((va_up_ne _ _ (by first | decide | omega)).trans ((va_up_ne _ _ (by first | decide | omega)).trans (by assumption)))) | exact rfl) rfl rfl (c_wholeCount hn h2 h6 hD hT ⟨rfl, ?_⟩)
  show G yX6_layGround cX6_layGround 14 none (rmD 3) none Q 0 0 10 [.ref 13, .int (nI s), uu, uu, uu, uu, uu, uu, uu, uu, uu, uu, uu, uu] [.int (nI (wh S D))] hp n
  refine g_istore_n (pc' := 11) dX6_layGround_10 rfl (by decide) ?_
  refine g_aload_n (pc' := 12) dX6_layGround_11 rfl rfl ?_
  refine g_get (pc' := 15) fl_X6_15 dX6_layGround_12 (by omega) (by first | assumption | exact va_up_self _ _ _ | exact (va_up_ne _ _ (by first | decide | omega)).trans (by assumption) | exact (va_up_ne _ _ (by first | decide | omega)).trans (va_up_self _ _ _) | exact (va_up_ne _ _ (by first | decide | omega)).trans ((va_up_ne _ _ (by first | decide | omega)).trans (by assumption)) | exact (va_up_ne _ _ (by first | decide | omega)).trans ((va_up_ne _ _ (by first | decide | omega)).trans (va_up_self _ _ _)) | exact (va_up_ne _ _ (by first | decide | omega)).trans ((va_up_ne _ _ (by first | decide | omega)).trans ((va_up_ne _ _ (by first | decide | omega)).trans (by assumption))) | exact (va_up_ne _ _ (by first | decide | omega)).trans ((va_up_ne _ _ (by first | decide | omega)).trans ((va_up_ne _ _ (by first | decide | omega)).trans ((va_up_ne _ _ (by first | decide | omega)).trans (by assumption)))) | exact rfl) (by first | assumption | rfl | exact (List.getElem?_set_ne (by decide)).trans (by assumption) | exact List.getElem?_set_self (by omega)) ?_
  refine g_getN (pc' := 18) fn_X6_70 dX6_layGround_15 (by omega) (by first | assumption | exact va_up_self _ _ _ | exact (va_up_ne _ _ (by first | decide | omega)).trans (by assumption) | exact (va_up_ne _ _ (by first | decide | omega)).trans (va_up_self _ _ _) | exact (va_up_ne _ _ (by first | decide | omega)).trans ((va_up_ne _ _ (by first | decide | omega)).trans (by assumption)) | exact (va_up_ne _ _ (by first | decide | omega)).trans ((va_up_ne _ _ (by first | decide | omega)).trans (va_up_self _ _ _)) | exact (va_up_ne _ _ (by first | decide | omega)).trans ((va_up_ne _ _ (by first | decide | omega)).trans ((va_up_ne _ _ (by first | decide | omega)).trans (by assumption))) | exact (va_up_ne _ _ (by first | decide | omega)).trans ((va_up_ne _ _ (by first | decide | omega)).trans ((va_up_ne _ _ (by first | decide | omega)).trans ((va_up_ne _ _ (by first | decide | omega)).trans (by assumption)))) | exact rfl) (by first | assumption | rfl | exact (List.getElem?_set_ne (by decide)).trans (by assumption) | exact List.getElem?_set_self (by omega)) ?_
  refine g_getN (pc' := 21) fn_X6_79 dX6_layGround_18 (by omega) (by first | assumption | exact va_up_self _ _ _ | exact (va_up_ne _ _ (by first | decide | omega)).trans (by assumption) | exact (va_up_ne _ _ (by first | decide | omega)).trans (va_up_self _ _ _) | exact (va_up_ne _ _ (by first | decide | omega)).trans ((va_up_ne _ _ (by first | decide | omega)).trans (by assumption)) | exact (va_up_ne _ _ (by first | decide | omega)).trans ((va_up_ne _ _ (by first | decide | omega)).trans (va_up_self _ _ _)) | exact (va_up_ne _ _ (by first | decide | omega)).trans ((va_up_ne _ _ (by first | decide | omega)).trans ((va_up_ne _ _ (by first | decide | omega)).trans (by assumption))) | exact (va_up_ne _ _ (by first | decide | omega)).trans ((va_up_ne _ _ (by first | decide | omega)).trans ((va_up_ne _ _ (by first | decide | omega)).trans ((va_up_ne _ _ (by first | decide | omega)).trans (by assumption)))) | exact rfl) (by first | assumption | rfl | exact (List.getElem?_set_ne (by decide)).trans (by assumption) | exact List.getElem?_set_self (by omega)) ?_
  refine g_istore_n (pc' := 22) dX6_layGround_21 rfl (by decide) ?_
  refine g_aload_n (pc' := 23) dX6_layGround_22 rfl rfl ?_
  refine g_get (pc' := 26) fl_X6_24 dX6_layGround_23 (by omega) (by first | assumption | exact va_up_self _ _ _ | exact (va_up_ne _ _ (by first | decide | omega)).trans (by assumption) | exact (va_up_ne _ _ (by first | decide | omega)).trans (va_up_self _ _ _) | exact (va_up_ne _ _ (by first | decide | omega)).trans ((va_up_ne _ _ (by first | decide | omega)).trans (by assumption)) | exact (va_up_ne _ _ (by first | decide | omega)).trans ((va_up_ne _ _ (by first | decide | omega)).trans (va_up_self _ _ _)) | exact (va_up_ne _ _ (by first | decide | omega)).trans ((va_up_ne _ _ (by first | decide | omega)).trans ((va_up_ne _ _ (by first | decide | omega)).trans (by assumption))) | exact (va_up_ne _ _ (by first | decide | omega)).trans ((va_up_ne _ _ (by first | decide | omega)).trans ((va_up_ne _ _ (by first | decide | omega)).trans ((va_up_ne _ _ (by first | decide | omega)).trans (by assumption)))) | exact rfl) (by first | assumption | rfl | exact (List.getElem?_set_ne (by decide)).trans (by assumption) | exact List.getElem?_set_self (by omega)) ?_
  refine gc_V 29 15 [] [] cw_X6_82 im_X5_ground se_X5_ground dX6_layGround_26 (by decide) (by decide) (Nat.le_refl _) (Nat.le_refl _) (Nat.le_of_ble_eq_true rfl) rfl (Nat.le_of_ble_eq_true rfl) (by omega) (by first | assumption | exact va_up_self _ _ _ | exact (va_up_ne _ _ (by first | decide | omega)).trans (by assumption) | exact (va_up_ne _ _ (by first | decide | omega)).trans (va_up_self _ _ _) | exact (va_up_ne _ _ (by first | decide | omega)).trans ((va_up_ne _ _ (by first | decide | omega)).trans (by assumption)) | exact (va_up_ne _ _ (by first | decide | omega)).trans ((va_up_ne _ _ (by first | decide | omega)).trans (va_up_self _ _ _)) | exact (va_up_ne _ _ (by first | decide | omega)).trans ((va_up_ne _ _ (by first | decide | omega)).trans ((va_up_ne _ _ (by first | decide | omega)).trans (by assumption))) | exact (va_up_ne _ _ (by first | decide | omega)).trans ((va_up_ne _ _ (by first | decide | omega)).trans ((va_up_ne _ _ (by first | decide | omega)).trans ((va_up_ne _ _ (by first | decide | omega)).trans (by assumption)))) | exact rfl) rfl rfl (c_ground hn (by omega) U ⟨rfl, ?_⟩)
  show G yX6_layGround cX6_layGround 14 none (rmD 3) none Q 0 0 29 [.ref 13, .int (nI s), .int (nI (wh S D)), .int (nI (nh S (D - 1))), uu, uu, uu, uu, uu, uu, uu, uu, uu, uu] [.ref 17] hp n
  refine g_astore (pc' := 31) dX6_layGround_29 (by decide) ?_
  refine g_aload (pc' := 33) dX6_layGround_31 rfl ?_
  refine g_iload_n (pc' := 34) dX6_layGround_33 rfl rfl ?_
  refine g_iload_n (pc' := 35) dX6_layGround_34 rfl rfl ?_
  refine g_iload_n (pc' := 36) dX6_layGround_35 rfl rfl ?_
  first | refine g_iaddN (pc' := 37) dX6_layGround_36 ?_ | refine g_iadd (pc' := 37) dX6_layGround_36 ?_
  refine g_lconst (pc' := 38) (v := lN 0) dX6_layGround_37 (by decide) ?_
  refine gc_S 41 [.ref 17, .int (nI (nh S (D - 1))), .int (nI (nh S (D - 1) + wh S D)), .long (lN 0)] [] cw_X6_86 sm_J7_fill_bad5a dX6_layGround_38 (by decide) (by decide) (Nat.le_refl _) (Nat.le_refl _) (Nat.le_of_ble_eq_true rfl) rfl (Nat.le_of_ble_eq_true rfl) (c_fillJ (by omega) c17 (by omega) (by omega) (by omega) (fun f0 hf0 _ => ⟨rfl, ?_⟩))
  show G yX6_layGround cX6_layGround 14 none (rmD 3) none Q 0 0 41 [.ref 13, .int (nI s), .int (nI (wh S D)), .int (nI (nh S (D - 1))), .ref 17, uu, uu, uu, uu, uu, uu, uu, uu, uu] [] (va_up hp 17 (aJ 462 f0)) n
  refine g_iconst (pc' := 42) (v := nI 0) dX6_layGround_41 (by decide) ?_
  refine g_istore (pc' := 44) dX6_layGround_42 (by decide) ?_
  generalize hGF : (fun h r => if bt0 s r then gw P ((S ^ D) ^ (T * (opn s R - 1))) (Wt D S T R P) s h r else 0) = gf
  have egf : ∀ h r, gf h r = if bt0 s r then gw P ((S ^ D) ^ (T * (opn s R - 1))) (Wt D S T R P) s h r else 0 := fun h r => by rw [← hGF]
  have egd : ∀ h, gd D S T R P s h = mxF (gf h) R := fun h => by rw [← hGF]; rfl
  have b63 : ∀ i, i < wh S D → ∀ r, r ≤ R → mxF (gf (nh S (D - 1) + i)) r < 2 ^ 63 := fun i hi r hr => by
    have hh : nh S (D - 1) + i < nh S D := by omega
    have := gd_63 N hP hop hh ((sz_wh h2 h6 hD1 hD hh).mpr (by omega))
    rw [egd] at this
    exact Nat.lt_of_le_of_lt (mxF_mono hr) this
  have outer : ∀ k r f, r + k = R → (∀ i, i < wh S D → f (nh S (D - 1) + i) = lN (mxF (gf (nh S (D - 1) + i)) r)) → G yX6_layGround cX6_layGround 14 none (rmD 3) none Q 0 0 44 [.ref 13, .int (nI s), .int (nI (wh S D)), .int (nI (nh S (D - 1))), .ref 17, .int (nI r), uu, uu, uu, uu, uu, uu, uu, uu] [] (va_up hp 17 (aJ 462 f)) n := by
    intro k
    induction k with
    | zero =>
      intro r f hr hf
      have e : r = R := by omega
      subst e
      refine g_iload (pc' := 46) dX6_layGround_44 rfl ?_
      refine g_aload_n (pc' := 47) dX6_layGround_46 rfl rfl ?_
      refine g_get (pc' := 50) fl_X6_15 dX6_layGround_47 (by omega) (by first | assumption | exact va_up_self _ _ _ | exact (va_up_ne _ _ (by first | decide | omega)).trans (by assumption) | exact (va_up_ne _ _ (by first | decide | omega)).trans (va_up_self _ _ _) | exact (va_up_ne _ _ (by first | decide | omega)).trans ((va_up_ne _ _ (by first | decide | omega)).trans (by assumption)) | exact (va_up_ne _ _ (by first | decide | omega)).trans ((va_up_ne _ _ (by first | decide | omega)).trans (va_up_self _ _ _)) | exact (va_up_ne _ _ (by first | decide | omega)).trans ((va_up_ne _ _ (by first | decide | omega)).trans ((va_up_ne _ _ (by first | decide | omega)).trans (by assumption))) | exact (va_up_ne _ _ (by first | decide | omega)).trans ((va_up_ne _ _ (by first | decide | omega)).trans ((va_up_ne _ _ (by first | decide | omega)).trans ((va_up_ne _ _ (by first | decide | omega)).trans (by assumption)))) | exact rfl) (by first | assumption | rfl | exact (List.getElem?_set_ne (by decide)).trans (by assumption) | exact List.getElem?_set_self (by omega)) ?_
      refine g_getN (pc' := 53) fn_X6_51 dX6_layGround_50 (by omega) (by first | assumption | exact va_up_self _ _ _ | exact (va_up_ne _ _ (by first | decide | omega)).trans (by assumption) | exact (va_up_ne _ _ (by first | decide | omega)).trans (va_up_self _ _ _) | exact (va_up_ne _ _ (by first | decide | omega)).trans ((va_up_ne _ _ (by first | decide | omega)).trans (by assumption)) | exact (va_up_ne _ _ (by first | decide | omega)).trans ((va_up_ne _ _ (by first | decide | omega)).trans (va_up_self _ _ _)) | exact (va_up_ne _ _ (by first | decide | omega)).trans ((va_up_ne _ _ (by first | decide | omega)).trans ((va_up_ne _ _ (by first | decide | omega)).trans (by assumption))) | exact (va_up_ne _ _ (by first | decide | omega)).trans ((va_up_ne _ _ (by first | decide | omega)).trans ((va_up_ne _ _ (by first | decide | omega)).trans ((va_up_ne _ _ (by first | decide | omega)).trans (by assumption)))) | exact rfl) (by first | assumption | rfl | exact (List.getElem?_set_ne (by decide)).trans (by assumption) | exact List.getElem?_set_self (by omega)) ?_
      refine g_icmp_geN (tgt := 165) (pc' := 56) dX6_layGround_53 (by decide) (by first | omega | decide) (by first | omega | decide) (fun z1 => ?_) (fun z1 => ?_)
      · refine g_vret dX6_layGround_165 rfl (Nat.le_refl _) (Nat.le_refl _) (hq f (fun h hh hz => ?_))
        have := (sz_wh h2 h6 hD1 hD hh).mp hz
        have e2 := hf (h - nh S (D - 1)) (by omega)
        rw [show nh S (D - 1) + (h - nh S (D - 1)) = h by omega] at e2
        rw [e2, egd]
      · omega
    | succ k ih =>
      intro r f hr hf
      have hb9 := bI_le (bt0 s r)
      refine g_iload (pc' := 46) dX6_layGround_44 rfl ?_
      refine g_aload_n (pc' := 47) dX6_layGround_46 rfl rfl ?_
      refine g_get (pc' := 50) fl_X6_15 dX6_layGround_47 (by omega) (by first | assumption | exact va_up_self _ _ _ | exact (va_up_ne _ _ (by first | decide | omega)).trans (by assumption) | exact (va_up_ne _ _ (by first | decide | omega)).trans (va_up_self _ _ _) | exact (va_up_ne _ _ (by first | decide | omega)).trans ((va_up_ne _ _ (by first | decide | omega)).trans (by assumption)) | exact (va_up_ne _ _ (by first | decide | omega)).trans ((va_up_ne _ _ (by first | decide | omega)).trans (va_up_self _ _ _)) | exact (va_up_ne _ _ (by first | decide | omega)).trans ((va_up_ne _ _ (by first | decide | omega)).trans ((va_up_ne _ _ (by first | decide | omega)).trans (by assumption))) | exact (va_up_ne _ _ (by first | decide | omega)).trans ((va_up_ne _ _ (by first | decide | omega)).trans ((va_up_ne _ _ (by first | decide | omega)).trans ((va_up_ne _ _ (by first | decide | omega)).trans (by assumption)))) | exact rfl) (by first | assumption | rfl | exact (List.getElem?_set_ne (by decide)).trans (by assumption) | exact List.getElem?_set_self (by omega)) ?_
      refine g_getN (pc' := 53) fn_X6_51 dX6_layGround_50 (by omega) (by first | assumption | exact va_up_self _ _ _ | exact (va_up_ne _ _ (by first | decide | omega)).trans (by assumption) | exact (va_up_ne _ _ (by first | decide | omega)).trans (va_up_self _ _ _) | exact (va_up_ne _ _ (by first | decide | omega)).trans ((va_up_ne _ _ (by first | decide | omega)).trans (by assumption)) | exact (va_up_ne _ _ (by first | decide | omega)).trans ((va_up_ne _ _ (by first | decide | omega)).trans (va_up_self _ _ _)) | exact (va_up_ne _ _ (by first | decide | omega)).trans ((va_up_ne _ _ (by first | decide | omega)).trans ((va_up_ne _ _ (by first | decide | omega)).trans (by assumption))) | exact (va_up_ne _ _ (by first | decide | omega)).trans ((va_up_ne _ _ (by first | decide | omega)).trans ((va_up_ne _ _ (by first | decide | omega)).trans ((va_up_ne _ _ (by first | decide | omega)).trans (by assumption)))) | exact rfl) (by first | assumption | rfl | exact (List.getElem?_set_ne (by decide)).trans (by assumption) | exact List.getElem?_set_self (by omega)) ?_
      refine g_icmp_geN (tgt := 165) (pc' := 56) dX6_layGround_53 (by decide) (by first | omega | decide) (by first | omega | decide) (fun z1 => ?_) (fun z1 => ?_)
      · omega
      · refine g_aload_n (pc' := 57) dX6_layGround_56 rfl rfl ?_
        refine g_get (pc' := 60) fl_X6_15 dX6_layGround_57 (by omega) (by first | assumption | exact va_up_self _ _ _ | exact (va_up_ne _ _ (by first | decide | omega)).trans (by assumption) | exact (va_up_ne _ _ (by first | decide | omega)).trans (va_up_self _ _ _) | exact (va_up_ne _ _ (by first | decide | omega)).trans ((va_up_ne _ _ (by first | decide | omega)).trans (by assumption)) | exact (va_up_ne _ _ (by first | decide | omega)).trans ((va_up_ne _ _ (by first | decide | omega)).trans (va_up_self _ _ _)) | exact (va_up_ne _ _ (by first | decide | omega)).trans ((va_up_ne _ _ (by first | decide | omega)).trans ((va_up_ne _ _ (by first | decide | omega)).trans (by assumption))) | exact (va_up_ne _ _ (by first | decide | omega)).trans ((va_up_ne _ _ (by first | decide | omega)).trans ((va_up_ne _ _ (by first | decide | omega)).trans ((va_up_ne _ _ (by first | decide | omega)).trans (by assumption)))) | exact rfl) (by first | assumption | rfl | exact (List.getElem?_set_ne (by decide)).trans (by assumption) | exact List.getElem?_set_self (by omega)) ?_
        refine g_iload_n (pc' := 61) dX6_layGround_60 rfl rfl ?_
        refine g_iload (pc' := 63) dX6_layGround_61 rfl ?_
        refine gc_V 66 4 [.int (nI s), .int (nI r)] [] cw_X6_54 im_X1_isFree se_X1_isFree dX6_layGround_63 (by decide) (by decide) (Nat.le_refl _) (Nat.le_refl _) (Nat.le_of_ble_eq_true rfl) rfl (Nat.le_of_ble_eq_true rfl) (by omega) (by first | assumption | exact va_up_self _ _ _ | exact (va_up_ne _ _ (by first | decide | omega)).trans (by assumption) | exact (va_up_ne _ _ (by first | decide | omega)).trans (va_up_self _ _ _) | exact (va_up_ne _ _ (by first | decide | omega)).trans ((va_up_ne _ _ (by first | decide | omega)).trans (by assumption)) | exact (va_up_ne _ _ (by first | decide | omega)).trans ((va_up_ne _ _ (by first | decide | omega)).trans (va_up_self _ _ _)) | exact (va_up_ne _ _ (by first | decide | omega)).trans ((va_up_ne _ _ (by first | decide | omega)).trans ((va_up_ne _ _ (by first | decide | omega)).trans (by assumption))) | exact (va_up_ne _ _ (by first | decide | omega)).trans ((va_up_ne _ _ (by first | decide | omega)).trans ((va_up_ne _ _ (by first | decide | omega)).trans ((va_up_ne _ _ (by first | decide | omega)).trans (by assumption)))) | exact rfl) rfl rfl (c_isFree (by omega) (by omega) ⟨rfl, ?_⟩)
        show G yX6_layGround cX6_layGround 14 none (rmD 3) none Q 0 0 66 [.ref 13, .int (nI s), .int (nI (wh S D)), .int (nI (nh S (D - 1))), .ref 17, .int (nI r), uu, uu, uu, uu, uu, uu, uu, uu] [.int (nI (bI (bt0 s r)))] (va_up hp 17 (aJ 462 f)) n
        cases hb : bt0 s r with
        | false =>
          refine g_if_eqN (tgt := 159) (pc' := 69) dX6_layGround_66 (by decide) (by first | omega | decide) (fun z2 => ?_) (fun z2 => ?_)
          · first | refine g_iincN (z := 1) (pc' := 162) dX6_layGround_159 rfl rfl (by decide) ?_ | refine g_iinc (pc' := 162) dX6_layGround_159 rfl rfl (by decide) ?_
            refine g_goto (tgt := 44) dX6_layGround_162 (by decide) ?_
            refine ih (r + 1) f (by omega) (fun i hi => ?_)
            rw [show mxF (gf (nh S (D - 1) + i)) (r + 1) = max (mxF (gf (nh S (D - 1) + i)) r) (gf (nh S (D - 1) + i) r) from rfl, egf _ r, hb, hf i hi]
            simp
          · exact absurd rfl z2
        | true =>
          have eo := opn_pred hb (show r < R by omega)
          have hor := or_ltR hs (show r < R by omega)
          have hor8 := p256 hR hor
          refine g_if_eqN (tgt := 159) (pc' := 69) dX6_layGround_66 (by decide) (by first | omega | decide) (fun z2 => ?_) (fun z2 => ?_)
          · exact absurd z2 (by decide)
          · refine g_iload_n (pc' := 70) dX6_layGround_69 rfl rfl ?_
            refine g_iconst (pc' := 71) (v := nI 1) dX6_layGround_70 (by decide) ?_
            refine g_iload (pc' := 73) dX6_layGround_71 rfl ?_
            refine g_ishl (pc' := 74) dX6_layGround_73 ?_
            refine g_ior (pc' := 75) dX6_layGround_74 ?_
            rw [shl_bit (show r < 8 by omega)]
            refine g_istore (pc' := 77) dX6_layGround_75 (by decide) ?_
            refine g_aload_n (pc' := 78) dX6_layGround_77 rfl rfl ?_
            refine g_get (pc' := 81) fl_X6_15 dX6_layGround_78 (by omega) (by first | assumption | exact va_up_self _ _ _ | exact (va_up_ne _ _ (by first | decide | omega)).trans (by assumption) | exact (va_up_ne _ _ (by first | decide | omega)).trans (va_up_self _ _ _) | exact (va_up_ne _ _ (by first | decide | omega)).trans ((va_up_ne _ _ (by first | decide | omega)).trans (by assumption)) | exact (va_up_ne _ _ (by first | decide | omega)).trans ((va_up_ne _ _ (by first | decide | omega)).trans (va_up_self _ _ _)) | exact (va_up_ne _ _ (by first | decide | omega)).trans ((va_up_ne _ _ (by first | decide | omega)).trans ((va_up_ne _ _ (by first | decide | omega)).trans (by assumption))) | exact (va_up_ne _ _ (by first | decide | omega)).trans ((va_up_ne _ _ (by first | decide | omega)).trans ((va_up_ne _ _ (by first | decide | omega)).trans ((va_up_ne _ _ (by first | decide | omega)).trans (by assumption)))) | exact rfl) (by first | assumption | rfl | exact (List.getElem?_set_ne (by decide)).trans (by assumption) | exact List.getElem?_set_self (by omega)) ?_
            refine g_iload (pc' := 83) dX6_layGround_81 rfl ?_
            refine gc_V 86 4 [.int (nI (s ||| 2 ^ r))] [] cw_X6_62 im_X1_unitBefore se_X1_unitBefore dX6_layGround_83 (by decide) (by decide) (Nat.le_refl _) (Nat.le_refl _) (Nat.le_of_ble_eq_true rfl) rfl (Nat.le_of_ble_eq_true rfl) (by omega) (by first | assumption | exact va_up_self _ _ _ | exact (va_up_ne _ _ (by first | decide | omega)).trans (by assumption) | exact (va_up_ne _ _ (by first | decide | omega)).trans (va_up_self _ _ _) | exact (va_up_ne _ _ (by first | decide | omega)).trans ((va_up_ne _ _ (by first | decide | omega)).trans (by assumption)) | exact (va_up_ne _ _ (by first | decide | omega)).trans ((va_up_ne _ _ (by first | decide | omega)).trans (va_up_self _ _ _)) | exact (va_up_ne _ _ (by first | decide | omega)).trans ((va_up_ne _ _ (by first | decide | omega)).trans ((va_up_ne _ _ (by first | decide | omega)).trans (by assumption))) | exact (va_up_ne _ _ (by first | decide | omega)).trans ((va_up_ne _ _ (by first | decide | omega)).trans ((va_up_ne _ _ (by first | decide | omega)).trans ((va_up_ne _ _ (by first | decide | omega)).trans (by assumption)))) | exact rfl) rfl rfl (c_unitBefore hn N (GA_of (fun i q1 q2 => va_up_ne _ _ (by omega)) A) hor ⟨rfl, ?_⟩)
            rw [eo]
            show G yX6_layGround cX6_layGround 14 none (rmD 3) none Q 0 0 86 [.ref 13, .int (nI s), .int (nI (wh S D)), .int (nI (nh S (D - 1))), .ref 17, .int (nI r), .int (nI (s ||| 2 ^ r)), uu, uu, uu, uu, uu, uu, uu] [.long (lN ((S ^ D) ^ (T * (opn s R - 1))))] (va_up hp 17 (aJ 462 f)) n
            generalize hU : (S ^ D) ^ (T * (opn s R - 1)) = Ux at egf
            refine g_lstore (pc' := 88) dX6_layGround_86 (by decide) ?_
            refine g_aload_n (pc' := 89) dX6_layGround_88 rfl rfl ?_
            refine g_get (pc' := 92) fl_X6_9 dX6_layGround_89 (by omega) (by first | assumption | exact va_up_self _ _ _ | exact (va_up_ne _ _ (by first | decide | omega)).trans (by assumption) | exact (va_up_ne _ _ (by first | decide | omega)).trans (va_up_self _ _ _) | exact (va_up_ne _ _ (by first | decide | omega)).trans ((va_up_ne _ _ (by first | decide | omega)).trans (by assumption)) | exact (va_up_ne _ _ (by first | decide | omega)).trans ((va_up_ne _ _ (by first | decide | omega)).trans (va_up_self _ _ _)) | exact (va_up_ne _ _ (by first | decide | omega)).trans ((va_up_ne _ _ (by first | decide | omega)).trans ((va_up_ne _ _ (by first | decide | omega)).trans (by assumption))) | exact (va_up_ne _ _ (by first | decide | omega)).trans ((va_up_ne _ _ (by first | decide | omega)).trans ((va_up_ne _ _ (by first | decide | omega)).trans ((va_up_ne _ _ (by first | decide | omega)).trans (by assumption)))) | exact rfl) (by first | assumption | rfl | exact (List.getElem?_set_ne (by decide)).trans (by assumption) | exact List.getElem?_set_self (by omega)) ?_
            refine g_iload (pc' := 94) dX6_layGround_92 rfl ?_
            refine g_atJN (pc' := 97) cw_X6_66 dX6_layGround_94 (by decide) (by decide) (Nat.le_refl _) (Nat.le_refl _) (Nat.le_of_ble_eq_true rfl) (by omega) (by first | assumption | exact va_up_self _ _ _ | exact (va_up_ne _ _ (by first | decide | omega)).trans (by assumption) | exact (va_up_ne _ _ (by first | decide | omega)).trans (va_up_self _ _ _) | exact (va_up_ne _ _ (by first | decide | omega)).trans ((va_up_ne _ _ (by first | decide | omega)).trans (by assumption)) | exact (va_up_ne _ _ (by first | decide | omega)).trans ((va_up_ne _ _ (by first | decide | omega)).trans (va_up_self _ _ _)) | exact (va_up_ne _ _ (by first | decide | omega)).trans ((va_up_ne _ _ (by first | decide | omega)).trans ((va_up_ne _ _ (by first | decide | omega)).trans (by assumption))) | exact (va_up_ne _ _ (by first | decide | omega)).trans ((va_up_ne _ _ (by first | decide | omega)).trans ((va_up_ne _ _ (by first | decide | omega)).trans ((va_up_ne _ _ (by first | decide | omega)).trans (by assumption)))) | exact rfl) (by decide) ((IX_nI (by omega) (by omega))) (hfb r (by omega) hb) ?_
            refine g_lstore (pc' := 99) dX6_layGround_97 (by decide) ?_
            refine g_iconst (pc' := 100) (v := nI 0) dX6_layGround_99 (by decide) ?_
            refine g_istore (pc' := 102) dX6_layGround_100 (by decide) ?_
            have inner : ∀ k2 i f, i + k2 = wh S D → (∀ j, j < i → f (nh S (D - 1) + j) = lN (mxF (gf (nh S (D - 1) + j)) (r + 1))) → (∀ j, i ≤ j → j < wh S D → f (nh S (D - 1) + j) = lN (mxF (gf (nh S (D - 1) + j)) r)) → ∀ w12, G yX6_layGround cX6_layGround 14 none (rmD 3) none Q 0 0 102 [.ref 13, .int (nI s), .int (nI (wh S D)), .int (nI (nh S (D - 1))), .ref 17, .int (nI r), .int (nI (s ||| 2 ^ r)), .long (lN Ux), uu, .long (lN (Wt D S T R P (s ||| 2 ^ r))), uu, .int (nI i), w12, uu] [] (va_up hp 17 (aJ 462 f)) n := by
              intro k2
              induction k2 with
              | zero =>
                intro i f hi h1 h3 w12
                refine g_iload (pc' := 104) dX6_layGround_102 rfl ?_
                refine g_iload_n (pc' := 105) dX6_layGround_104 rfl rfl ?_
                refine g_icmp_geN (tgt := 159) (pc' := 108) dX6_layGround_105 (by decide) (by first | omega | decide) (by first | omega | decide) (fun z3 => ?_) (fun z3 => ?_)
                · first | refine g_iincN (z := 1) (pc' := 162) dX6_layGround_159 rfl rfl (by decide) ?_ | refine g_iinc (pc' := 162) dX6_layGround_159 rfl rfl (by decide) ?_
                  refine g_goto (tgt := 44) dX6_layGround_162 (by decide) ?_
                  exact g_fg (by repeat (first | exact trivial | refine ⟨Or.inr rfl, ?_⟩ | refine ⟨Or.inl rfl, ?_⟩)) (ih (r + 1) f (by omega) (fun j hj => h1 j (by omega)))
                · omega
              | succ k2 ih2 =>
                intro i f hi h1 h3 w12
                have hc := gn_cell N (show r < R by omega) (show i < wh S D by omega)
                have hp9 := hP r (nh S (D - 1) + i) (by omega)
                have eg : gf (nh S (D - 1) + i) r = P r (nh S (D - 1) + i) * Ux + Wt D S T R P (s ||| 2 ^ r) := by
                  rw [egf, hb]; rfl
                have emx : mxF (gf (nh S (D - 1) + i)) (r + 1) = max (mxF (gf (nh S (D - 1) + i)) r) (P r (nh S (D - 1) + i) * Ux + Wt D S T R P (s ||| 2 ^ r)) := by rw [← eg]; rfl
                have b1 := b63 i (by omega) r (by omega)
                have b3 := b63 i (by omega) (r + 1) (by omega)
                have b4 : P r (nh S (D - 1) + i) * Ux + Wt D S T R P (s ||| 2 ^ r) < 2 ^ 63 := by
                  rw [emx] at b3
                  omega
                refine g_iload (pc' := 104) dX6_layGround_102 rfl ?_
                refine g_iload_n (pc' := 105) dX6_layGround_104 rfl rfl ?_
                refine g_icmp_geN (tgt := 159) (pc' := 108) dX6_layGround_105 (by decide) (by first | omega | decide) (by first | omega | decide) (fun z3 => ?_) (fun z3 => ?_)
                · omega
                · refine g_aload_n (pc' := 109) dX6_layGround_108 rfl rfl ?_
                  refine g_get (pc' := 112) fl_X6_15 dX6_layGround_109 (by omega) (by first | assumption | exact va_up_self _ _ _ | exact (va_up_ne _ _ (by first | decide | omega)).trans (by assumption) | exact (va_up_ne _ _ (by first | decide | omega)).trans (va_up_self _ _ _) | exact (va_up_ne _ _ (by first | decide | omega)).trans ((va_up_ne _ _ (by first | decide | omega)).trans (by assumption)) | exact (va_up_ne _ _ (by first | decide | omega)).trans ((va_up_ne _ _ (by first | decide | omega)).trans (va_up_self _ _ _)) | exact (va_up_ne _ _ (by first | decide | omega)).trans ((va_up_ne _ _ (by first | decide | omega)).trans ((va_up_ne _ _ (by first | decide | omega)).trans (by assumption))) | exact (va_up_ne _ _ (by first | decide | omega)).trans ((va_up_ne _ _ (by first | decide | omega)).trans ((va_up_ne _ _ (by first | decide | omega)).trans ((va_up_ne _ _ (by first | decide | omega)).trans (by assumption)))) | exact rfl) (by first | assumption | rfl | exact (List.getElem?_set_ne (by decide)).trans (by assumption) | exact List.getElem?_set_self (by omega)) ?_
                  refine g_getN (pc' := 115) fn_X6_92 dX6_layGround_112 (by omega) (by first | assumption | exact va_up_self _ _ _ | exact (va_up_ne _ _ (by first | decide | omega)).trans (by assumption) | exact (va_up_ne _ _ (by first | decide | omega)).trans (va_up_self _ _ _) | exact (va_up_ne _ _ (by first | decide | omega)).trans ((va_up_ne _ _ (by first | decide | omega)).trans (by assumption)) | exact (va_up_ne _ _ (by first | decide | omega)).trans ((va_up_ne _ _ (by first | decide | omega)).trans (va_up_self _ _ _)) | exact (va_up_ne _ _ (by first | decide | omega)).trans ((va_up_ne _ _ (by first | decide | omega)).trans ((va_up_ne _ _ (by first | decide | omega)).trans (by assumption))) | exact (va_up_ne _ _ (by first | decide | omega)).trans ((va_up_ne _ _ (by first | decide | omega)).trans ((va_up_ne _ _ (by first | decide | omega)).trans ((va_up_ne _ _ (by first | decide | omega)).trans (by assumption)))) | exact rfl) (by first | assumption | rfl | exact (List.getElem?_set_ne (by decide)).trans (by assumption) | exact List.getElem?_set_self (by omega)) ?_
                  refine g_iload (pc' := 117) dX6_layGround_115 rfl ?_
                  refine g_iload_n (pc' := 118) dX6_layGround_117 rfl rfl ?_
                  first | refine g_imulN (pc' := 119) dX6_layGround_118 ?_ | refine g_imul (pc' := 119) dX6_layGround_118 ?_
                  refine g_iload (pc' := 121) dX6_layGround_119 rfl ?_
                  first | refine g_iaddN (pc' := 122) dX6_layGround_121 ?_ | refine g_iadd (pc' := 122) dX6_layGround_121 ?_
                  refine g_atIN (pc' := 125) cw_X6_96 dX6_layGround_122 (by decide) (by decide) (Nat.le_refl _) (Nat.le_refl _) (Nat.le_of_ble_eq_true rfl) (by omega) (by first | assumption | exact va_up_self _ _ _ | exact (va_up_ne _ _ (by first | decide | omega)).trans (by assumption) | exact (va_up_ne _ _ (by first | decide | omega)).trans (va_up_self _ _ _) | exact (va_up_ne _ _ (by first | decide | omega)).trans ((va_up_ne _ _ (by first | decide | omega)).trans (by assumption)) | exact (va_up_ne _ _ (by first | decide | omega)).trans ((va_up_ne _ _ (by first | decide | omega)).trans (va_up_self _ _ _)) | exact (va_up_ne _ _ (by first | decide | omega)).trans ((va_up_ne _ _ (by first | decide | omega)).trans ((va_up_ne _ _ (by first | decide | omega)).trans (by assumption))) | exact (va_up_ne _ _ (by first | decide | omega)).trans ((va_up_ne _ _ (by first | decide | omega)).trans ((va_up_ne _ _ (by first | decide | omega)).trans ((va_up_ne _ _ (by first | decide | omega)).trans (by assumption)))) | exact rfl) (by decide) ((IX_nI (by omega) (by omega))) (hfp r i (by omega) (by omega)) ?_
                  first | refine g_i2lN (pc' := 126) dX6_layGround_125 (by omega) ?_ | refine g_i2l (pc' := 126) dX6_layGround_125 ?_
                  refine g_lload (pc' := 128) dX6_layGround_126 rfl ?_
                  first | refine g_lmulN (pc' := 129) dX6_layGround_128 ?_ | refine g_lmul (pc' := 129) dX6_layGround_128 ?_
                  refine g_lload (pc' := 131) dX6_layGround_129 rfl ?_
                  first | refine g_laddN (pc' := 132) dX6_layGround_131 ?_ | refine g_ladd (pc' := 132) dX6_layGround_131 ?_
                  refine g_lstore (pc' := 134) dX6_layGround_132 (by decide) ?_
                  refine g_aload (pc' := 136) dX6_layGround_134 rfl ?_
                  refine g_iload_n (pc' := 137) dX6_layGround_136 rfl rfl ?_
                  refine g_iload (pc' := 139) dX6_layGround_137 rfl ?_
                  first | refine g_iaddN (pc' := 140) dX6_layGround_139 ?_ | refine g_iadd (pc' := 140) dX6_layGround_139 ?_
                  refine g_aload (pc' := 142) dX6_layGround_140 rfl ?_
                  refine g_iload_n (pc' := 143) dX6_layGround_142 rfl rfl ?_
                  refine g_iload (pc' := 145) dX6_layGround_143 rfl ?_
                  first | refine g_iaddN (pc' := 146) dX6_layGround_145 ?_ | refine g_iadd (pc' := 146) dX6_layGround_145 ?_
                  refine g_laldV (pc' := 147) dX6_layGround_146 (by omega) (by first | assumption | exact va_up_self _ _ _ | exact (va_up_ne _ _ (by first | decide | omega)).trans (by assumption) | exact (va_up_ne _ _ (by first | decide | omega)).trans (va_up_self _ _ _) | exact (va_up_ne _ _ (by first | decide | omega)).trans ((va_up_ne _ _ (by first | decide | omega)).trans (by assumption)) | exact (va_up_ne _ _ (by first | decide | omega)).trans ((va_up_ne _ _ (by first | decide | omega)).trans (va_up_self _ _ _)) | exact (va_up_ne _ _ (by first | decide | omega)).trans ((va_up_ne _ _ (by first | decide | omega)).trans ((va_up_ne _ _ (by first | decide | omega)).trans (by assumption))) | exact (va_up_ne _ _ (by first | decide | omega)).trans ((va_up_ne _ _ (by first | decide | omega)).trans ((va_up_ne _ _ (by first | decide | omega)).trans ((va_up_ne _ _ (by first | decide | omega)).trans (by assumption)))) | exact rfl) ((IX_nI (by omega) (by omega))) (h3 _ (Nat.le_refl _) (by omega)) ?_
                  refine g_lload (pc' := 149) dX6_layGround_147 rfl ?_
                  refine g_lmaxN (pc' := 152) mm_X6_99 dX6_layGround_149 (by decide) (Nat.le_of_ble_eq_true rfl) (Nat.le_refl _) (Nat.le_refl _) b1 b4 ?_
                  rw [← emx]
                  refine g_last (pc' := 153) dX6_layGround_152 (by omega) (by first | assumption | exact va_up_self _ _ _ | exact (va_up_ne _ _ (by first | decide | omega)).trans (by assumption) | exact (va_up_ne _ _ (by first | decide | omega)).trans (va_up_self _ _ _) | exact (va_up_ne _ _ (by first | decide | omega)).trans ((va_up_ne _ _ (by first | decide | omega)).trans (by assumption)) | exact (va_up_ne _ _ (by first | decide | omega)).trans ((va_up_ne _ _ (by first | decide | omega)).trans (va_up_self _ _ _)) | exact (va_up_ne _ _ (by first | decide | omega)).trans ((va_up_ne _ _ (by first | decide | omega)).trans ((va_up_ne _ _ (by first | decide | omega)).trans (by assumption))) | exact (va_up_ne _ _ (by first | decide | omega)).trans ((va_up_ne _ _ (by first | decide | omega)).trans ((va_up_ne _ _ (by first | decide | omega)).trans ((va_up_ne _ _ (by first | decide | omega)).trans (by assumption)))) | exact rfl) ((IX_nI (by omega) (by omega))) ?_
                  rw [up_up]
                  first | refine g_iincN (z := 1) (pc' := 156) dX6_layGround_153 rfl rfl (by decide) ?_ | refine g_iinc (pc' := 156) dX6_layGround_153 rfl rfl (by decide) ?_
                  refine g_goto (tgt := 102) dX6_layGround_156 (by decide) ?_
                  refine ih2 (i + 1) _ (by omega) (fun j hj => ?_) (fun j q1 q2 => ?_) _
                  · by_cases e : j = i
                    · rw [e, pk_uLs]
                    · rw [pk_uLn (by omega)]; exact h1 j (by omega)
                  · rw [pk_uLn (by omega)]; exact h3 j (by omega) q2
            exact g_fg (by repeat (first | exact trivial | refine ⟨Or.inr rfl, ?_⟩ | refine ⟨Or.inl rfl, ?_⟩)) (inner (wh S D) 0 f (by omega) (fun j q => absurd q (Nat.not_lt_zero j)) (fun j _ q => hf j q) uu)
  exact outer R 0 f0 (by omega) (fun i hi => hf0 _ (by omega) (by omega))
/-- the worths of the class -/
def WO (hp : AH) (D S T R : Nat) (P : Nat → Nat → Nat) : Prop := hp 13 = ob 6 [.ref 4, .ref 15, .ref 14] ∧ TU hp 15 ∧ ∃ fb : Nat → Int64, hp 14 = aJ 256 fb ∧ ∀ s, s < 2 ^ R → fb s = lN (Wt D S T R P s)
theorem WO_of {hp hp' : AH} {D S T R : Nat} {P : Nat → Nat → Nat} (h : ∀ i, 13 ≤ i → i < 24 → hp' i = hp i) (w : WO hp D S T R P) : WO hp' D S T R P := by
  obtain ⟨a, b, fb, c, d⟩ := w
  exact ⟨(h 13 (by decide) (by decide)).trans a, TU_of (fun i q1 q2 => h i (by omega) (by omega)) b, fb, (h 14 (by decide) (by decide)).trans c, d⟩
theorem WO_FT {hp hp' : AH} {D S T R : Nat} {P : Nat → Nat → Nat} (F : FT5 15 hp hp') (U : TU hp' 15) (w : WO hp D S T R P) : WO hp' D S T R P := by
  obtain ⟨a, b, fb, c, d⟩ := w
  exact ⟨(F 13 (by decide) (by decide)).trans a, U, fb, (F 14 (by decide) (by decide)).trans c, d⟩
theorem c_lookAt {hp : AH} {n D S T R s : Nat} {P : Nat → Nat → Nat} {Q : Option Value → AH → Nat → Prop} (hn : 64 ≤ n) (N : GN D S T R) (A : GA hp D S T R P) (hP : ∀ r h, r < R → P r h ≤ 210) (Wo : WO hp D S T R P) (hs : s < 2 ^ R) (hop : 1 ≤ opn s R)
    (hq : ∀ hp' : AH, TU hp' 15 → TV hp' 15 D S (gd D S T R P s) (T - 1) → FT5 15 hp hp' → Q none hp' n) : CT yX6_lookAt cX6_lookAt 2 none (rmD 4) [.ref 13, .int (nI s)] hp n Q := by
  obtain ⟨h2, h6, hD1, hD, hT1, hT3, hR1, hR, hL⟩ := id N
  obtain ⟨-, c4, -⟩ := id A
  obtain ⟨c13, U, fb, c14, hfb⟩ := id Wo
  obtain ⟨m1, m2⟩ := gd_bound N hP hop
  obtain ⟨t1, -⟩ := id U
  show G yX6_lookAt cX6_lookAt 2 none (rmD 4) none Q 0 0 0 [.ref 13, .int (nI s)] [] hp n
  refine g_aload_n (pc' := 1) dX6_lookAt_0 rfl rfl ?_
  refine g_iload_n (pc' := 2) dX6_lookAt_1 rfl rfl ?_
  refine gc_V 5 13 [.int (nI s)] [] cw_X6_34 im_X6_layGround se_X6_layGround dX6_lookAt_2 (by decide) (by decide) (Nat.le_refl _) (Nat.le_refl _) (Nat.le_of_ble_eq_true rfl) rfl (Nat.le_of_ble_eq_true rfl) (by omega) (by first | assumption | exact va_up_self _ _ _ | exact (va_up_ne _ _ (by first | decide | omega)).trans (by assumption) | exact (va_up_ne _ _ (by first | decide | omega)).trans (va_up_self _ _ _) | exact (va_up_ne _ _ (by first | decide | omega)).trans ((va_up_ne _ _ (by first | decide | omega)).trans (by assumption)) | exact (va_up_ne _ _ (by first | decide | omega)).trans ((va_up_ne _ _ (by first | decide | omega)).trans (va_up_self _ _ _)) | exact (va_up_ne _ _ (by first | decide | omega)).trans ((va_up_ne _ _ (by first | decide | omega)).trans ((va_up_ne _ _ (by first | decide | omega)).trans (by assumption))) | exact (va_up_ne _ _ (by first | decide | omega)).trans ((va_up_ne _ _ (by first | decide | omega)).trans ((va_up_ne _ _ (by first | decide | omega)).trans ((va_up_ne _ _ (by first | decide | omega)).trans (by assumption)))) | exact rfl) rfl rfl (c_layGroundW hn N A hP c13 U c14 hs hop (fun r hr hb => hfb _ (or_ltR hs hr)) (fun f hf => ⟨rfl, ?_⟩))
  have A1 : GA (va_up hp 17 (aJ 462 f)) D S T R P := GA_of (fun i q1 q2 => va_up_ne _ _ (by omega)) A
  have U1 : TU (va_up hp 17 (aJ 462 f)) 15 := TU_up (a := 15) (c := 17) (by omega) U
  have F1 : FT5 15 hp (va_up hp 17 (aJ 462 f)) := FT5.up (a := 15) (c := 17) (by omega)
  show G yX6_lookAt cX6_lookAt 2 none (rmD 4) none Q 0 0 5 [.ref 13, .int (nI s)] [] (va_up hp 17 (aJ 462 f)) n
  refine g_aload_n (pc' := 6) dX6_lookAt_5 rfl rfl ?_
  refine g_get (pc' := 9) fl_X6_24 dX6_lookAt_6 (by omega) (by first | assumption | exact va_up_self _ _ _ | exact (va_up_ne _ _ (by first | decide | omega)).trans (by assumption) | exact (va_up_ne _ _ (by first | decide | omega)).trans (va_up_self _ _ _) | exact (va_up_ne _ _ (by first | decide | omega)).trans ((va_up_ne _ _ (by first | decide | omega)).trans (by assumption)) | exact (va_up_ne _ _ (by first | decide | omega)).trans ((va_up_ne _ _ (by first | decide | omega)).trans (va_up_self _ _ _)) | exact (va_up_ne _ _ (by first | decide | omega)).trans ((va_up_ne _ _ (by first | decide | omega)).trans ((va_up_ne _ _ (by first | decide | omega)).trans (by assumption))) | exact (va_up_ne _ _ (by first | decide | omega)).trans ((va_up_ne _ _ (by first | decide | omega)).trans ((va_up_ne _ _ (by first | decide | omega)).trans ((va_up_ne _ _ (by first | decide | omega)).trans (by assumption)))) | exact rfl) (by first | assumption | rfl | exact (List.getElem?_set_ne (by decide)).trans (by assumption) | exact List.getElem?_set_self (by omega)) ?_
  refine g_aload_n (pc' := 10) dX6_lookAt_9 rfl rfl ?_
  refine g_get (pc' := 13) fl_X6_15 dX6_lookAt_10 (by omega) (by first | assumption | exact va_up_self _ _ _ | exact (va_up_ne _ _ (by first | decide | omega)).trans (by assumption) | exact (va_up_ne _ _ (by first | decide | omega)).trans (va_up_self _ _ _) | exact (va_up_ne _ _ (by first | decide | omega)).trans ((va_up_ne _ _ (by first | decide | omega)).trans (by assumption)) | exact (va_up_ne _ _ (by first | decide | omega)).trans ((va_up_ne _ _ (by first | decide | omega)).trans (va_up_self _ _ _)) | exact (va_up_ne _ _ (by first | decide | omega)).trans ((va_up_ne _ _ (by first | decide | omega)).trans ((va_up_ne _ _ (by first | decide | omega)).trans (by assumption))) | exact (va_up_ne _ _ (by first | decide | omega)).trans ((va_up_ne _ _ (by first | decide | omega)).trans ((va_up_ne _ _ (by first | decide | omega)).trans ((va_up_ne _ _ (by first | decide | omega)).trans (by assumption)))) | exact rfl) (by first | assumption | rfl | exact (List.getElem?_set_ne (by decide)).trans (by assumption) | exact List.getElem?_set_self (by omega)) ?_
  refine g_getN (pc' := 16) fn_X6_42 dX6_lookAt_13 (by omega) (by first | assumption | exact va_up_self _ _ _ | exact (va_up_ne _ _ (by first | decide | omega)).trans (by assumption) | exact (va_up_ne _ _ (by first | decide | omega)).trans (va_up_self _ _ _) | exact (va_up_ne _ _ (by first | decide | omega)).trans ((va_up_ne _ _ (by first | decide | omega)).trans (by assumption)) | exact (va_up_ne _ _ (by first | decide | omega)).trans ((va_up_ne _ _ (by first | decide | omega)).trans (va_up_self _ _ _)) | exact (va_up_ne _ _ (by first | decide | omega)).trans ((va_up_ne _ _ (by first | decide | omega)).trans ((va_up_ne _ _ (by first | decide | omega)).trans (by assumption))) | exact (va_up_ne _ _ (by first | decide | omega)).trans ((va_up_ne _ _ (by first | decide | omega)).trans ((va_up_ne _ _ (by first | decide | omega)).trans ((va_up_ne _ _ (by first | decide | omega)).trans (by assumption)))) | exact rfl) (by first | assumption | rfl | exact (List.getElem?_set_ne (by decide)).trans (by assumption) | exact List.getElem?_set_self (by omega)) ?_
  refine g_iconst (pc' := 17) (v := nI 1) dX6_lookAt_16 (by decide) ?_
  first | refine g_isubN (pc' := 18) dX6_lookAt_17 (by omega) ?_ | refine g_isub (pc' := 18) dX6_lookAt_17 ?_
  refine gc_V 21 15 [.int (nI (T - 1))] [] cw_X6_46 im_X5_climb se_X5_climb dX6_lookAt_18 (by decide) (by decide) (Nat.le_refl _) (Nat.le_refl _) (Nat.le_of_ble_eq_true rfl) rfl (Nat.le_of_ble_eq_true rfl) (by omega) (by first | assumption | exact va_up_self _ _ _ | exact (va_up_ne _ _ (by first | decide | omega)).trans (by assumption) | exact (va_up_ne _ _ (by first | decide | omega)).trans (va_up_self _ _ _) | exact (va_up_ne _ _ (by first | decide | omega)).trans ((va_up_ne _ _ (by first | decide | omega)).trans (by assumption)) | exact (va_up_ne _ _ (by first | decide | omega)).trans ((va_up_ne _ _ (by first | decide | omega)).trans (va_up_self _ _ _)) | exact (va_up_ne _ _ (by first | decide | omega)).trans ((va_up_ne _ _ (by first | decide | omega)).trans ((va_up_ne _ _ (by first | decide | omega)).trans (by assumption))) | exact (va_up_ne _ _ (by first | decide | omega)).trans ((va_up_ne _ _ (by first | decide | omega)).trans ((va_up_ne _ _ (by first | decide | omega)).trans ((va_up_ne _ _ (by first | decide | omega)).trans (by assumption)))) | exact rfl) rfl rfl (c_climb (m := T - 1) hn N A1 (by omega) U1 ⟨⟨f, va_up_self _ _ _, hf⟩, fun k q => absurd q (Nat.not_lt_zero k)⟩ m1 m2 (by omega) (fun hp1 U2 V2 F2 => ⟨rfl, ?_⟩))
  exact g_vret dX6_lookAt_21 rfl (Nat.le_refl _) (Nat.le_refl _) (hq hp1 U2 V2 (F1.tr F2))
theorem c_reckonAll {hp : AH} {n D S T R : Nat} {P : Nat → Nat → Nat} {fb : Nat → Int64} {Q : Option Value → AH → Nat → Prop} (hn : 64 ≤ n) (N : GN D S T R) (A : GA hp D S T R P) (hP : ∀ r h, r < R → P r h ≤ 210) (c13 : hp 13 = ob 6 [.ref 4, .ref 15, .ref 14]) (U : TU hp 15) (c14 : hp 14 = aJ 256 fb)
    (hq : ∀ hp' : AH, WO hp' D S T R P → (∀ i, i < 14 ∨ 24 ≤ i ∨ i = 16 ∨ i = 20 → hp' i = hp i) → Q none hp' n) : CT yX6_reckonAll cX6_reckonAll 3 none (rmD 4) [.ref 13] hp n Q := by
  obtain ⟨h2, h6, hD1, hD, hT1, hT3, hR1, hR, hL⟩ := id N
  obtain ⟨-, c4, -⟩ := id A
  have hp8 : 2 ^ R ≤ 2 ^ 8 := Nat.pow_le_pow_right (by decide) hR
  have hp1 : 2 ^ 1 ≤ 2 ^ R := Nat.pow_le_pow_right (by decide) hR1
  show G yX6_reckonAll cX6_reckonAll 3 none (rmD 4) none Q 0 0 0 [.ref 13, uu, uu] [] hp n
  refine g_aload_n (pc' := 1) dX6_reckonAll_0 rfl rfl ?_
  refine g_get (pc' := 4) fl_X6_15 dX6_reckonAll_1 (by omega) (by first | assumption | exact va_up_self _ _ _ | exact (va_up_ne _ _ (by first | decide | omega)).trans (by assumption) | exact (va_up_ne _ _ (by first | decide | omega)).trans (va_up_self _ _ _) | exact (va_up_ne _ _ (by first | decide | omega)).trans ((va_up_ne _ _ (by first | decide | omega)).trans (by assumption)) | exact (va_up_ne _ _ (by first | decide | omega)).trans ((va_up_ne _ _ (by first | decide | omega)).trans (va_up_self _ _ _)) | exact (va_up_ne _ _ (by first | decide | omega)).trans ((va_up_ne _ _ (by first | decide | omega)).trans ((va_up_ne _ _ (by first | decide | omega)).trans (by assumption))) | exact (va_up_ne _ _ (by first | decide | omega)).trans ((va_up_ne _ _ (by first | decide | omega)).trans ((va_up_ne _ _ (by first | decide | omega)).trans ((va_up_ne _ _ (by first | decide | omega)).trans (by assumption)))) | exact rfl) (by first | assumption | rfl | exact (List.getElem?_set_ne (by decide)).trans (by assumption) | exact List.getElem?_set_self (by omega)) ?_
  refine gc_V 7 4 [] [] cw_X6_28 im_X1_fullSheet se_X1_fullSheet dX6_reckonAll_4 (by decide) (by decide) (Nat.le_refl _) (Nat.le_refl _) (Nat.le_of_ble_eq_true rfl) rfl (Nat.le_of_ble_eq_true rfl) (by omega) (by first | assumption | exact va_up_self _ _ _ | exact (va_up_ne _ _ (by first | decide | omega)).trans (by assumption) | exact (va_up_ne _ _ (by first | decide | omega)).trans (va_up_self _ _ _) | exact (va_up_ne _ _ (by first | decide | omega)).trans ((va_up_ne _ _ (by first | decide | omega)).trans (by assumption)) | exact (va_up_ne _ _ (by first | decide | omega)).trans ((va_up_ne _ _ (by first | decide | omega)).trans (va_up_self _ _ _)) | exact (va_up_ne _ _ (by first | decide | omega)).trans ((va_up_ne _ _ (by first | decide | omega)).trans ((va_up_ne _ _ (by first | decide | omega)).trans (by assumption))) | exact (va_up_ne _ _ (by first | decide | omega)).trans ((va_up_ne _ _ (by first | decide | omega)).trans ((va_up_ne _ _ (by first | decide | omega)).trans ((va_up_ne _ _ (by first | decide | omega)).trans (by assumption)))) | exact rfl) rfl rfl (c_fullSheet hn hR c4 ⟨rfl, ?_⟩)
  show G yX6_reckonAll cX6_reckonAll 3 none (rmD 4) none Q 0 0 7 [.ref 13, uu, uu] [.int (nI (2 ^ R - 1))] hp n
  refine g_istore_n (pc' := 8) dX6_reckonAll_7 rfl (by decide) ?_
  refine g_aload_n (pc' := 9) dX6_reckonAll_8 rfl rfl ?_
  refine g_get (pc' := 12) fl_X6_9 dX6_reckonAll_9 (by omega) (by first | assumption | exact va_up_self _ _ _ | exact (va_up_ne _ _ (by first | decide | omega)).trans (by assumption) | exact (va_up_ne _ _ (by first | decide | omega)).trans (va_up_self _ _ _) | exact (va_up_ne _ _ (by first | decide | omega)).trans ((va_up_ne _ _ (by first | decide | omega)).trans (by assumption)) | exact (va_up_ne _ _ (by first | decide | omega)).trans ((va_up_ne _ _ (by first | decide | omega)).trans (va_up_self _ _ _)) | exact (va_up_ne _ _ (by first | decide | omega)).trans ((va_up_ne _ _ (by first | decide | omega)).trans ((va_up_ne _ _ (by first | decide | omega)).trans (by assumption))) | exact (va_up_ne _ _ (by first | decide | omega)).trans ((va_up_ne _ _ (by first | decide | omega)).trans ((va_up_ne _ _ (by first | decide | omega)).trans ((va_up_ne _ _ (by first | decide | omega)).trans (by assumption)))) | exact rfl) (by first | assumption | rfl | exact (List.getElem?_set_ne (by decide)).trans (by assumption) | exact List.getElem?_set_self (by omega)) ?_
  refine g_iload_n (pc' := 13) dX6_reckonAll_12 rfl rfl ?_
  refine g_lconst (pc' := 14) (v := lN 0) dX6_reckonAll_13 (by decide) ?_
  refine g_last (pc' := 15) dX6_reckonAll_14 (by omega) (by first | assumption | exact va_up_self _ _ _ | exact (va_up_ne _ _ (by first | decide | omega)).trans (by assumption) | exact (va_up_ne _ _ (by first | decide | omega)).trans (va_up_self _ _ _) | exact (va_up_ne _ _ (by first | decide | omega)).trans ((va_up_ne _ _ (by first | decide | omega)).trans (by assumption)) | exact (va_up_ne _ _ (by first | decide | omega)).trans ((va_up_ne _ _ (by first | decide | omega)).trans (va_up_self _ _ _)) | exact (va_up_ne _ _ (by first | decide | omega)).trans ((va_up_ne _ _ (by first | decide | omega)).trans ((va_up_ne _ _ (by first | decide | omega)).trans (by assumption))) | exact (va_up_ne _ _ (by first | decide | omega)).trans ((va_up_ne _ _ (by first | decide | omega)).trans ((va_up_ne _ _ (by first | decide | omega)).trans ((va_up_ne _ _ (by first | decide | omega)).trans (by assumption)))) | exact rfl) ((IX_nI (by omega) (by omega))) ?_
  refine g_iload_n (pc' := 16) dX6_reckonAll_15 rfl rfl ?_
  refine g_iconst (pc' := 17) (v := nI 1) dX6_reckonAll_16 (by decide) ?_
  first | refine g_isubN (pc' := 18) dX6_reckonAll_17 (by omega) ?_ | refine g_isub (pc' := 18) dX6_reckonAll_17 ?_
  refine g_istore_n (pc' := 19) dX6_reckonAll_18 rfl (by decide) ?_
  have body : ∀ (s : Nat) (hp1 : AH) (fb : Nat → Int64), s + 1 < 2 ^ R → GA hp1 D S T R P → TU hp1 15 → hp1 13 = ob 6 [.ref 4, .ref 15, .ref 14] → hp1 14 = aJ 256 fb → (∀ t, s < t → t < 2 ^ R → fb t = lN (Wt D S T R P t)) → (∀ i, i < 14 ∨ 24 ≤ i ∨ i = 16 ∨ i = 20 → hp1 i = hp i) →
      (∀ (hp2 : AH) (fb : Nat → Int64), GA hp2 D S T R P → TU hp2 15 → hp2 13 = ob 6 [.ref 4, .ref 15, .ref 14] → hp2 14 = aJ 256 fb → (∀ t, s ≤ t → t < 2 ^ R → fb t = lN (Wt D S T R P t)) → (∀ i, i < 14 ∨ 24 ≤ i ∨ i = 16 ∨ i = 20 → hp2 i = hp i) → G yX6_reckonAll cX6_reckonAll 3 none (rmD 4) none Q 0 0 41 [.ref 13, .int (nI (2 ^ R - 1)), .int (nI s)] [] hp2 n) → G yX6_reckonAll cX6_reckonAll 3 none (rmD 4) none Q 0 0 19 [.ref 13, .int (nI (2 ^ R - 1)), .int (nI s)] [] hp1 n := by
    intro s hp1 fb hs A U c13 c14 hfb E k
    have hop : 1 ≤ opn s R := by
      rcases Nat.eq_zero_or_pos (opn s R) with q | q
      · have := full_of (show s < 2 ^ R by omega) q
        omega
      · exact q
    obtain ⟨m1, m2⟩ := gd_bound N hP hop
    refine g_iload_n (pc' := 20) dX6_reckonAll_19 rfl rfl ?_
    refine g_if_ltN (tgt := 47) (pc' := 23) dX6_reckonAll_20 (by decide) (by first | omega | decide) (fun z1 => ?_) (fun z1 => ?_)
    · exact z1.elim
    · refine g_aload_n (pc' := 24) dX6_reckonAll_23 rfl rfl ?_
      refine g_iload_n (pc' := 25) dX6_reckonAll_24 rfl rfl ?_
      refine gc_V 28 13 [.int (nI s)] [] cw_X6_34 im_X6_layGround se_X6_layGround dX6_reckonAll_25 (by decide) (by decide) (Nat.le_refl _) (Nat.le_refl _) (Nat.le_of_ble_eq_true rfl) rfl (Nat.le_of_ble_eq_true rfl) (by omega) (by first | assumption | exact va_up_self _ _ _ | exact (va_up_ne _ _ (by first | decide | omega)).trans (by assumption) | exact (va_up_ne _ _ (by first | decide | omega)).trans (va_up_self _ _ _) | exact (va_up_ne _ _ (by first | decide | omega)).trans ((va_up_ne _ _ (by first | decide | omega)).trans (by assumption)) | exact (va_up_ne _ _ (by first | decide | omega)).trans ((va_up_ne _ _ (by first | decide | omega)).trans (va_up_self _ _ _)) | exact (va_up_ne _ _ (by first | decide | omega)).trans ((va_up_ne _ _ (by first | decide | omega)).trans ((va_up_ne _ _ (by first | decide | omega)).trans (by assumption))) | exact (va_up_ne _ _ (by first | decide | omega)).trans ((va_up_ne _ _ (by first | decide | omega)).trans ((va_up_ne _ _ (by first | decide | omega)).trans ((va_up_ne _ _ (by first | decide | omega)).trans (by assumption)))) | exact rfl) rfl rfl (c_layGroundW hn N A hP c13 U c14 (by omega) hop (fun r hr hb => hfb _ (or_gt hb) (or_ltR (by omega) hr)) (fun f hf => ⟨rfl, ?_⟩))
      have A1 : GA (va_up hp1 17 (aJ 462 f)) D S T R P := GA_of (fun i q1 q2 => va_up_ne _ _ (by omega)) A
      have U1 : TU (va_up hp1 17 (aJ 462 f)) 15 := TU_up (a := 15) (c := 17) (by omega) U
      have F1 : FT5 15 hp1 (va_up hp1 17 (aJ 462 f)) := FT5.up (a := 15) (c := 17) (by omega)
      obtain ⟨t1, -⟩ := id U1
      show G yX6_reckonAll cX6_reckonAll 3 none (rmD 4) none Q 0 0 28 [.ref 13, .int (nI (2 ^ R - 1)), .int (nI s)] [] (va_up hp1 17 (aJ 462 f)) n
      refine g_aload_n (pc' := 29) dX6_reckonAll_28 rfl rfl ?_
      refine g_get (pc' := 32) fl_X6_9 dX6_reckonAll_29 (by omega) (by first | assumption | exact va_up_self _ _ _ | exact (va_up_ne _ _ (by first | decide | omega)).trans (by assumption) | exact (va_up_ne _ _ (by first | decide | omega)).trans (va_up_self _ _ _) | exact (va_up_ne _ _ (by first | decide | omega)).trans ((va_up_ne _ _ (by first | decide | omega)).trans (by assumption)) | exact (va_up_ne _ _ (by first | decide | omega)).trans ((va_up_ne _ _ (by first | decide | omega)).trans (va_up_self _ _ _)) | exact (va_up_ne _ _ (by first | decide | omega)).trans ((va_up_ne _ _ (by first | decide | omega)).trans ((va_up_ne _ _ (by first | decide | omega)).trans (by assumption))) | exact (va_up_ne _ _ (by first | decide | omega)).trans ((va_up_ne _ _ (by first | decide | omega)).trans ((va_up_ne _ _ (by first | decide | omega)).trans ((va_up_ne _ _ (by first | decide | omega)).trans (by assumption)))) | exact rfl) (by first | assumption | rfl | exact (List.getElem?_set_ne (by decide)).trans (by assumption) | exact List.getElem?_set_self (by omega)) ?_
      refine g_iload_n (pc' := 33) dX6_reckonAll_32 rfl rfl ?_
      refine g_aload_n (pc' := 34) dX6_reckonAll_33 rfl rfl ?_
      refine g_get (pc' := 37) fl_X6_24 dX6_reckonAll_34 (by omega) (by first | assumption | exact va_up_self _ _ _ | exact (va_up_ne _ _ (by first | decide | omega)).trans (by assumption) | exact (va_up_ne _ _ (by first | decide | omega)).trans (va_up_self _ _ _) | exact (va_up_ne _ _ (by first | decide | omega)).trans ((va_up_ne _ _ (by first | decide | omega)).trans (by assumption)) | exact (va_up_ne _ _ (by first | decide | omega)).trans ((va_up_ne _ _ (by first | decide | omega)).trans (va_up_self _ _ _)) | exact (va_up_ne _ _ (by first | decide | omega)).trans ((va_up_ne _ _ (by first | decide | omega)).trans ((va_up_ne _ _ (by first | decide | omega)).trans (by assumption))) | exact (va_up_ne _ _ (by first | decide | omega)).trans ((va_up_ne _ _ (by first | decide | omega)).trans ((va_up_ne _ _ (by first | decide | omega)).trans ((va_up_ne _ _ (by first | decide | omega)).trans (by assumption)))) | exact rfl) (by first | assumption | rfl | exact (List.getElem?_set_ne (by decide)).trans (by assumption) | exact List.getElem?_set_self (by omega)) ?_
      refine gc_V 40 15 [] [.int (nI s), .ref 14] cw_X6_38 im_X5_valueBefore se_X5_valueBefore dX6_reckonAll_37 (by decide) (by decide) (Nat.le_refl _) (Nat.le_refl _) (Nat.le_of_ble_eq_true rfl) rfl (Nat.le_of_ble_eq_true rfl) (by omega) (by first | assumption | exact va_up_self _ _ _ | exact (va_up_ne _ _ (by first | decide | omega)).trans (by assumption) | exact (va_up_ne _ _ (by first | decide | omega)).trans (va_up_self _ _ _) | exact (va_up_ne _ _ (by first | decide | omega)).trans ((va_up_ne _ _ (by first | decide | omega)).trans (by assumption)) | exact (va_up_ne _ _ (by first | decide | omega)).trans ((va_up_ne _ _ (by first | decide | omega)).trans (va_up_self _ _ _)) | exact (va_up_ne _ _ (by first | decide | omega)).trans ((va_up_ne _ _ (by first | decide | omega)).trans ((va_up_ne _ _ (by first | decide | omega)).trans (by assumption))) | exact (va_up_ne _ _ (by first | decide | omega)).trans ((va_up_ne _ _ (by first | decide | omega)).trans ((va_up_ne _ _ (by first | decide | omega)).trans ((va_up_ne _ _ (by first | decide | omega)).trans (by assumption)))) | exact rfl) rfl rfl (c_valueBefore hn N A1 (by omega) U1 ⟨⟨f, va_up_self _ _ _, hf⟩, fun k q => absurd q (Nat.not_lt_zero k)⟩ m1 m2 (fun hp2 U2 F2 => ⟨rfl, ?_⟩))
      rw [← Wt_step hop]
      have c14' : hp2 14 = aJ 256 fb := ((F1.tr F2) 14 (by omega) (by omega)).trans c14
      show G yX6_reckonAll cX6_reckonAll 3 none (rmD 4) none Q 0 0 40 [.ref 13, .int (nI (2 ^ R - 1)), .int (nI s)] [.long (lN (Wt D S T R P s)), .int (nI s), .ref 14] hp2 n
      refine g_last (pc' := 41) dX6_reckonAll_40 (by omega) (by first | assumption | exact va_up_self _ _ _ | exact (va_up_ne _ _ (by first | decide | omega)).trans (by assumption) | exact (va_up_ne _ _ (by first | decide | omega)).trans (va_up_self _ _ _) | exact (va_up_ne _ _ (by first | decide | omega)).trans ((va_up_ne _ _ (by first | decide | omega)).trans (by assumption)) | exact (va_up_ne _ _ (by first | decide | omega)).trans ((va_up_ne _ _ (by first | decide | omega)).trans (va_up_self _ _ _)) | exact (va_up_ne _ _ (by first | decide | omega)).trans ((va_up_ne _ _ (by first | decide | omega)).trans ((va_up_ne _ _ (by first | decide | omega)).trans (by assumption))) | exact (va_up_ne _ _ (by first | decide | omega)).trans ((va_up_ne _ _ (by first | decide | omega)).trans ((va_up_ne _ _ (by first | decide | omega)).trans ((va_up_ne _ _ (by first | decide | omega)).trans (by assumption)))) | exact rfl) ((IX_nI (by omega) (by omega))) ?_
      have A2 : GA hp2 D S T R P := GA_of (fun i q1 q2 => (F1.tr F2) i (by omega) (by omega)) A
      refine k _ _ (GA_of (fun i q1 q2 => va_up_ne _ _ (by omega)) A2) (TU_of (fun i q1 q2 => va_up_ne _ _ (by omega)) U2) ((va_up_ne _ _ (by omega)).trans (((F1.tr F2) 13 (by omega) (by omega)).trans c13)) (va_up_self _ _ _) (fun t q1 q2 => ?_) (fun i hi => ?_)
      · by_cases e : t = s
        · rw [e, pk_uLs]
        · rw [pk_uLn e]; exact hfb t (by omega) q2
      · rw [va_up_ne _ _ (by omega), (F1.tr F2) i (by omega) (by omega)]
        exact E i hi
  have loop : ∀ (s : Nat) (hp1 : AH) (fb : Nat → Int64), s + 1 < 2 ^ R → GA hp1 D S T R P → TU hp1 15 → hp1 13 = ob 6 [.ref 4, .ref 15, .ref 14] → hp1 14 = aJ 256 fb → (∀ t, s < t → t < 2 ^ R → fb t = lN (Wt D S T R P t)) → (∀ i, i < 14 ∨ 24 ≤ i ∨ i = 16 ∨ i = 20 → hp1 i = hp i) → G yX6_reckonAll cX6_reckonAll 3 none (rmD 4) none Q 0 0 19 [.ref 13, .int (nI (2 ^ R - 1)), .int (nI s)] [] hp1 n := by
    intro s
    induction s with
    | zero =>
      intro hp1 fb hs A U c13 c14 hfb E
      refine body 0 hp1 fb hs A U c13 c14 hfb E (fun hp2 fb2 A2 U2 d13 d14 hfb2 E2 => ?_)
      refine g_iinc (pc' := 44) dX6_reckonAll_41 rfl rfl (by decide) ?_
      refine g_goto (tgt := 19) dX6_reckonAll_44 (by decide) ?_
      refine g_iload_n (pc' := 20) dX6_reckonAll_19 rfl rfl ?_
      refine g_if_lt (tgt := 47) (pc' := 23) dX6_reckonAll_20 (by decide) (fun z3 => ?_) (fun z3 => ?_)
      · exact g_vret dX6_reckonAll_47 rfl (Nat.le_refl _) (Nat.le_refl _) (hq hp2 ⟨d13, U2, fb2, d14, fun t ht => hfb2 t (Nat.zero_le _) ht⟩ E2)
      · exact absurd (show nI 0 + Int32.ofInt (-1) < 0 by decide) z3
    | succ s ih =>
      intro hp1 fb hs A U c13 c14 hfb E
      refine body (s + 1) hp1 fb hs A U c13 c14 hfb E (fun hp2 fb2 A2 U2 d13 d14 hfb2 E2 => ?_)
      first | refine g_idecN (pc' := 44) dX6_reckonAll_41 rfl rfl (by omega) (by decide) ?_ | refine g_iinc (pc' := 44) dX6_reckonAll_41 rfl rfl (by decide) ?_
      refine g_goto (tgt := 19) dX6_reckonAll_44 (by decide) ?_
      exact ih hp2 fb2 (by omega) A2 U2 d13 d14 (fun t q1 q2 => hfb2 t (by omega) q2) E2
  rw [show 2 ^ R - 1 - 1 = 2 ^ R - 2 by omega]
  refine loop (2 ^ R - 2) _ _ (by omega) (GA_of (fun i q1 q2 => va_up_ne _ _ (by omega)) A) (TU_of (fun i q1 q2 => va_up_ne _ _ (by omega)) U) ((va_up_ne _ _ (by omega)).trans c13) (va_up_self _ _ _) (fun t q1 q2 => ?_) (fun i hi => va_up_ne _ _ (by omega))
  have e : t = 2 ^ R - 1 := by omega
  rw [e, pk_uLs, Wt_full (opn_full R)]
theorem c_bestRowFor {hp : AH} {n D S T R s h j : Nat} {P : Nat → Nat → Nat} {Q : Option Value → AH → Nat → Prop} (hn : 64 ≤ n) (N : GN D S T R) (A : GA hp D S T R P) (hP : ∀ r h, r < R → P r h ≤ 210) (Wo : WO hp D S T R P) (hs : s < 2 ^ R) (hop : 1 ≤ opn s R) (hh : h < nh S D) (hz : sz S h = D) (hj : argF (bt0 s) (gw P ((S ^ D) ^ (T * (opn s R - 1))) (Wt D S T R P) s h) R = some j) (hq : Q (some (.int (nI j))) hp n) : CT yX6_bestRowFor cX6_bestRowFor 10 (some .int) (rmD 3) [.ref 13, .int (nI s), .int (nI h)] hp n Q := by
  obtain ⟨h2, h6, hD1, hD, hT1, hT3, hR1, hR, hL⟩ := id N
  obtain ⟨-, c4, -⟩ := id A
  obtain ⟨c13, U, fb, c14, hfb⟩ := id Wo
  obtain ⟨hN, hN1⟩ := nh_le h2 h6 hD
  have hs8 := p256 hR hs
  have hz' := (sz_wh h2 h6 hD1 hD hh).mp hz
  have b63 : ∀ r, r < R → bt0 s r = true → gw P ((S ^ D) ^ (T * (opn s R - 1))) (Wt D S T R P) s h r < 2 ^ 63 := fun r hr hb => Nat.lt_of_le_of_lt (gw_le_gd hr hb) (gd_63 N hP hop hh hz)
  show G yX6_bestRowFor cX6_bestRowFor 10 (some .int) (rmD 3) none Q 0 0 0 [.ref 13, .int (nI s), .int (nI h), uu, uu, uu, uu, uu, uu, uu] [] hp n
  refine g_iconst (pc' := 1) (v := -1) dX6_bestRowFor_0 (by decide) ?_
  refine g_istore_n (pc' := 2) dX6_bestRowFor_1 rfl (by decide) ?_
  refine g_ldc2 (pc' := 5) dX6_bestRowFor_2 kl_X6_49 ?_
  refine g_lstore (pc' := 7) dX6_bestRowFor_5 (by decide) ?_
  refine g_iconst (pc' := 8) (v := nI 0) dX6_bestRowFor_7 (by decide) ?_
  refine g_istore (pc' := 10) dX6_bestRowFor_8 (by decide) ?_
  generalize hF : gw P ((S ^ D) ^ (T * (opn s R - 1))) (Wt D S T R P) s h = F at hj b63
  have loop : ∀ k i, i + k = R → G yX6_bestRowFor cX6_bestRowFor 10 (some .int) (rmD 3) none Q 0 0 10 [.ref 13, .int (nI s), .int (nI h), .int (aO (argF (bt0 s) F i)), .long (bestL (argF (bt0 s) F i) F), uu, .int (nI i), uu, uu, uu] [] hp n := by
    intro k
    induction k with
    | zero =>
      intro i hi
      have e : i = R := by omega
      subst e
      refine g_iload (pc' := 12) dX6_bestRowFor_10 rfl ?_
      refine g_aload_n (pc' := 13) dX6_bestRowFor_12 rfl rfl ?_
      refine g_get (pc' := 16) fl_X6_15 dX6_bestRowFor_13 (by omega) (by first | assumption | exact va_up_self _ _ _ | exact (va_up_ne _ _ (by first | decide | omega)).trans (by assumption) | exact (va_up_ne _ _ (by first | decide | omega)).trans (va_up_self _ _ _) | exact (va_up_ne _ _ (by first | decide | omega)).trans ((va_up_ne _ _ (by first | decide | omega)).trans (by assumption)) | exact (va_up_ne _ _ (by first | decide | omega)).trans ((va_up_ne _ _ (by first | decide | omega)).trans (va_up_self _ _ _)) | exact (va_up_ne _ _ (by first | decide | omega)).trans ((va_up_ne _ _ (by first | decide | omega)).trans ((va_up_ne _ _ (by first | decide | omega)).trans (by assumption))) | exact (va_up_ne _ _ (by first | decide | omega)).trans ((va_up_ne _ _ (by first | decide | omega)).trans ((va_up_ne _ _ (by first | decide | omega)).trans ((va_up_ne _ _ (by first | decide | omega)).trans (by assumption)))) | exact rfl) (by first | assumption | rfl | exact (List.getElem?_set_ne (by decide)).trans (by assumption) | exact List.getElem?_set_self (by omega)) ?_
      refine g_getN (pc' := 19) fn_X6_51 dX6_bestRowFor_16 (by omega) (by first | assumption | exact va_up_self _ _ _ | exact (va_up_ne _ _ (by first | decide | omega)).trans (by assumption) | exact (va_up_ne _ _ (by first | decide | omega)).trans (va_up_self _ _ _) | exact (va_up_ne _ _ (by first | decide | omega)).trans ((va_up_ne _ _ (by first | decide | omega)).trans (by assumption)) | exact (va_up_ne _ _ (by first | decide | omega)).trans ((va_up_ne _ _ (by first | decide | omega)).trans (va_up_self _ _ _)) | exact (va_up_ne _ _ (by first | decide | omega)).trans ((va_up_ne _ _ (by first | decide | omega)).trans ((va_up_ne _ _ (by first | decide | omega)).trans (by assumption))) | exact (va_up_ne _ _ (by first | decide | omega)).trans ((va_up_ne _ _ (by first | decide | omega)).trans ((va_up_ne _ _ (by first | decide | omega)).trans ((va_up_ne _ _ (by first | decide | omega)).trans (by assumption)))) | exact rfl) (by first | assumption | rfl | exact (List.getElem?_set_ne (by decide)).trans (by assumption) | exact List.getElem?_set_self (by omega)) ?_
      refine g_icmp_geN (tgt := 97) (pc' := 22) dX6_bestRowFor_19 (by decide) (by first | omega | decide) (by first | omega | decide) (fun z1 => ?_) (fun z1 => ?_)
      · refine g_iload_n (pc' := 98) dX6_bestRowFor_97 rfl rfl ?_
        rw [hj]
        exact g_iret dX6_bestRowFor_98 rfl (Nat.le_refl _) (Nat.le_refl _) hq
      · omega
    | succ k ih =>
      intro i hi
      have hb9 := bI_le (bt0 s i)
      have nxt := ih (i + 1) (by omega)
      refine g_iload (pc' := 12) dX6_bestRowFor_10 rfl ?_
      refine g_aload_n (pc' := 13) dX6_bestRowFor_12 rfl rfl ?_
      refine g_get (pc' := 16) fl_X6_15 dX6_bestRowFor_13 (by omega) (by first | assumption | exact va_up_self _ _ _ | exact (va_up_ne _ _ (by first | decide | omega)).trans (by assumption) | exact (va_up_ne _ _ (by first | decide | omega)).trans (va_up_self _ _ _) | exact (va_up_ne _ _ (by first | decide | omega)).trans ((va_up_ne _ _ (by first | decide | omega)).trans (by assumption)) | exact (va_up_ne _ _ (by first | decide | omega)).trans ((va_up_ne _ _ (by first | decide | omega)).trans (va_up_self _ _ _)) | exact (va_up_ne _ _ (by first | decide | omega)).trans ((va_up_ne _ _ (by first | decide | omega)).trans ((va_up_ne _ _ (by first | decide | omega)).trans (by assumption))) | exact (va_up_ne _ _ (by first | decide | omega)).trans ((va_up_ne _ _ (by first | decide | omega)).trans ((va_up_ne _ _ (by first | decide | omega)).trans ((va_up_ne _ _ (by first | decide | omega)).trans (by assumption)))) | exact rfl) (by first | assumption | rfl | exact (List.getElem?_set_ne (by decide)).trans (by assumption) | exact List.getElem?_set_self (by omega)) ?_
      refine g_getN (pc' := 19) fn_X6_51 dX6_bestRowFor_16 (by omega) (by first | assumption | exact va_up_self _ _ _ | exact (va_up_ne _ _ (by first | decide | omega)).trans (by assumption) | exact (va_up_ne _ _ (by first | decide | omega)).trans (va_up_self _ _ _) | exact (va_up_ne _ _ (by first | decide | omega)).trans ((va_up_ne _ _ (by first | decide | omega)).trans (by assumption)) | exact (va_up_ne _ _ (by first | decide | omega)).trans ((va_up_ne _ _ (by first | decide | omega)).trans (va_up_self _ _ _)) | exact (va_up_ne _ _ (by first | decide | omega)).trans ((va_up_ne _ _ (by first | decide | omega)).trans ((va_up_ne _ _ (by first | decide | omega)).trans (by assumption))) | exact (va_up_ne _ _ (by first | decide | omega)).trans ((va_up_ne _ _ (by first | decide | omega)).trans ((va_up_ne _ _ (by first | decide | omega)).trans ((va_up_ne _ _ (by first | decide | omega)).trans (by assumption)))) | exact rfl) (by first | assumption | rfl | exact (List.getElem?_set_ne (by decide)).trans (by assumption) | exact List.getElem?_set_self (by omega)) ?_
      refine g_icmp_geN (tgt := 97) (pc' := 22) dX6_bestRowFor_19 (by decide) (by first | omega | decide) (by first | omega | decide) (fun z1 => ?_) (fun z1 => ?_)
      · omega
      · refine g_aload_n (pc' := 23) dX6_bestRowFor_22 rfl rfl ?_
        refine g_get (pc' := 26) fl_X6_15 dX6_bestRowFor_23 (by omega) (by first | assumption | exact va_up_self _ _ _ | exact (va_up_ne _ _ (by first | decide | omega)).trans (by assumption) | exact (va_up_ne _ _ (by first | decide | omega)).trans (va_up_self _ _ _) | exact (va_up_ne _ _ (by first | decide | omega)).trans ((va_up_ne _ _ (by first | decide | omega)).trans (by assumption)) | exact (va_up_ne _ _ (by first | decide | omega)).trans ((va_up_ne _ _ (by first | decide | omega)).trans (va_up_self _ _ _)) | exact (va_up_ne _ _ (by first | decide | omega)).trans ((va_up_ne _ _ (by first | decide | omega)).trans ((va_up_ne _ _ (by first | decide | omega)).trans (by assumption))) | exact (va_up_ne _ _ (by first | decide | omega)).trans ((va_up_ne _ _ (by first | decide | omega)).trans ((va_up_ne _ _ (by first | decide | omega)).trans ((va_up_ne _ _ (by first | decide | omega)).trans (by assumption)))) | exact rfl) (by first | assumption | rfl | exact (List.getElem?_set_ne (by decide)).trans (by assumption) | exact List.getElem?_set_self (by omega)) ?_
        refine g_iload_n (pc' := 27) dX6_bestRowFor_26 rfl rfl ?_
        refine g_iload (pc' := 29) dX6_bestRowFor_27 rfl ?_
        refine gc_V 32 4 [.int (nI s), .int (nI i)] [] cw_X6_54 im_X1_isFree se_X1_isFree dX6_bestRowFor_29 (by decide) (by decide) (Nat.le_refl _) (Nat.le_refl _) (Nat.le_of_ble_eq_true rfl) rfl (Nat.le_of_ble_eq_true rfl) (by omega) (by first | assumption | exact va_up_self _ _ _ | exact (va_up_ne _ _ (by first | decide | omega)).trans (by assumption) | exact (va_up_ne _ _ (by first | decide | omega)).trans (va_up_self _ _ _) | exact (va_up_ne _ _ (by first | decide | omega)).trans ((va_up_ne _ _ (by first | decide | omega)).trans (by assumption)) | exact (va_up_ne _ _ (by first | decide | omega)).trans ((va_up_ne _ _ (by first | decide | omega)).trans (va_up_self _ _ _)) | exact (va_up_ne _ _ (by first | decide | omega)).trans ((va_up_ne _ _ (by first | decide | omega)).trans ((va_up_ne _ _ (by first | decide | omega)).trans (by assumption))) | exact (va_up_ne _ _ (by first | decide | omega)).trans ((va_up_ne _ _ (by first | decide | omega)).trans ((va_up_ne _ _ (by first | decide | omega)).trans ((va_up_ne _ _ (by first | decide | omega)).trans (by assumption)))) | exact rfl) rfl rfl (c_isFree (by omega) (by omega) ⟨rfl, ?_⟩)
        show G yX6_bestRowFor cX6_bestRowFor 10 (some .int) (rmD 3) none Q 0 0 32 [.ref 13, .int (nI s), .int (nI h), .int (aO (argF (bt0 s) F i)), .long (bestL (argF (bt0 s) F i) F), uu, .int (nI i), uu, uu, uu] [.int (nI (bI (bt0 s i)))] hp n
        cases hb : bt0 s i with
        | false =>
          have ea : argF (bt0 s) F (i + 1) = argF (bt0 s) F i := by
            rw [show argF (bt0 s) F (i + 1) = match argF (bt0 s) F i with | none => if bt0 s i then some i else none | some j => if bt0 s i && decide (F j < F i) then some i else some j from rfl, hb]
            cases argF (bt0 s) F i <;> rfl
          rw [ea] at nxt
          refine g_if_eqN (tgt := 91) (pc' := 35) dX6_bestRowFor_32 (by decide) (by first | omega | decide) (fun z2 => ?_) (fun z2 => ?_)
          · first | refine g_iincN (z := 1) (pc' := 94) dX6_bestRowFor_91 rfl rfl (by decide) ?_ | refine g_iinc (pc' := 94) dX6_bestRowFor_91 rfl rfl (by decide) ?_
            refine g_goto (tgt := 10) dX6_bestRowFor_94 (by decide) ?_
            exact nxt
          · exact absurd rfl z2
        | true =>
          have eo := opn_pred hb (show i < R by omega)
          have hor := or_ltR hs (show i < R by omega)
          have hor8 := p256 hR hor
          have hp9 := hP i h (by omega)
          have hF63 := b63 i (by omega) hb
          have eF : P i h * (S ^ D) ^ (T * (opn s R - 1)) + Wt D S T R P (s ||| 2 ^ i) = F i := by rw [← hF]; rfl
          refine g_if_eqN (tgt := 91) (pc' := 35) dX6_bestRowFor_32 (by decide) (by first | omega | decide) (fun z2 => ?_) (fun z2 => ?_)
          · exact absurd z2 (by decide)
          · refine g_iload_n (pc' := 36) dX6_bestRowFor_35 rfl rfl ?_
            refine g_iconst (pc' := 37) (v := nI 1) dX6_bestRowFor_36 (by decide) ?_
            refine g_iload (pc' := 39) dX6_bestRowFor_37 rfl ?_
            refine g_ishl (pc' := 40) dX6_bestRowFor_39 ?_
            refine g_ior (pc' := 41) dX6_bestRowFor_40 ?_
            rw [shl_bit (show i < 8 by omega)]
            refine g_istore (pc' := 43) dX6_bestRowFor_41 (by decide) ?_
            refine g_aload_n (pc' := 44) dX6_bestRowFor_43 rfl rfl ?_
            refine g_get (pc' := 47) fl_X6_15 dX6_bestRowFor_44 (by omega) (by first | assumption | exact va_up_self _ _ _ | exact (va_up_ne _ _ (by first | decide | omega)).trans (by assumption) | exact (va_up_ne _ _ (by first | decide | omega)).trans (va_up_self _ _ _) | exact (va_up_ne _ _ (by first | decide | omega)).trans ((va_up_ne _ _ (by first | decide | omega)).trans (by assumption)) | exact (va_up_ne _ _ (by first | decide | omega)).trans ((va_up_ne _ _ (by first | decide | omega)).trans (va_up_self _ _ _)) | exact (va_up_ne _ _ (by first | decide | omega)).trans ((va_up_ne _ _ (by first | decide | omega)).trans ((va_up_ne _ _ (by first | decide | omega)).trans (by assumption))) | exact (va_up_ne _ _ (by first | decide | omega)).trans ((va_up_ne _ _ (by first | decide | omega)).trans ((va_up_ne _ _ (by first | decide | omega)).trans ((va_up_ne _ _ (by first | decide | omega)).trans (by assumption)))) | exact rfl) (by first | assumption | rfl | exact (List.getElem?_set_ne (by decide)).trans (by assumption) | exact List.getElem?_set_self (by omega)) ?_
            refine g_iload (pc' := 49) dX6_bestRowFor_47 rfl ?_
            refine g_iload_n (pc' := 50) dX6_bestRowFor_49 rfl rfl ?_
            refine gc_V 53 4 [.int (nI i), .int (nI h)] [] cw_X6_58 im_X1_pointsAt se_X1_pointsAt dX6_bestRowFor_50 (by decide) (by decide) (Nat.le_refl _) (Nat.le_refl _) (Nat.le_of_ble_eq_true rfl) rfl (Nat.le_of_ble_eq_true rfl) (by omega) (by first | assumption | exact va_up_self _ _ _ | exact (va_up_ne _ _ (by first | decide | omega)).trans (by assumption) | exact (va_up_ne _ _ (by first | decide | omega)).trans (va_up_self _ _ _) | exact (va_up_ne _ _ (by first | decide | omega)).trans ((va_up_ne _ _ (by first | decide | omega)).trans (by assumption)) | exact (va_up_ne _ _ (by first | decide | omega)).trans ((va_up_ne _ _ (by first | decide | omega)).trans (va_up_self _ _ _)) | exact (va_up_ne _ _ (by first | decide | omega)).trans ((va_up_ne _ _ (by first | decide | omega)).trans ((va_up_ne _ _ (by first | decide | omega)).trans (by assumption))) | exact (va_up_ne _ _ (by first | decide | omega)).trans ((va_up_ne _ _ (by first | decide | omega)).trans ((va_up_ne _ _ (by first | decide | omega)).trans ((va_up_ne _ _ (by first | decide | omega)).trans (by assumption)))) | exact rfl) rfl rfl (c_pointsAt hn N A (by omega) hh hz' ⟨rfl, ?_⟩)
            show G yX6_bestRowFor cX6_bestRowFor 10 (some .int) (rmD 3) none Q 0 0 53 [.ref 13, .int (nI s), .int (nI h), .int (aO (argF (bt0 s) F i)), .long (bestL (argF (bt0 s) F i) F), uu, .int (nI i), .int (nI (s ||| 2 ^ i)), uu, uu] [.int (nI (P i h))] hp n
            first | refine g_i2lN (pc' := 54) dX6_bestRowFor_53 (by omega) ?_ | refine g_i2l (pc' := 54) dX6_bestRowFor_53 ?_
            refine g_aload_n (pc' := 55) dX6_bestRowFor_54 rfl rfl ?_
            refine g_get (pc' := 58) fl_X6_15 dX6_bestRowFor_55 (by omega) (by first | assumption | exact va_up_self _ _ _ | exact (va_up_ne _ _ (by first | decide | omega)).trans (by assumption) | exact (va_up_ne _ _ (by first | decide | omega)).trans (va_up_self _ _ _) | exact (va_up_ne _ _ (by first | decide | omega)).trans ((va_up_ne _ _ (by first | decide | omega)).trans (by assumption)) | exact (va_up_ne _ _ (by first | decide | omega)).trans ((va_up_ne _ _ (by first | decide | omega)).trans (va_up_self _ _ _)) | exact (va_up_ne _ _ (by first | decide | omega)).trans ((va_up_ne _ _ (by first | decide | omega)).trans ((va_up_ne _ _ (by first | decide | omega)).trans (by assumption))) | exact (va_up_ne _ _ (by first | decide | omega)).trans ((va_up_ne _ _ (by first | decide | omega)).trans ((va_up_ne _ _ (by first | decide | omega)).trans ((va_up_ne _ _ (by first | decide | omega)).trans (by assumption)))) | exact rfl) (by first | assumption | rfl | exact (List.getElem?_set_ne (by decide)).trans (by assumption) | exact List.getElem?_set_self (by omega)) ?_
            refine g_iload (pc' := 60) dX6_bestRowFor_58 rfl ?_
            refine gc_V 63 4 [.int (nI (s ||| 2 ^ i))] [.long (lN (P i h))] cw_X6_62 im_X1_unitBefore se_X1_unitBefore dX6_bestRowFor_60 (by decide) (by decide) (Nat.le_refl _) (Nat.le_refl _) (Nat.le_of_ble_eq_true rfl) rfl (Nat.le_of_ble_eq_true rfl) (by omega) (by first | assumption | exact va_up_self _ _ _ | exact (va_up_ne _ _ (by first | decide | omega)).trans (by assumption) | exact (va_up_ne _ _ (by first | decide | omega)).trans (va_up_self _ _ _) | exact (va_up_ne _ _ (by first | decide | omega)).trans ((va_up_ne _ _ (by first | decide | omega)).trans (by assumption)) | exact (va_up_ne _ _ (by first | decide | omega)).trans ((va_up_ne _ _ (by first | decide | omega)).trans (va_up_self _ _ _)) | exact (va_up_ne _ _ (by first | decide | omega)).trans ((va_up_ne _ _ (by first | decide | omega)).trans ((va_up_ne _ _ (by first | decide | omega)).trans (by assumption))) | exact (va_up_ne _ _ (by first | decide | omega)).trans ((va_up_ne _ _ (by first | decide | omega)).trans ((va_up_ne _ _ (by first | decide | omega)).trans ((va_up_ne _ _ (by first | decide | omega)).trans (by assumption)))) | exact rfl) rfl rfl (c_unitBefore hn N A hor ⟨rfl, ?_⟩)
            rw [eo]
            show G yX6_bestRowFor cX6_bestRowFor 10 (some .int) (rmD 3) none Q 0 0 63 [.ref 13, .int (nI s), .int (nI h), .int (aO (argF (bt0 s) F i)), .long (bestL (argF (bt0 s) F i) F), uu, .int (nI i), .int (nI (s ||| 2 ^ i)), uu, uu] [.long (lN ((S ^ D) ^ (T * (opn s R - 1)))), .long (lN (P i h))] hp n
            first | refine g_lmulN (pc' := 64) dX6_bestRowFor_63 ?_ | refine g_lmul (pc' := 64) dX6_bestRowFor_63 ?_
            refine g_aload_n (pc' := 65) dX6_bestRowFor_64 rfl rfl ?_
            refine g_get (pc' := 68) fl_X6_9 dX6_bestRowFor_65 (by omega) (by first | assumption | exact va_up_self _ _ _ | exact (va_up_ne _ _ (by first | decide | omega)).trans (by assumption) | exact (va_up_ne _ _ (by first | decide | omega)).trans (va_up_self _ _ _) | exact (va_up_ne _ _ (by first | decide | omega)).trans ((va_up_ne _ _ (by first | decide | omega)).trans (by assumption)) | exact (va_up_ne _ _ (by first | decide | omega)).trans ((va_up_ne _ _ (by first | decide | omega)).trans (va_up_self _ _ _)) | exact (va_up_ne _ _ (by first | decide | omega)).trans ((va_up_ne _ _ (by first | decide | omega)).trans ((va_up_ne _ _ (by first | decide | omega)).trans (by assumption))) | exact (va_up_ne _ _ (by first | decide | omega)).trans ((va_up_ne _ _ (by first | decide | omega)).trans ((va_up_ne _ _ (by first | decide | omega)).trans ((va_up_ne _ _ (by first | decide | omega)).trans (by assumption)))) | exact rfl) (by first | assumption | rfl | exact (List.getElem?_set_ne (by decide)).trans (by assumption) | exact List.getElem?_set_self (by omega)) ?_
            refine g_iload (pc' := 70) dX6_bestRowFor_68 rfl ?_
            refine g_atJN (pc' := 73) cw_X6_66 dX6_bestRowFor_70 (by decide) (by decide) (Nat.le_refl _) (Nat.le_refl _) (Nat.le_of_ble_eq_true rfl) (by omega) (by first | assumption | exact va_up_self _ _ _ | exact (va_up_ne _ _ (by first | decide | omega)).trans (by assumption) | exact (va_up_ne _ _ (by first | decide | omega)).trans (va_up_self _ _ _) | exact (va_up_ne _ _ (by first | decide | omega)).trans ((va_up_ne _ _ (by first | decide | omega)).trans (by assumption)) | exact (va_up_ne _ _ (by first | decide | omega)).trans ((va_up_ne _ _ (by first | decide | omega)).trans (va_up_self _ _ _)) | exact (va_up_ne _ _ (by first | decide | omega)).trans ((va_up_ne _ _ (by first | decide | omega)).trans ((va_up_ne _ _ (by first | decide | omega)).trans (by assumption))) | exact (va_up_ne _ _ (by first | decide | omega)).trans ((va_up_ne _ _ (by first | decide | omega)).trans ((va_up_ne _ _ (by first | decide | omega)).trans ((va_up_ne _ _ (by first | decide | omega)).trans (by assumption)))) | exact rfl) (by decide) ((IX_nI (by omega) (by omega))) (hfb _ hor) ?_
            first | refine g_laddN (pc' := 74) dX6_bestRowFor_73 ?_ | refine g_ladd (pc' := 74) dX6_bestRowFor_73 ?_
            rw [eF]
            refine g_lstore (pc' := 76) dX6_bestRowFor_74 (by decide) ?_
            refine g_lload (pc' := 78) dX6_bestRowFor_76 rfl ?_
            refine g_lload (pc' := 80) dX6_bestRowFor_78 rfl ?_
            refine g_lcmp (pc' := 81) dX6_bestRowFor_80 ?_
            cases ha : argF (bt0 s) F i with
            | none =>
              have ea : argF (bt0 s) F (i + 1) = some i := by
                rw [show argF (bt0 s) F (i + 1) = match argF (bt0 s) F i with | none => if bt0 s i then some i else none | some j => if bt0 s i && decide (F j < F i) then some i else some j from rfl, hb, ha]
                rfl
              rw [ea] at nxt
              refine g_if_le (tgt := 91) (pc' := 84) dX6_bestRowFor_81 (by decide) (fun z3 => ?_) (fun z3 => ?_)
              · exact absurd z3 (lg_m1 hF63)
              · refine g_iload (pc' := 86) dX6_bestRowFor_84 rfl ?_
                refine g_istore_n (pc' := 87) dX6_bestRowFor_86 rfl (by decide) ?_
                refine g_lload (pc' := 89) dX6_bestRowFor_87 rfl ?_
                refine g_lstore (pc' := 91) dX6_bestRowFor_89 (by decide) ?_
                first | refine g_iincN (z := 1) (pc' := 94) dX6_bestRowFor_91 rfl rfl (by decide) ?_ | refine g_iinc (pc' := 94) dX6_bestRowFor_91 rfl rfl (by decide) ?_
                refine g_goto (tgt := 10) dX6_bestRowFor_94 (by decide) ?_
                exact g_fg (by repeat (first | exact trivial | refine ⟨Or.inr rfl, ?_⟩ | refine ⟨Or.inl rfl, ?_⟩)) nxt
            | some j0 =>
              obtain ⟨a1, a2, a3⟩ := argF_max ha
              have hj63 := b63 j0 (by omega) a2
              refine g_if_le (tgt := 91) (pc' := 84) dX6_bestRowFor_81 (by decide) (fun z3 => ?_) (fun z3 => ?_)
              · have z4 : F i ≤ F j0 := (lg_le hF63 hj63).mp z3
                have ea : argF (bt0 s) F (i + 1) = some j0 := by
                  rw [show argF (bt0 s) F (i + 1) = match argF (bt0 s) F i with | none => if bt0 s i then some i else none | some j => if bt0 s i && decide (F j < F i) then some i else some j from rfl, hb, ha]
                  simp only [Bool.true_and]
                  rw [decide_eq_false (by omega)]
                  rfl
                rw [ea] at nxt
                first | refine g_iincN (z := 1) (pc' := 94) dX6_bestRowFor_91 rfl rfl (by decide) ?_ | refine g_iinc (pc' := 94) dX6_bestRowFor_91 rfl rfl (by decide) ?_
                refine g_goto (tgt := 10) dX6_bestRowFor_94 (by decide) ?_
                exact g_fg (by repeat (first | exact trivial | refine ⟨Or.inr rfl, ?_⟩ | refine ⟨Or.inl rfl, ?_⟩)) nxt
              · have z4 : ¬ F i ≤ F j0 := fun q => z3 ((lg_le hF63 hj63).mpr q)
                have ea : argF (bt0 s) F (i + 1) = some i := by
                  rw [show argF (bt0 s) F (i + 1) = match argF (bt0 s) F i with | none => if bt0 s i then some i else none | some j => if bt0 s i && decide (F j < F i) then some i else some j from rfl, hb, ha]
                  simp only [Bool.true_and]
                  rw [decide_eq_true (by omega)]
                  rfl
                rw [ea] at nxt
                refine g_iload (pc' := 86) dX6_bestRowFor_84 rfl ?_
                refine g_istore_n (pc' := 87) dX6_bestRowFor_86 rfl (by decide) ?_
                refine g_lload (pc' := 89) dX6_bestRowFor_87 rfl ?_
                refine g_lstore (pc' := 91) dX6_bestRowFor_89 (by decide) ?_
                first | refine g_iincN (z := 1) (pc' := 94) dX6_bestRowFor_91 rfl rfl (by decide) ?_ | refine g_iinc (pc' := 94) dX6_bestRowFor_91 rfl rfl (by decide) ?_
                refine g_goto (tgt := 10) dX6_bestRowFor_94 (by decide) ?_
                exact g_fg (by repeat (first | exact trivial | refine ⟨Or.inr rfl, ?_⟩ | refine ⟨Or.inl rfl, ?_⟩)) nxt
  exact loop R 0 (by omega)
