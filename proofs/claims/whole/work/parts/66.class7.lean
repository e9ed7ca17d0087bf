/-! THE CLASS: Game -/
/-- how many heaps are whole -/
def wh (S D : Nat) : Nat := nh S D - nh S (D - 1)
theorem wh_add {S D : Nat} (h2 : 2 ≤ S) (h6 : S ≤ 6) (hD : D ≤ 5) : nh S (D - 1) + wh S D = nh S D := by
  have := nh_mono h2 h6 (show D - 1 ≤ D by omega) hD
  unfold wh
  omega
theorem sz_wh {S D h : Nat} (h2 : 2 ≤ S) (h6 : S ≤ 6) (hD1 : 1 ≤ D) (hD : D ≤ 5) (hh : h < nh S D) : sz S h = D ↔ nh S (D - 1) ≤ h := by
  have h5 := nh_mono h2 h6 hD (Nat.le_refl 5)
  have a := sz_of h2 h6 hD hh
  have b := sz_iff h2 h6 (h := h) (d := D - 1) (by omega) (by omega)
  omega
/-- the numbers of a game -/
def GN (D S T R : Nat) : Prop := 2 ≤ S ∧ S ≤ 6 ∧ 1 ≤ D ∧ D ≤ 5 ∧ 1 ≤ T ∧ T ≤ 3 ∧ 1 ≤ R ∧ R ≤ 8 ∧ (S ^ D) ^ (T * R) ≤ 1000000000000000
theorem gn_al : al (fun S => al (fun D => al (fun R => (!(decide (2 ≤ S) && decide (1 ≤ D) && decide ((S ^ D) ^ R ≤ 1000000000000000))) || decide (R * wh S D ≤ 756)) 9) 6) 7 = true := by decide +kernel
theorem gn_dec (S : Nat) (hS : S < 7) (D : Nat) (hD : D < 6) (R : Nat) (hR : R < 9) (h2 : 2 ≤ S) (h1 : 1 ≤ D) (h : (S ^ D) ^ R ≤ 1000000000000000) : R * wh S D ≤ 756 := by
  have := al_spec (al_spec (al_spec gn_al S hS) D hD) R hR
  rw [decide_eq_true h2, decide_eq_true h1, decide_eq_true h] at this
  simpa using this
theorem gn_cells {D S T R : Nat} (N : GN D S T R) : R * wh S D ≤ 756 := by
  obtain ⟨h2, h6, hD1, hD, hT1, hT3, hR1, hR, hL⟩ := N
  refine gn_dec S (by omega) D (by omega) R (by omega) h2 hD1 (Nat.le_trans (Nat.pow_le_pow_right (pw_pos (by omega) D) ?_) hL)
  exact Nat.le_mul_of_pos_left R (by omega)
theorem gn_cell {D S T R r i : Nat} (N : GN D S T R) (hr : r < R) (hi : i < wh S D) : r * wh S D + i < 756 := by
  have h1 := gn_cells N
  have h3 : (r + 1) * wh S D ≤ R * wh S D := Nat.mul_le_mul_right _ hr
  rw [Nat.succ_mul] at h3
  omega
def us (x z : Int32) : Int32 := (x.toUInt32 >>> (z.toUInt32 &&& Int32.toUInt32 31)).toInt32
def b1E (x : Int32) : Int32 := x - (us x (nI 1) &&& 1431655765)
def b2E (x : Int32) : Int32 := (x &&& 858993459) + (us x (nI 2) &&& 858993459)
def b3E (x : Int32) : Int32 := (x + us x (nI 4)) &&& 252645135
def b4E (x : Int32) : Int32 := x + us x (nI 8)
def b5E (x : Int32) : Int32 := x + us x (nI 16)
theorem bc_ok : ∀ s, s < 256 → b5E (b4E (b3E (b2E (b1E (nI s))))) &&& nI 63 = nI (8 - opn s 8) := by decide +kernel
theorem opn_ext {s R : Nat} (hs : s < 2 ^ R) : ∀ k, opn s (R + k) = opn s R + k
  | 0 => rfl
  | k + 1 => by
    have e : bt0 s (R + k) = true := by
      unfold bt0
      rw [Nat.div_eq_of_lt (Nat.lt_of_lt_of_le hs (Nat.pow_le_pow_right (by decide) (by omega)))]
      rfl
    rw [show opn s (R + (k + 1)) = opn s (R + k) + (if bt0 s (R + k) then 1 else 0) from rfl, opn_ext hs k, e]
    rfl
theorem bc_R {s R : Nat} (hR : R ≤ 8) (hs : s < 2 ^ R) : 8 - opn s 8 ≤ R ∧ R - (8 - opn s 8) = opn s R := by
  have h1 := opn_ext hs (8 - R)
  rw [show R + (8 - R) = 8 by omega] at h1
  have h3 := opn_le s R
  omega
theorem p256 {s R : Nat} (hR : R ≤ 8) (hs : s < 2 ^ R) : s < 256 := Nat.lt_of_lt_of_le hs (Nat.pow_le_pow_right (n := 2) (by decide) hR)
theorem c_bitCount {hp : AH} {n s : Nat} {Q : Option Value → AH → Nat → Prop} (hs : s < 256) (hq : Q (some (.int (nI (8 - opn s 8)))) hp n) : CT yJ6_bitCount_0f7a4 cJ6_bitCount_0f7a4 1 (some .int) (rmD 0) [.int (nI s)] hp n Q := by
  rw [← bc_ok s hs] at hq
  show G yJ6_bitCount_0f7a4 cJ6_bitCount_0f7a4 1 (some .int) (rmD 0) none Q 0 0 0 [.int (nI s)] [] hp n
  refine g_iload_n (pc' := 1) dJ6_bitCount_0f7a4_0 rfl rfl ?_
  refine g_iload_n (pc' := 2) dJ6_bitCount_0f7a4_1 rfl rfl ?_
  refine g_iconst (pc' := 3) (v := nI 1) dJ6_bitCount_0f7a4_2 (by decide) ?_
  refine g_iushr (pc' := 4) dJ6_bitCount_0f7a4_3 ?_
  refine g_ldcw (pc' := 7) dJ6_bitCount_0f7a4_4 ki_J6_265 ?_
  refine g_iand (pc' := 8) dJ6_bitCount_0f7a4_7 ?_
  refine g_isub (pc' := 9) dJ6_bitCount_0f7a4_8 ?_
  refine g_istore_n (pc' := 10) dJ6_bitCount_0f7a4_9 rfl (by decide) ?_
  show G yJ6_bitCount_0f7a4 cJ6_bitCount_0f7a4 1 (some .int) (rmD 0) none Q 0 0 10 [.int (b1E (nI s))] [] hp n
  generalize b1E (nI s) = a1 at hq ⊢
  refine g_iload_n (pc' := 11) dJ6_bitCount_0f7a4_10 rfl rfl ?_
  refine g_ldcw (pc' := 14) dJ6_bitCount_0f7a4_11 ki_J6_266 ?_
  refine g_iand (pc' := 15) dJ6_bitCount_0f7a4_14 ?_
  refine g_iload_n (pc' := 16) dJ6_bitCount_0f7a4_15 rfl rfl ?_
  refine g_iconst (pc' := 17) (v := nI 2) dJ6_bitCount_0f7a4_16 (by decide) ?_
  refine g_iushr (pc' := 18) dJ6_bitCount_0f7a4_17 ?_
  refine g_ldcw (pc' := 21) dJ6_bitCount_0f7a4_18 ki_J6_266 ?_
  refine g_iand (pc' := 22) dJ6_bitCount_0f7a4_21 ?_
  refine g_iadd (pc' := 23) dJ6_bitCount_0f7a4_22 ?_
  refine g_istore_n (pc' := 24) dJ6_bitCount_0f7a4_23 rfl (by decide) ?_
  show G yJ6_bitCount_0f7a4 cJ6_bitCount_0f7a4 1 (some .int) (rmD 0) none Q 0 0 24 [.int (b2E a1)] [] hp n
  generalize b2E a1 = a2 at hq ⊢
  refine g_iload_n (pc' := 25) dJ6_bitCount_0f7a4_24 rfl rfl ?_
  refine g_iload_n (pc' := 26) dJ6_bitCount_0f7a4_25 rfl rfl ?_
  refine g_iconst (pc' := 27) (v := nI 4) dJ6_bitCount_0f7a4_26 (by decide) ?_
  refine g_iushr (pc' := 28) dJ6_bitCount_0f7a4_27 ?_
  refine g_iadd (pc' := 29) dJ6_bitCount_0f7a4_28 ?_
  refine g_ldcw (pc' := 32) dJ6_bitCount_0f7a4_29 ki_J6_267 ?_
  refine g_iand (pc' := 33) dJ6_bitCount_0f7a4_32 ?_
  refine g_istore_n (pc' := 34) dJ6_bitCount_0f7a4_33 rfl (by decide) ?_
  show G yJ6_bitCount_0f7a4 cJ6_bitCount_0f7a4 1 (some .int) (rmD 0) none Q 0 0 34 [.int (b3E a2)] [] hp n
  generalize b3E a2 = a3 at hq ⊢
  refine g_iload_n (pc' := 35) dJ6_bitCount_0f7a4_34 rfl rfl ?_
  refine g_iload_n (pc' := 36) dJ6_bitCount_0f7a4_35 rfl rfl ?_
  refine g_bipush (pc' := 38) (v := nI 8) dJ6_bitCount_0f7a4_36 (by decide) ?_
  refine g_iushr (pc' := 39) dJ6_bitCount_0f7a4_38 ?_
  refine g_iadd (pc' := 40) dJ6_bitCount_0f7a4_39 ?_
  refine g_istore_n (pc' := 41) dJ6_bitCount_0f7a4_40 rfl (by decide) ?_
  show G yJ6_bitCount_0f7a4 cJ6_bitCount_0f7a4 1 (some .int) (rmD 0) none Q 0 0 41 [.int (b4E a3)] [] hp n
  generalize b4E a3 = a4 at hq ⊢
  refine g_iload_n (pc' := 42) dJ6_bitCount_0f7a4_41 rfl rfl ?_
  refine g_iload_n (pc' := 43) dJ6_bitCount_0f7a4_42 rfl rfl ?_
  refine g_bipush (pc' := 45) (v := nI 16) dJ6_bitCount_0f7a4_43 (by decide) ?_
  refine g_iushr (pc' := 46) dJ6_bitCount_0f7a4_45 ?_
  refine g_iadd (pc' := 47) dJ6_bitCount_0f7a4_46 ?_
  refine g_istore_n (pc' := 48) dJ6_bitCount_0f7a4_47 rfl (by decide) ?_
  show G yJ6_bitCount_0f7a4 cJ6_bitCount_0f7a4 1 (some .int) (rmD 0) none Q 0 0 48 [.int (b5E a4)] [] hp n
  generalize b5E a4 = a5 at hq ⊢
  refine g_iload_n (pc' := 49) dJ6_bitCount_0f7a4_48 rfl rfl ?_
  refine g_bipush (pc' := 51) (v := nI 63) dJ6_bitCount_0f7a4_49 (by decide) ?_
  refine g_iand (pc' := 52) dJ6_bitCount_0f7a4_51 ?_
  exact g_iret dJ6_bitCount_0f7a4_52 rfl (Nat.le_refl _) (Nat.le_refl _) hq
theorem HT_of {hp hp' : AH} {D S : Nat} (h : ∀ i, 5 ≤ i → i < 10 → hp' i = hp i) (T : HT hp D S) : HT hp' D S := by
  obtain ⟨ft, fz, fl, fm, c5, c6, c7, c8, c9, q⟩ := T
  exact ⟨ft, fz, fl, fm, (h 5 (by decide) (by decide)).trans c5, (h 6 (by decide) (by decide)).trans c6, (h 7 (by decide) (by decide)).trans c7, (h 8 (by decide) (by decide)).trans c8, (h 9 (by decide) (by decide)).trans c9, q⟩
abbrev goF (T R : Nat) : List Value := [.ref 5, .ref 10, .ref 11, .ref 12, .int (nI T), .int (nI R)]
/-- the class's game: its heaps, points and units -/
def GA (hp : AH) (D S T R : Nat) (P : Nat → Nat → Nat) : Prop := HT hp D S ∧ hp 4 = ob 1 (goF T R) ∧ (∃ fp : Nat → Int32, hp 10 = aI 756 fp ∧ ∀ r i, r < R → i < wh S D → fp (r * wh S D + i) = nI (P r (nh S (D - 1) + i))) ∧ (∃ fu : Nat → Int64, hp 11 = aJ 25 fu ∧ ∀ k, k ≤ T * R → fu k = lN ((S ^ D) ^ k)) ∧ ∃ fs : Nat → Int64, hp 12 = aJ 6 fs ∧ ∀ k, k ≤ D → fs k = lN (S ^ k)
theorem GA_of {hp hp' : AH} {D S T R : Nat} {P : Nat → Nat → Nat} (h : ∀ i, 4 ≤ i → i < 13 → hp' i = hp i) (g : GA hp D S T R P) : GA hp' D S T R P := by
  obtain ⟨a, b, ⟨f1, c1, c2⟩, ⟨f2, d1, d2⟩, ⟨f3, e1, e2⟩⟩ := g
  exact ⟨HT_of (fun i q1 q2 => h i (by omega) (by omega)) a, (h 4 (by decide) (by decide)).trans b, ⟨f1, (h 10 (by decide) (by decide)).trans c1, c2⟩, ⟨f2, (h 11 (by decide) (by decide)).trans d1, d2⟩, ⟨f3, (h 12 (by decide) (by decide)).trans e1, e2⟩⟩
theorem c_freeRows {hp : AH} {n R s : Nat} {v4 : Value} {Q : Option Value → AH → Nat → Prop} (hn : 64 ≤ n) (hR : R ≤ 8) (c4 : hp 4 = ob 1 [.ref 5, .ref 10, .ref 11, .ref 12, v4, .int (nI R)]) (hs : s < 2 ^ R) (hq : Q (some (.int (nI (opn s R)))) hp n) : CT yX1_freeRows cX1_freeRows 2 (some .int) (rmD 1) [.ref 4, .int (nI s)] hp n Q := by
  obtain ⟨e1, e2⟩ := bc_R hR hs
  rw [← e2] at hq
  show G yX1_freeRows cX1_freeRows 2 (some .int) (rmD 1) none Q 0 0 0 [.ref 4, .int (nI s)] [] hp n
  refine g_aload_n (pc' := 1) dX1_freeRows_0 rfl rfl ?_
  refine g_get (pc' := 4) fl_X1_33 dX1_freeRows_1 (by omega) (by first | assumption | exact va_up_self _ _ _ | exact (va_up_ne _ _ (by first | decide | omega)).trans (by assumption) | exact (va_up_ne _ _ (by first | decide | omega)).trans (va_up_self _ _ _) | exact (va_up_ne _ _ (by first | decide | omega)).trans ((va_up_ne _ _ (by first | decide | omega)).trans (by assumption)) | exact (va_up_ne _ _ (by first | decide | omega)).trans ((va_up_ne _ _ (by first | decide | omega)).trans (va_up_self _ _ _)) | exact (va_up_ne _ _ (by first | decide | omega)).trans ((va_up_ne _ _ (by first | decide | omega)).trans ((va_up_ne _ _ (by first | decide | omega)).trans (by assumption))) | exact (va_up_ne _ _ (by first | decide | omega)).trans ((va_up_ne _ _ (by first | decide | omega)).trans ((va_up_ne _ _ (by first | decide | omega)).trans ((va_up_ne _ _ (by first | decide | omega)).trans (by assumption)))) | exact rfl) (by first | assumption | rfl | exact (List.getElem?_set_ne (by decide)).trans (by assumption) | exact List.getElem?_set_self (by omega)) ?_
  refine g_iload_n (pc' := 5) dX1_freeRows_4 rfl rfl ?_
  refine gc_S 8 [.int (nI s)] [.int (nI R)] cw_X1_84 sm_J6_bitCount_0f7a4 dX1_freeRows_5 (by decide) (by decide) (Nat.le_refl _) (Nat.le_refl _) (Nat.le_of_ble_eq_true rfl) rfl (Nat.le_of_ble_eq_true rfl) (c_bitCount (p256 hR hs) ⟨rfl, ?_⟩)
  show G yX1_freeRows cX1_freeRows 2 (some .int) (rmD 1) none Q 0 0 8 [.ref 4, .int (nI s)] [.int (nI (8 - opn s 8)), .int (nI R)] hp n
  first | refine g_isubN (pc' := 9) dX1_freeRows_8 (by omega) ?_ | refine g_isub (pc' := 9) dX1_freeRows_8 ?_
  exact g_iret dX1_freeRows_9 rfl (Nat.le_refl _) (Nat.le_refl _) hq
theorem c_fullSheet {hp : AH} {n R : Nat} {v4 : Value} {Q : Option Value → AH → Nat → Prop} (hn : 64 ≤ n) (hR : R ≤ 8) (c4 : hp 4 = ob 1 [.ref 5, .ref 10, .ref 11, .ref 12, v4, .int (nI R)]) (hq : Q (some (.int (nI (2 ^ R - 1)))) hp n) : CT yX1_fullSheet cX1_fullSheet 1 (some .int) (rmD 0) [.ref 4] hp n Q := by
  have h1 : 2 ^ R ≤ 2 ^ 8 := Nat.pow_le_pow_right (by decide) hR
  have h0 : 1 ≤ 2 ^ R := Nat.one_le_two_pow
  show G yX1_fullSheet cX1_fullSheet 1 (some .int) (rmD 0) none Q 0 0 0 [.ref 4] [] hp n
  refine g_iconst (pc' := 1) (v := nI 1) dX1_fullSheet_0 (by decide) ?_
  refine g_aload_n (pc' := 2) dX1_fullSheet_1 rfl rfl ?_
  refine g_get (pc' := 5) fl_X1_33 dX1_fullSheet_2 (by omega) (by first | assumption | exact va_up_self _ _ _ | exact (va_up_ne _ _ (by first | decide | omega)).trans (by assumption) | exact (va_up_ne _ _ (by first | decide | omega)).trans (va_up_self _ _ _) | exact (va_up_ne _ _ (by first | decide | omega)).trans ((va_up_ne _ _ (by first | decide | omega)).trans (by assumption)) | exact (va_up_ne _ _ (by first | decide | omega)).trans ((va_up_ne _ _ (by first | decide | omega)).trans (va_up_self _ _ _)) | exact (va_up_ne _ _ (by first | decide | omega)).trans ((va_up_ne _ _ (by first | decide | omega)).trans ((va_up_ne _ _ (by first | decide | omega)).trans (by assumption))) | exact (va_up_ne _ _ (by first | decide | omega)).trans ((va_up_ne _ _ (by first | decide | omega)).trans ((va_up_ne _ _ (by first | decide | omega)).trans ((va_up_ne _ _ (by first | decide | omega)).trans (by assumption)))) | exact rfl) (by first | assumption | rfl | exact (List.getElem?_set_ne (by decide)).trans (by assumption) | exact List.getElem?_set_self (by omega)) ?_
  refine g_ishl (pc' := 6) dX1_fullSheet_5 ?_
  rw [sh_l (s := 1) (r := R) (by omega) (by omega), Nat.one_mul]
  refine g_iconst (pc' := 7) (v := nI 1) dX1_fullSheet_6 (by decide) ?_
  first | refine g_isubN (pc' := 8) dX1_fullSheet_7 (by omega) ?_ | refine g_isub (pc' := 8) dX1_fullSheet_7 ?_
  exact g_iret dX1_fullSheet_8 rfl (Nat.le_refl _) (Nat.le_refl _) hq
theorem c_isFree {hp : AH} {n s r : Nat} {Q : Option Value → AH → Nat → Prop} (hs : s < 2 ^ 31) (hr : r < 32) (hq : Q (some (.int (nI (bI (bt0 s r))))) hp n) : CT yX1_isFree cX1_isFree 3 (some .boolean) (rmD 0) [.ref 4, .int (nI s), .int (nI r)] hp n Q := by
  show G yX1_isFree cX1_isFree 3 (some .boolean) (rmD 0) none Q 0 0 0 [.ref 4, .int (nI s), .int (nI r)] [] hp n
  have hm : s / 2 ^ r % 2 < 2 := Nat.mod_lt _ (by decide)
  refine g_iload_n (pc' := 1) dX1_isFree_0 rfl rfl ?_
  refine g_iload_n (pc' := 2) dX1_isFree_1 rfl rfl ?_
  refine g_ishr (pc' := 3) dX1_isFree_2 ?_
  refine g_iconst (pc' := 4) (v := nI 1) dX1_isFree_3 (by decide) ?_
  refine g_iand (pc' := 5) dX1_isFree_4 ?_
  rw [sh_b hs hr]
  refine g_if_neN (tgt := 12) (pc' := 8) dX1_isFree_5 (by decide) (by first | omega | decide) (fun z1 => ?_) (fun z1 => ?_)
  · have e : bt0 s r = false := by simp [bt0, z1]
    rw [e] at hq
    refine g_iconst (pc' := 13) (v := nI 0) dX1_isFree_12 (by decide) ?_
    exact g_zret dX1_isFree_13 rfl (by decide) (Nat.le_refl _) (Nat.le_refl _) hq
  · have e : bt0 s r = true := by simp [bt0, z1]
    rw [e] at hq
    refine g_iconst (pc' := 9) (v := nI 1) dX1_isFree_8 (by decide) ?_
    refine g_goto (tgt := 13) dX1_isFree_9 (by decide) ?_
    exact g_zret dX1_isFree_13 rfl (by decide) (Nat.le_refl _) (Nat.le_refl _) hq
theorem c_pointsAt {hp : AH} {n D S T R r h : Nat} {P : Nat → Nat → Nat} {Q : Option Value → AH → Nat → Prop} (hn : 64 ≤ n) (N : GN D S T R) (A : GA hp D S T R P) (hr : r < R) (hh : h < nh S D) (hz : nh S (D - 1) ≤ h) (hq : Q (some (.int (nI (P r h)))) hp n) : CT yX1_pointsAt cX1_pointsAt 3 (some .int) (rmD 1) [.ref 4, .int (nI r), .int (nI h)] hp n Q := by
  obtain ⟨hT, c4, ⟨fp, c10, hp10⟩, -, -⟩ := id A
  obtain ⟨ft, fz, fl, fm, c5, -⟩ := id hT
  obtain ⟨h2, h6, hD1, hD, hT1, hT3, hR1, hR, hL⟩ := id N
  have ha := wh_add h2 h6 hD
  have hc := gn_cell N hr (show h - nh S (D - 1) < wh S D by omega)
  have ev := hp10 r (h - nh S (D - 1)) hr (by omega)
  rw [show nh S (D - 1) + (h - nh S (D - 1)) = h by omega] at ev
  show G yX1_pointsAt cX1_pointsAt 3 (some .int) (rmD 1) none Q 0 0 0 [.ref 4, .int (nI r), .int (nI h)] [] hp n
  refine g_aload_n (pc' := 1) dX1_pointsAt_0 rfl rfl ?_
  refine g_get (pc' := 4) fl_X1_18 dX1_pointsAt_1 (by omega) (by first | assumption | exact va_up_self _ _ _ | exact (va_up_ne _ _ (by first | decide | omega)).trans (by assumption) | exact (va_up_ne _ _ (by first | decide | omega)).trans (va_up_self _ _ _) | exact (va_up_ne _ _ (by first | decide | omega)).trans ((va_up_ne _ _ (by first | decide | omega)).trans (by assumption)) | exact (va_up_ne _ _ (by first | decide | omega)).trans ((va_up_ne _ _ (by first | decide | omega)).trans (va_up_self _ _ _)) | exact (va_up_ne _ _ (by first | decide | omega)).trans ((va_up_ne _ _ (by first | decide | omega)).trans ((va_up_ne _ _ (by first | decide | omega)).trans (by assumption))) | exact (va_up_ne _ _ (by first | decide | omega)).trans ((va_up_ne _ _ (by first | decide | omega)).trans ((va_up_ne _ _ (by first | decide | omega)).trans ((va_up_ne _ _ (by first | decide | omega)).trans (by assumption)))) | exact rfl) (by first | assumption | rfl | exact (List.getElem?_set_ne (by decide)).trans (by assumption) | exact List.getElem?_set_self (by omega)) ?_
  refine g_iload_n (pc' := 5) dX1_pointsAt_4 rfl rfl ?_
  refine g_aload_n (pc' := 6) dX1_pointsAt_5 rfl rfl ?_
  refine g_get (pc' := 9) fl_X1_12 dX1_pointsAt_6 (by omega) (by first | assumption | exact va_up_self _ _ _ | exact (va_up_ne _ _ (by first | decide | omega)).trans (by assumption) | exact (va_up_ne _ _ (by first | decide | omega)).trans (va_up_self _ _ _) | exact (va_up_ne _ _ (by first | decide | omega)).trans ((va_up_ne _ _ (by first | decide | omega)).trans (by assumption)) | exact (va_up_ne _ _ (by first | decide | omega)).trans ((va_up_ne _ _ (by first | decide | omega)).trans (va_up_self _ _ _)) | exact (va_up_ne _ _ (by first | decide | omega)).trans ((va_up_ne _ _ (by first | decide | omega)).trans ((va_up_ne _ _ (by first | decide | omega)).trans (by assumption))) | exact (va_up_ne _ _ (by first | decide | omega)).trans ((va_up_ne _ _ (by first | decide | omega)).trans ((va_up_ne _ _ (by first | decide | omega)).trans ((va_up_ne _ _ (by first | decide | omega)).trans (by assumption)))) | exact rfl) (by first | assumption | rfl | exact (List.getElem?_set_ne (by decide)).trans (by assumption) | exact List.getElem?_set_self (by omega)) ?_
  refine gc_V 12 5 [] [.int (nI r), .ref 10] cw_X1_53 im_X2_wholeCount se_X2_wholeCount dX1_pointsAt_9 (by decide) (by decide) (Nat.le_refl _) (Nat.le_refl _) (Nat.le_of_ble_eq_true rfl) rfl (Nat.le_of_ble_eq_true rfl) (by omega) (by first | assumption | exact va_up_self _ _ _ | exact (va_up_ne _ _ (by first | decide | omega)).trans (by assumption) | exact (va_up_ne _ _ (by first | decide | omega)).trans (va_up_self _ _ _) | exact (va_up_ne _ _ (by first | decide | omega)).trans ((va_up_ne _ _ (by first | decide | omega)).trans (by assumption)) | exact (va_up_ne _ _ (by first | decide | omega)).trans ((va_up_ne _ _ (by first | decide | omega)).trans (va_up_self _ _ _)) | exact (va_up_ne _ _ (by first | decide | omega)).trans ((va_up_ne _ _ (by first | decide | omega)).trans ((va_up_ne _ _ (by first | decide | omega)).trans (by assumption))) | exact (va_up_ne _ _ (by first | decide | omega)).trans ((va_up_ne _ _ (by first | decide | omega)).trans ((va_up_ne _ _ (by first | decide | omega)).trans ((va_up_ne _ _ (by first | decide | omega)).trans (by assumption)))) | exact rfl) rfl rfl (c_wholeCount hn h2 h6 hD hT ⟨rfl, ?_⟩)
  show G yX1_pointsAt cX1_pointsAt 3 (some .int) (rmD 1) none Q 0 0 12 [.ref 4, .int (nI r), .int (nI h)] [.int (nI (wh S D)), .int (nI r), .ref 10] hp n
  first | refine g_imulN (pc' := 13) dX1_pointsAt_12 ?_ | refine g_imul (pc' := 13) dX1_pointsAt_12 ?_
  refine g_iload_n (pc' := 14) dX1_pointsAt_13 rfl rfl ?_
  first | refine g_iaddN (pc' := 15) dX1_pointsAt_14 ?_ | refine g_iadd (pc' := 15) dX1_pointsAt_14 ?_
  refine g_aload_n (pc' := 16) dX1_pointsAt_15 rfl rfl ?_
  refine g_get (pc' := 19) fl_X1_12 dX1_pointsAt_16 (by omega) (by first | assumption | exact va_up_self _ _ _ | exact (va_up_ne _ _ (by first | decide | omega)).trans (by assumption) | exact (va_up_ne _ _ (by first | decide | omega)).trans (va_up_self _ _ _) | exact (va_up_ne _ _ (by first | decide | omega)).trans ((va_up_ne _ _ (by first | decide | omega)).trans (by assumption)) | exact (va_up_ne _ _ (by first | decide | omega)).trans ((va_up_ne _ _ (by first | decide | omega)).trans (va_up_self _ _ _)) | exact (va_up_ne _ _ (by first | decide | omega)).trans ((va_up_ne _ _ (by first | decide | omega)).trans ((va_up_ne _ _ (by first | decide | omega)).trans (by assumption))) | exact (va_up_ne _ _ (by first | decide | omega)).trans ((va_up_ne _ _ (by first | decide | omega)).trans ((va_up_ne _ _ (by first | decide | omega)).trans ((va_up_ne _ _ (by first | decide | omega)).trans (by assumption)))) | exact rfl) (by first | assumption | rfl | exact (List.getElem?_set_ne (by decide)).trans (by assumption) | exact List.getElem?_set_self (by omega)) ?_
  refine g_getN (pc' := 22) fn_X1_60 dX1_pointsAt_19 (by omega) (by first | assumption | exact va_up_self _ _ _ | exact (va_up_ne _ _ (by first | decide | omega)).trans (by assumption) | exact (va_up_ne _ _ (by first | decide | omega)).trans (va_up_self _ _ _) | exact (va_up_ne _ _ (by first | decide | omega)).trans ((va_up_ne _ _ (by first | decide | omega)).trans (by assumption)) | exact (va_up_ne _ _ (by first | decide | omega)).trans ((va_up_ne _ _ (by first | decide | omega)).trans (va_up_self _ _ _)) | exact (va_up_ne _ _ (by first | decide | omega)).trans ((va_up_ne _ _ (by first | decide | omega)).trans ((va_up_ne _ _ (by first | decide | omega)).trans (by assumption))) | exact (va_up_ne _ _ (by first | decide | omega)).trans ((va_up_ne _ _ (by first | decide | omega)).trans ((va_up_ne _ _ (by first | decide | omega)).trans ((va_up_ne _ _ (by first | decide | omega)).trans (by assumption)))) | exact rfl) (by first | assumption | rfl | exact (List.getElem?_set_ne (by decide)).trans (by assumption) | exact List.getElem?_set_self (by omega)) ?_
  first | refine g_isubN (pc' := 23) dX1_pointsAt_22 (by omega) ?_ | refine g_isub (pc' := 23) dX1_pointsAt_22 ?_
  rw [show r * wh S D + h - nh S (D - 1) = r * wh S D + (h - nh S (D - 1)) by omega]
  refine g_atIN (pc' := 26) cw_X1_63 dX1_pointsAt_23 (by decide) (by decide) (Nat.le_refl _) (Nat.le_refl _) (Nat.le_of_ble_eq_true rfl) (by omega) (by first | assumption | exact va_up_self _ _ _ | exact (va_up_ne _ _ (by first | decide | omega)).trans (by assumption) | exact (va_up_ne _ _ (by first | decide | omega)).trans (va_up_self _ _ _) | exact (va_up_ne _ _ (by first | decide | omega)).trans ((va_up_ne _ _ (by first | decide | omega)).trans (by assumption)) | exact (va_up_ne _ _ (by first | decide | omega)).trans ((va_up_ne _ _ (by first | decide | omega)).trans (va_up_self _ _ _)) | exact (va_up_ne _ _ (by first | decide | omega)).trans ((va_up_ne _ _ (by first | decide | omega)).trans ((va_up_ne _ _ (by first | decide | omega)).trans (by assumption))) | exact (va_up_ne _ _ (by first | decide | omega)).trans ((va_up_ne _ _ (by first | decide | omega)).trans ((va_up_ne _ _ (by first | decide | omega)).trans ((va_up_ne _ _ (by first | decide | omega)).trans (by assumption)))) | exact rfl) (by decide) ((IX_nI (by omega) (by omega))) (ev) ?_
  exact g_iret dX1_pointsAt_26 rfl (Nat.le_refl _) (Nat.le_refl _) hq
theorem mul_le24 {T R o : Nat} (hT : T ≤ 3) (hR : R ≤ 8) (ho : o ≤ R) : T * o ≤ T * R ∧ T * R ≤ 24 := ⟨Nat.mul_le_mul_left T ho, Nat.mul_le_mul hT hR⟩
theorem c_unitBefore {hp : AH} {n D S T R s : Nat} {P : Nat → Nat → Nat} {Q : Option Value → AH → Nat → Prop} (hn : 64 ≤ n) (N : GN D S T R) (A : GA hp D S T R P) (hs : s < 2 ^ R) (hq : Q (some (.long (lN ((S ^ D) ^ (T * opn s R))))) hp n) : CT yX1_unitBefore cX1_unitBefore 2 (some .long) (rmD 2) [.ref 4, .int (nI s)] hp n Q := by
  obtain ⟨hT, c4, -, ⟨fu, c11, hu⟩, -⟩ := id A
  obtain ⟨h2, h6, hD1, hD, hT1, hT3, hR1, hR, hL⟩ := id N
  obtain ⟨m1, m2⟩ := mul_le24 hT3 hR (opn_le s R)
  show G yX1_unitBefore cX1_unitBefore 2 (some .long) (rmD 2) none Q 0 0 0 [.ref 4, .int (nI s)] [] hp n
  refine g_aload_n (pc' := 1) dX1_unitBefore_0 rfl rfl ?_
  refine g_get (pc' := 4) fl_X1_22 dX1_unitBefore_1 (by omega) (by first | assumption | exact va_up_self _ _ _ | exact (va_up_ne _ _ (by first | decide | omega)).trans (by assumption) | exact (va_up_ne _ _ (by first | decide | omega)).trans (va_up_self _ _ _) | exact (va_up_ne _ _ (by first | decide | omega)).trans ((va_up_ne _ _ (by first | decide | omega)).trans (by assumption)) | exact (va_up_ne _ _ (by first | decide | omega)).trans ((va_up_ne _ _ (by first | decide | omega)).trans (va_up_self _ _ _)) | exact (va_up_ne _ _ (by first | decide | omega)).trans ((va_up_ne _ _ (by first | decide | omega)).trans ((va_up_ne _ _ (by first | decide | omega)).trans (by assumption))) | exact (va_up_ne _ _ (by first | decide | omega)).trans ((va_up_ne _ _ (by first | decide | omega)).trans ((va_up_ne _ _ (by first | decide | omega)).trans ((va_up_ne _ _ (by first | decide | omega)).trans (by assumption)))) | exact rfl) (by first | assumption | rfl | exact (List.getElem?_set_ne (by decide)).trans (by assumption) | exact List.getElem?_set_self (by omega)) ?_
  refine g_aload_n (pc' := 5) dX1_unitBefore_4 rfl rfl ?_
  refine g_get (pc' := 8) fl_X1_29 dX1_unitBefore_5 (by omega) (by first | assumption | exact va_up_self _ _ _ | exact (va_up_ne _ _ (by first | decide | omega)).trans (by assumption) | exact (va_up_ne _ _ (by first | decide | omega)).trans (va_up_self _ _ _) | exact (va_up_ne _ _ (by first | decide | omega)).trans ((va_up_ne _ _ (by first | decide | omega)).trans (by assumption)) | exact (va_up_ne _ _ (by first | decide | omega)).trans ((va_up_ne _ _ (by first | decide | omega)).trans (va_up_self _ _ _)) | exact (va_up_ne _ _ (by first | decide | omega)).trans ((va_up_ne _ _ (by first | decide | omega)).trans ((va_up_ne _ _ (by first | decide | omega)).trans (by assumption))) | exact (va_up_ne _ _ (by first | decide | omega)).trans ((va_up_ne _ _ (by first | decide | omega)).trans ((va_up_ne _ _ (by first | decide | omega)).trans ((va_up_ne _ _ (by first | decide | omega)).trans (by assumption)))) | exact rfl) (by first | assumption | rfl | exact (List.getElem?_set_ne (by decide)).trans (by assumption) | exact List.getElem?_set_self (by omega)) ?_
  refine g_aload_n (pc' := 9) dX1_unitBefore_8 rfl rfl ?_
  refine g_iload_n (pc' := 10) dX1_unitBefore_9 rfl rfl ?_
  refine gc_V 13 4 [.int (nI s)] [.int (nI T), .ref 11] cw_X1_90 im_X1_freeRows se_X1_freeRows dX1_unitBefore_10 (by decide) (by decide) (Nat.le_refl _) (Nat.le_refl _) (Nat.le_of_ble_eq_true rfl) rfl (Nat.le_of_ble_eq_true rfl) (by omega) (by first | assumption | exact va_up_self _ _ _ | exact (va_up_ne _ _ (by first | decide | omega)).trans (by assumption) | exact (va_up_ne _ _ (by first | decide | omega)).trans (va_up_self _ _ _) | exact (va_up_ne _ _ (by first | decide | omega)).trans ((va_up_ne _ _ (by first | decide | omega)).trans (by assumption)) | exact (va_up_ne _ _ (by first | decide | omega)).trans ((va_up_ne _ _ (by first | decide | omega)).trans (va_up_self _ _ _)) | exact (va_up_ne _ _ (by first | decide | omega)).trans ((va_up_ne _ _ (by first | decide | omega)).trans ((va_up_ne _ _ (by first | decide | omega)).trans (by assumption))) | exact (va_up_ne _ _ (by first | decide | omega)).trans ((va_up_ne _ _ (by first | decide | omega)).trans ((va_up_ne _ _ (by first | decide | omega)).trans ((va_up_ne _ _ (by first | decide | omega)).trans (by assumption)))) | exact rfl) rfl rfl (c_freeRows hn hR c4 hs ⟨rfl, ?_⟩)
  show G yX1_unitBefore cX1_unitBefore 2 (some .long) (rmD 2) none Q 0 0 13 [.ref 4, .int (nI s)] [.int (nI (opn s R)), .int (nI T), .ref 11] hp n
  first | refine g_imulN (pc' := 14) dX1_unitBefore_13 ?_ | refine g_imul (pc' := 14) dX1_unitBefore_13 ?_
  refine g_atJN (pc' := 17) cw_X1_49 dX1_unitBefore_14 (by decide) (by decide) (Nat.le_refl _) (Nat.le_refl _) (Nat.le_of_ble_eq_true rfl) (by omega) (by first | assumption | exact va_up_self _ _ _ | exact (va_up_ne _ _ (by first | decide | omega)).trans (by assumption) | exact (va_up_ne _ _ (by first | decide | omega)).trans (va_up_self _ _ _) | exact (va_up_ne _ _ (by first | decide | omega)).trans ((va_up_ne _ _ (by first | decide | omega)).trans (by assumption)) | exact (va_up_ne _ _ (by first | decide | omega)).trans ((va_up_ne _ _ (by first | decide | omega)).trans (va_up_self _ _ _)) | exact (va_up_ne _ _ (by first | decide | omega)).trans ((va_up_ne _ _ (by first | decide | omega)).trans ((va_up_ne _ _ (by first | decide | omega)).trans (by assumption))) | exact (va_up_ne _ _ (by first | decide | omega)).trans ((va_up_ne _ _ (by first | decide | omega)).trans ((va_up_ne _ _ (by first | decide | omega)).trans ((va_up_ne _ _ (by first | decide | omega)).trans (by assumption)))) | exact rfl) (by decide) ((IX_nI (by omega) (by omega))) (hu _ m1) ?_
  exact g_lret dX1_unitBefore_17 rfl (Nat.le_refl _) (Nat.le_refl _) hq
theorem c_prepare {hp : AH} {n D S T R : Nat} {x4 x5 : Int32} {fu fp : Nat → Int64} {Q : Option Value → AH → Nat → Prop} (hn : 64 ≤ n) (N : GN D S T R) (X : HX hp) (c4 : hp 4 = ob 1 [.ref 5, .ref 10, .ref 11, .ref 12, .int x4, .int x5]) (c11 : hp 11 = aJ 25 fu) (c12 : hp 12 = aJ 6 fp)
    (hq : ∀ (hp' : AH) (fu fp : Nat → Int64), HT hp' D S → hp' 4 = ob 1 (goF T R) → hp' 11 = aJ 25 fu → (∀ k, k ≤ T * R → fu k = lN ((S ^ D) ^ k)) → hp' 12 = aJ 6 fp → (∀ k, k ≤ D → fp k = lN (S ^ k)) → (∀ i, i < 4 ∨ i = 10 ∨ 13 ≤ i → hp' i = hp i) → Q none hp' n) : CT yX1_prepare cX1_prepare 6 none (rmD 3) [.ref 4, .int (nI D), .int (nI S), .int (nI T), .int (nI R)] hp n Q := by
  obtain ⟨h2, h6, hD1, hD, hT1, hT3, hR1, hR, hL⟩ := id N
  obtain ⟨-, m2⟩ := mul_le24 hT3 hR (Nat.le_refl R)
  obtain ⟨fs5, c5⟩ : ∃ fs, hp 5 = ob 2 fs := by
    rcases X with ⟨ft, fz, fl, fm, x5, x6, x7, c5, -⟩ | ⟨d, s, -, -, -, -, ft, fz, fl, fm, c5, -⟩
    · exact ⟨_, c5⟩
    · exact ⟨_, c5⟩
  show G yX1_prepare cX1_prepare 6 none (rmD 3) none Q 0 0 0 [.ref 4, .int (nI D), .int (nI S), .int (nI T), .int (nI R), uu] [] hp n
  refine g_aload_n (pc' := 1) dX1_prepare_0 rfl rfl ?_
  refine g_get (pc' := 4) fl_X1_12 dX1_prepare_1 (by omega) (by first | assumption | exact va_up_self _ _ _ | exact (va_up_ne _ _ (by first | decide | omega)).trans (by assumption) | exact (va_up_ne _ _ (by first | decide | omega)).trans (va_up_self _ _ _) | exact (va_up_ne _ _ (by first | decide | omega)).trans ((va_up_ne _ _ (by first | decide | omega)).trans (by assumption)) | exact (va_up_ne _ _ (by first | decide | omega)).trans ((va_up_ne _ _ (by first | decide | omega)).trans (va_up_self _ _ _)) | exact (va_up_ne _ _ (by first | decide | omega)).trans ((va_up_ne _ _ (by first | decide | omega)).trans ((va_up_ne _ _ (by first | decide | omega)).trans (by assumption))) | exact (va_up_ne _ _ (by first | decide | omega)).trans ((va_up_ne _ _ (by first | decide | omega)).trans ((va_up_ne _ _ (by first | decide | omega)).trans ((va_up_ne _ _ (by first | decide | omega)).trans (by assumption)))) | exact rfl) (by first | assumption | rfl | exact (List.getElem?_set_ne (by decide)).trans (by assumption) | exact List.getElem?_set_self (by omega)) ?_
  refine g_iload_n (pc' := 5) dX1_prepare_4 rfl rfl ?_
  refine g_iload_n (pc' := 6) dX1_prepare_5 rfl rfl ?_
  refine gc_V 9 5 [.int (nI D), .int (nI S)] [] cw_X1_36 im_X2_build se_X2_build dX1_prepare_6 (by decide) (by decide) (Nat.le_refl _) (Nat.le_refl _) (Nat.le_of_ble_eq_true rfl) rfl (Nat.le_of_ble_eq_true rfl) (by omega) (by first | assumption | exact va_up_self _ _ _ | exact (va_up_ne _ _ (by first | decide | omega)).trans (by assumption) | exact (va_up_ne _ _ (by first | decide | omega)).trans (va_up_self _ _ _) | exact (va_up_ne _ _ (by first | decide | omega)).trans ((va_up_ne _ _ (by first | decide | omega)).trans (by assumption)) | exact (va_up_ne _ _ (by first | decide | omega)).trans ((va_up_ne _ _ (by first | decide | omega)).trans (va_up_self _ _ _)) | exact (va_up_ne _ _ (by first | decide | omega)).trans ((va_up_ne _ _ (by first | decide | omega)).trans ((va_up_ne _ _ (by first | decide | omega)).trans (by assumption))) | exact (va_up_ne _ _ (by first | decide | omega)).trans ((va_up_ne _ _ (by first | decide | omega)).trans ((va_up_ne _ _ (by first | decide | omega)).trans ((va_up_ne _ _ (by first | decide | omega)).trans (by assumption)))) | exact rfl) rfl rfl (c_build hn h2 h6 hD1 hD X (fun hp1 H1 E1 => ⟨rfl, ?_⟩))
  have c4' := (E1 4 (by omega)).trans c4
  have c11' := (E1 11 (by omega)).trans c11
  have c12' := (E1 12 (by omega)).trans c12
  show G yX1_prepare cX1_prepare 6 none (rmD 3) none Q 0 0 9 [.ref 4, .int (nI D), .int (nI S), .int (nI T), .int (nI R), uu] [] hp1 n
  refine g_aload_n (pc' := 10) dX1_prepare_9 rfl rfl ?_
  refine g_iconst (pc' := 11) (v := nI 1) dX1_prepare_10 (by decide) ?_
  refine g_iload_n (pc' := 12) dX1_prepare_11 rfl rfl ?_
  refine g_iconst (pc' := 13) (v := nI 3) dX1_prepare_12 (by decide) ?_
  refine g_mminN (pc' := 16) mm_X1_40 dX1_prepare_13 (by decide) (Nat.le_of_ble_eq_true rfl) (Nat.le_refl _) (Nat.le_refl _) (by omega) (by omega) ?_
  refine g_mmaxN (pc' := 19) mm_X1_46 dX1_prepare_16 (by decide) (Nat.le_of_ble_eq_true rfl) (Nat.le_refl _) (Nat.le_refl _) (by omega) (by omega) ?_
  rw [show max 1 (min T 3) = T by omega]
  refine g_put (pc' := 22) fl_X1_29 ft_1_4 dX1_prepare_19 (by omega) (by first | assumption | exact va_up_self _ _ _ | exact (va_up_ne _ _ (by first | decide | omega)).trans (by assumption) | exact (va_up_ne _ _ (by first | decide | omega)).trans (va_up_self _ _ _) | exact (va_up_ne _ _ (by first | decide | omega)).trans ((va_up_ne _ _ (by first | decide | omega)).trans (by assumption)) | exact (va_up_ne _ _ (by first | decide | omega)).trans ((va_up_ne _ _ (by first | decide | omega)).trans (va_up_self _ _ _)) | exact (va_up_ne _ _ (by first | decide | omega)).trans ((va_up_ne _ _ (by first | decide | omega)).trans ((va_up_ne _ _ (by first | decide | omega)).trans (by assumption))) | exact (va_up_ne _ _ (by first | decide | omega)).trans ((va_up_ne _ _ (by first | decide | omega)).trans ((va_up_ne _ _ (by first | decide | omega)).trans ((va_up_ne _ _ (by first | decide | omega)).trans (by assumption)))) | exact rfl) (by first | exact Nat.le_of_ble_eq_true rfl | omega | (simp only [List.length_set]; omega)) rfl rfl ?_
  refine g_aload_n (pc' := 23) dX1_prepare_22 rfl rfl ?_
  refine g_iload (pc' := 25) dX1_prepare_23 rfl ?_
  refine g_bipush (pc' := 27) (v := nI 8) dX1_prepare_25 (by decide) ?_
  refine g_mminN (pc' := 30) mm_X1_40 dX1_prepare_27 (by decide) (Nat.le_of_ble_eq_true rfl) (Nat.le_refl _) (Nat.le_refl _) (by omega) (by omega) ?_
  rw [show min R 8 = R by omega]
  refine g_put (pc' := 33) fl_X1_33 ft_1_5 dX1_prepare_30 (by omega) (by first | assumption | exact va_up_self _ _ _ | exact (va_up_ne _ _ (by first | decide | omega)).trans (by assumption) | exact (va_up_ne _ _ (by first | decide | omega)).trans (va_up_self _ _ _) | exact (va_up_ne _ _ (by first | decide | omega)).trans ((va_up_ne _ _ (by first | decide | omega)).trans (by assumption)) | exact (va_up_ne _ _ (by first | decide | omega)).trans ((va_up_ne _ _ (by first | decide | omega)).trans (va_up_self _ _ _)) | exact (va_up_ne _ _ (by first | decide | omega)).trans ((va_up_ne _ _ (by first | decide | omega)).trans ((va_up_ne _ _ (by first | decide | omega)).trans (by assumption))) | exact (va_up_ne _ _ (by first | decide | omega)).trans ((va_up_ne _ _ (by first | decide | omega)).trans ((va_up_ne _ _ (by first | decide | omega)).trans ((va_up_ne _ _ (by first | decide | omega)).trans (by assumption)))) | exact rfl) (by first | exact Nat.le_of_ble_eq_true rfl | omega | (simp only [List.length_set]; omega)) rfl rfl ?_
  rw [up_up]
  show G yX1_prepare cX1_prepare 6 none (rmD 3) none Q 0 0 33 [.ref 4, .int (nI D), .int (nI S), .int (nI T), .int (nI R), uu] [] (va_up hp1 4 (ob 1 (goF T R))) n
  refine g_aload_n (pc' := 34) dX1_prepare_33 rfl rfl ?_
  refine g_get (pc' := 37) fl_X1_26 dX1_prepare_34 (by omega) (by first | assumption | exact va_up_self _ _ _ | exact (va_up_ne _ _ (by first | decide | omega)).trans (by assumption) | exact (va_up_ne _ _ (by first | decide | omega)).trans (va_up_self _ _ _) | exact (va_up_ne _ _ (by first | decide | omega)).trans ((va_up_ne _ _ (by first | decide | omega)).trans (by assumption)) | exact (va_up_ne _ _ (by first | decide | omega)).trans ((va_up_ne _ _ (by first | decide | omega)).trans (va_up_self _ _ _)) | exact (va_up_ne _ _ (by first | decide | omega)).trans ((va_up_ne _ _ (by first | decide | omega)).trans ((va_up_ne _ _ (by first | decide | omega)).trans (by assumption))) | exact (va_up_ne _ _ (by first | decide | omega)).trans ((va_up_ne _ _ (by first | decide | omega)).trans ((va_up_ne _ _ (by first | decide | omega)).trans ((va_up_ne _ _ (by first | decide | omega)).trans (by assumption)))) | exact rfl) (by first | assumption | rfl | exact (List.getElem?_set_ne (by decide)).trans (by assumption) | exact List.getElem?_set_self (by omega)) ?_
  refine g_iconst (pc' := 38) (v := nI 0) dX1_prepare_37 (by decide) ?_
  refine g_lconst (pc' := 39) (v := lN 1) dX1_prepare_38 (by decide) ?_
  refine g_last (pc' := 40) dX1_prepare_39 (by omega) (by first | assumption | exact va_up_self _ _ _ | exact (va_up_ne _ _ (by first | decide | omega)).trans (by assumption) | exact (va_up_ne _ _ (by first | decide | omega)).trans (va_up_self _ _ _) | exact (va_up_ne _ _ (by first | decide | omega)).trans ((va_up_ne _ _ (by first | decide | omega)).trans (by assumption)) | exact (va_up_ne _ _ (by first | decide | omega)).trans ((va_up_ne _ _ (by first | decide | omega)).trans (va_up_self _ _ _)) | exact (va_up_ne _ _ (by first | decide | omega)).trans ((va_up_ne _ _ (by first | decide | omega)).trans ((va_up_ne _ _ (by first | decide | omega)).trans (by assumption))) | exact (va_up_ne _ _ (by first | decide | omega)).trans ((va_up_ne _ _ (by first | decide | omega)).trans ((va_up_ne _ _ (by first | decide | omega)).trans ((va_up_ne _ _ (by first | decide | omega)).trans (by assumption)))) | exact rfl) ((IX_nI (by omega) (by omega))) ?_
  refine g_iconst (pc' := 41) (v := nI 1) dX1_prepare_40 (by decide) ?_
  refine g_istore (pc' := 43) dX1_prepare_41 (by decide) ?_
  have loop2 : ∀ (k i : Nat) (fu fp : Nat → Int64), i + k = T * R + 1 → 1 ≤ i → (∀ j, j < i → fu j = lN ((S ^ D) ^ j)) → (∀ j, j ≤ D → fp j = lN (S ^ j)) → G yX1_prepare cX1_prepare 6 none (rmD 3) none Q 0 0 90 [.ref 4, .int (nI D), .int (nI S), .int (nI T), .int (nI R), .int (nI i)] [] (va_up (va_up (va_up hp1 4 (ob 1 (goF T R))) 12 (aJ 6 fp)) 11 (aJ 25 fu)) n := by
    intro k
    induction k with
    | zero =>
      intro i fu fp hi h1 hu hf
      refine g_iload (pc' := 92) dX1_prepare_90 rfl ?_
      refine g_aload_n (pc' := 93) dX1_prepare_92 rfl rfl ?_
      refine g_get (pc' := 96) fl_X1_29 dX1_prepare_93 (by omega) (by first | assumption | exact va_up_self _ _ _ | exact (va_up_ne _ _ (by first | decide | omega)).trans (by assumption) | exact (va_up_ne _ _ (by first | decide | omega)).trans (va_up_self _ _ _) | exact (va_up_ne _ _ (by first | decide | omega)).trans ((va_up_ne _ _ (by first | decide | omega)).trans (by assumption)) | exact (va_up_ne _ _ (by first | decide | omega)).trans ((va_up_ne _ _ (by first | decide | omega)).trans (va_up_self _ _ _)) | exact (va_up_ne _ _ (by first | decide | omega)).trans ((va_up_ne _ _ (by first | decide | omega)).trans ((va_up_ne _ _ (by first | decide | omega)).trans (by assumption))) | exact (va_up_ne _ _ (by first | decide | omega)).trans ((va_up_ne _ _ (by first | decide | omega)).trans ((va_up_ne _ _ (by first | decide | omega)).trans ((va_up_ne _ _ (by first | decide | omega)).trans (by assumption)))) | exact rfl) (by first | assumption | rfl | exact (List.getElem?_set_ne (by decide)).trans (by assumption) | exact List.getElem?_set_self (by omega)) ?_
      refine g_aload_n (pc' := 97) dX1_prepare_96 rfl rfl ?_
      refine g_get (pc' := 100) fl_X1_33 dX1_prepare_97 (by omega) (by first | assumption | exact va_up_self _ _ _ | exact (va_up_ne _ _ (by first | decide | omega)).trans (by assumption) | exact (va_up_ne _ _ (by first | decide | omega)).trans (va_up_self _ _ _) | exact (va_up_ne _ _ (by first | decide | omega)).trans ((va_up_ne _ _ (by first | decide | omega)).trans (by assumption)) | exact (va_up_ne _ _ (by first | decide | omega)).trans ((va_up_ne _ _ (by first | decide | omega)).trans (va_up_self _ _ _)) | exact (va_up_ne _ _ (by first | decide | omega)).trans ((va_up_ne _ _ (by first | decide | omega)).trans ((va_up_ne _ _ (by first | decide | omega)).trans (by assumption))) | exact (va_up_ne _ _ (by first | decide | omega)).trans ((va_up_ne _ _ (by first | decide | omega)).trans ((va_up_ne _ _ (by first | decide | omega)).trans ((va_up_ne _ _ (by first | decide | omega)).trans (by assumption)))) | exact rfl) (by first | assumption | rfl | exact (List.getElem?_set_ne (by decide)).trans (by assumption) | exact List.getElem?_set_self (by omega)) ?_
      first | refine g_imulN (pc' := 101) dX1_prepare_100 ?_ | refine g_imul (pc' := 101) dX1_prepare_100 ?_
      refine g_icmp_gtN (tgt := 135) (pc' := 104) dX1_prepare_101 (by decide) (by first | omega | decide) (by first | omega | decide) (fun z1 => ?_) (fun z1 => ?_)
      · refine g_vret dX1_prepare_135 rfl (Nat.le_refl _) (Nat.le_refl _) (hq _ fu fp (HT_of (fun j q1 q2 => ?_) H1) ?_ (va_up_self _ _ _) (fun j hj => hu j (by omega)) ?_ hf (fun j hj => ?_))
        · rw [va_up_ne _ _ (by omega), va_up_ne _ _ (by omega), va_up_ne _ _ (by omega)]
        · rfl
        · rfl
        · rw [va_up_ne _ _ (by omega), va_up_ne _ _ (by omega)]
          by_cases e : j = 4
          · omega
          · rw [va_up_ne _ _ e]
            exact E1 j (by omega)
      · omega
    | succ k ih =>
      intro i fu fp hi h1 hu hf
      refine g_iload (pc' := 92) dX1_prepare_90 rfl ?_
      refine g_aload_n (pc' := 93) dX1_prepare_92 rfl rfl ?_
      refine g_get (pc' := 96) fl_X1_29 dX1_prepare_93 (by omega) (by first | assumption | exact va_up_self _ _ _ | exact (va_up_ne _ _ (by first | decide | omega)).trans (by assumption) | exact (va_up_ne _ _ (by first | decide | omega)).trans (va_up_self _ _ _) | exact (va_up_ne _ _ (by first | decide | omega)).trans ((va_up_ne _ _ (by first | decide | omega)).trans (by assumption)) | exact (va_up_ne _ _ (by first | decide | omega)).trans ((va_up_ne _ _ (by first | decide | omega)).trans (va_up_self _ _ _)) | exact (va_up_ne _ _ (by first | decide | omega)).trans ((va_up_ne _ _ (by first | decide | omega)).trans ((va_up_ne _ _ (by first | decide | omega)).trans (by assumption))) | exact (va_up_ne _ _ (by first | decide | omega)).trans ((va_up_ne _ _ (by first | decide | omega)).trans ((va_up_ne _ _ (by first | decide | omega)).trans ((va_up_ne _ _ (by first | decide | omega)).trans (by assumption)))) | exact rfl) (by first | assumption | rfl | exact (List.getElem?_set_ne (by decide)).trans (by assumption) | exact List.getElem?_set_self (by omega)) ?_
      refine g_aload_n (pc' := 97) dX1_prepare_96 rfl rfl ?_
      refine g_get (pc' := 100) fl_X1_33 dX1_prepare_97 (by omega) (by first | assumption | exact va_up_self _ _ _ | exact (va_up_ne _ _ (by first | decide | omega)).trans (by assumption) | exact (va_up_ne _ _ (by first | decide | omega)).trans (va_up_self _ _ _) | exact (va_up_ne _ _ (by first | decide | omega)).trans ((va_up_ne _ _ (by first | decide | omega)).trans (by assumption)) | exact (va_up_ne _ _ (by first | decide | omega)).trans ((va_up_ne _ _ (by first | decide | omega)).trans (va_up_self _ _ _)) | exact (va_up_ne _ _ (by first | decide | omega)).trans ((va_up_ne _ _ (by first | decide | omega)).trans ((va_up_ne _ _ (by first | decide | omega)).trans (by assumption))) | exact (va_up_ne _ _ (by first | decide | omega)).trans ((va_up_ne _ _ (by first | decide | omega)).trans ((va_up_ne _ _ (by first | decide | omega)).trans ((va_up_ne _ _ (by first | decide | omega)).trans (by assumption)))) | exact rfl) (by first | assumption | rfl | exact (List.getElem?_set_ne (by decide)).trans (by assumption) | exact List.getElem?_set_self (by omega)) ?_
      first | refine g_imulN (pc' := 101) dX1_prepare_100 ?_ | refine g_imul (pc' := 101) dX1_prepare_100 ?_
      refine g_icmp_gtN (tgt := 135) (pc' := 104) dX1_prepare_101 (by decide) (by first | omega | decide) (by first | omega | decide) (fun z1 => ?_) (fun z1 => ?_)
      · omega
      · refine g_aload_n (pc' := 105) dX1_prepare_104 rfl rfl ?_
        refine g_get (pc' := 108) fl_X1_22 dX1_prepare_105 (by omega) (by first | assumption | exact va_up_self _ _ _ | exact (va_up_ne _ _ (by first | decide | omega)).trans (by assumption) | exact (va_up_ne _ _ (by first | decide | omega)).trans (va_up_self _ _ _) | exact (va_up_ne _ _ (by first | decide | omega)).trans ((va_up_ne _ _ (by first | decide | omega)).trans (by assumption)) | exact (va_up_ne _ _ (by first | decide | omega)).trans ((va_up_ne _ _ (by first | decide | omega)).trans (va_up_self _ _ _)) | exact (va_up_ne _ _ (by first | decide | omega)).trans ((va_up_ne _ _ (by first | decide | omega)).trans ((va_up_ne _ _ (by first | decide | omega)).trans (by assumption))) | exact (va_up_ne _ _ (by first | decide | omega)).trans ((va_up_ne _ _ (by first | decide | omega)).trans ((va_up_ne _ _ (by first | decide | omega)).trans ((va_up_ne _ _ (by first | decide | omega)).trans (by assumption)))) | exact rfl) (by first | assumption | rfl | exact (List.getElem?_set_ne (by decide)).trans (by assumption) | exact List.getElem?_set_self (by omega)) ?_
        refine g_iload (pc' := 110) dX1_prepare_108 rfl ?_
        refine g_aload_n (pc' := 111) dX1_prepare_110 rfl rfl ?_
        refine g_get (pc' := 114) fl_X1_22 dX1_prepare_111 (by omega) (by first | assumption | exact va_up_self _ _ _ | exact (va_up_ne _ _ (by first | decide | omega)).trans (by assumption) | exact (va_up_ne _ _ (by first | decide | omega)).trans (va_up_self _ _ _) | exact (va_up_ne _ _ (by first | decide | omega)).trans ((va_up_ne _ _ (by first | decide | omega)).trans (by assumption)) | exact (va_up_ne _ _ (by first | decide | omega)).trans ((va_up_ne _ _ (by first | decide | omega)).trans (va_up_self _ _ _)) | exact (va_up_ne _ _ (by first | decide | omega)).trans ((va_up_ne _ _ (by first | decide | omega)).trans ((va_up_ne _ _ (by first | decide | omega)).trans (by assumption))) | exact (va_up_ne _ _ (by first | decide | omega)).trans ((va_up_ne _ _ (by first | decide | omega)).trans ((va_up_ne _ _ (by first | decide | omega)).trans ((va_up_ne _ _ (by first | decide | omega)).trans (by assumption)))) | exact rfl) (by first | assumption | rfl | exact (List.getElem?_set_ne (by decide)).trans (by assumption) | exact List.getElem?_set_self (by omega)) ?_
        refine g_iload (pc' := 116) dX1_prepare_114 rfl ?_
        refine g_iconst (pc' := 117) (v := nI 1) dX1_prepare_116 (by decide) ?_
        first | refine g_isubN (pc' := 118) dX1_prepare_117 (by omega) ?_ | refine g_isub (pc' := 118) dX1_prepare_117 ?_
        refine g_laldV (pc' := 119) dX1_prepare_118 (by omega) (by first | assumption | exact va_up_self _ _ _ | exact (va_up_ne _ _ (by first | decide | omega)).trans (by assumption) | exact (va_up_ne _ _ (by first | decide | omega)).trans (va_up_self _ _ _) | exact (va_up_ne _ _ (by first | decide | omega)).trans ((va_up_ne _ _ (by first | decide | omega)).trans (by assumption)) | exact (va_up_ne _ _ (by first | decide | omega)).trans ((va_up_ne _ _ (by first | decide | omega)).trans (va_up_self _ _ _)) | exact (va_up_ne _ _ (by first | decide | omega)).trans ((va_up_ne _ _ (by first | decide | omega)).trans ((va_up_ne _ _ (by first | decide | omega)).trans (by assumption))) | exact (va_up_ne _ _ (by first | decide | omega)).trans ((va_up_ne _ _ (by first | decide | omega)).trans ((va_up_ne _ _ (by first | decide | omega)).trans ((va_up_ne _ _ (by first | decide | omega)).trans (by assumption)))) | exact rfl) ((IX_nI (by omega) (by omega))) (hu _ (by omega)) ?_
        refine g_aload_n (pc' := 120) dX1_prepare_119 rfl rfl ?_
        refine g_get (pc' := 123) fl_X1_26 dX1_prepare_120 (by omega) (by first | assumption | exact va_up_self _ _ _ | exact (va_up_ne _ _ (by first | decide | omega)).trans (by assumption) | exact (va_up_ne _ _ (by first | decide | omega)).trans (va_up_self _ _ _) | exact (va_up_ne _ _ (by first | decide | omega)).trans ((va_up_ne _ _ (by first | decide | omega)).trans (by assumption)) | exact (va_up_ne _ _ (by first | decide | omega)).trans ((va_up_ne _ _ (by first | decide | omega)).trans (va_up_self _ _ _)) | exact (va_up_ne _ _ (by first | decide | omega)).trans ((va_up_ne _ _ (by first | decide | omega)).trans ((va_up_ne _ _ (by first | decide | omega)).trans (by assumption))) | exact (va_up_ne _ _ (by first | decide | omega)).trans ((va_up_ne _ _ (by first | decide | omega)).trans ((va_up_ne _ _ (by first | decide | omega)).trans ((va_up_ne _ _ (by first | decide | omega)).trans (by assumption)))) | exact rfl) (by first | assumption | rfl | exact (List.getElem?_set_ne (by decide)).trans (by assumption) | exact List.getElem?_set_self (by omega)) ?_
        refine g_iload_n (pc' := 124) dX1_prepare_123 rfl rfl ?_
        refine g_atJN (pc' := 127) cw_X1_49 dX1_prepare_124 (by decide) (by decide) (Nat.le_refl _) (Nat.le_refl _) (Nat.le_of_ble_eq_true rfl) (by omega) (by first | assumption | exact va_up_self _ _ _ | exact (va_up_ne _ _ (by first | decide | omega)).trans (by assumption) | exact (va_up_ne _ _ (by first | decide | omega)).trans (va_up_self _ _ _) | exact (va_up_ne _ _ (by first | decide | omega)).trans ((va_up_ne _ _ (by first | decide | omega)).trans (by assumption)) | exact (va_up_ne _ _ (by first | decide | omega)).trans ((va_up_ne _ _ (by first | decide | omega)).trans (va_up_self _ _ _)) | exact (va_up_ne _ _ (by first | decide | omega)).trans ((va_up_ne _ _ (by first | decide | omega)).trans ((va_up_ne _ _ (by first | decide | omega)).trans (by assumption))) | exact (va_up_ne _ _ (by first | decide | omega)).trans ((va_up_ne _ _ (by first | decide | omega)).trans ((va_up_ne _ _ (by first | decide | omega)).trans ((va_up_ne _ _ (by first | decide | omega)).trans (by assumption)))) | exact rfl) (by decide) ((IX_nI (by omega) (by omega))) (hf _ (Nat.le_refl _)) ?_
        first | refine g_lmulN (pc' := 128) dX1_prepare_127 ?_ | refine g_lmul (pc' := 128) dX1_prepare_127 ?_
        refine g_last (pc' := 129) dX1_prepare_128 (by omega) (by first | assumption | exact va_up_self _ _ _ | exact (va_up_ne _ _ (by first | decide | omega)).trans (by assumption) | exact (va_up_ne _ _ (by first | decide | omega)).trans (va_up_self _ _ _) | exact (va_up_ne _ _ (by first | decide | omega)).trans ((va_up_ne _ _ (by first | decide | omega)).trans (by assumption)) | exact (va_up_ne _ _ (by first | decide | omega)).trans ((va_up_ne _ _ (by first | decide | omega)).trans (va_up_self _ _ _)) | exact (va_up_ne _ _ (by first | decide | omega)).trans ((va_up_ne _ _ (by first | decide | omega)).trans ((va_up_ne _ _ (by first | decide | omega)).trans (by assumption))) | exact (va_up_ne _ _ (by first | decide | omega)).trans ((va_up_ne _ _ (by first | decide | omega)).trans ((va_up_ne _ _ (by first | decide | omega)).trans ((va_up_ne _ _ (by first | decide | omega)).trans (by assumption)))) | exact rfl) ((IX_nI (by omega) (by omega))) ?_
        rw [up_up, ← Nat.pow_succ, show (i - 1).succ = i by omega]
        first | refine g_iincN (z := 1) (pc' := 132) dX1_prepare_129 rfl rfl (by decide) ?_ | refine g_iinc (pc' := 132) dX1_prepare_129 rfl rfl (by decide) ?_
        refine g_goto (tgt := 90) dX1_prepare_132 (by decide) ?_
        refine ih (i + 1) _ fp (by omega) (by omega) (fun j hj => ?_) hf
        by_cases e : j = i
        · rw [e, pk_uLs]
        · rw [pk_uLn e]; exact hu j (by omega)
  have loop1 : ∀ (k i : Nat) (fp : Nat → Int64), i + k = D + 1 → 1 ≤ i → (∀ j, j < i → fp j = lN (S ^ j)) → G yX1_prepare cX1_prepare 6 none (rmD 3) none Q 0 0 43 [.ref 4, .int (nI D), .int (nI S), .int (nI T), .int (nI R), .int (nI i)] [] (va_up (va_up hp1 4 (ob 1 (goF T R))) 12 (aJ 6 fp)) n := by
    intro k
    induction k with
    | zero =>
      intro i fp hi h1 hf
      refine g_iload (pc' := 45) dX1_prepare_43 rfl ?_
      refine g_iload_n (pc' := 46) dX1_prepare_45 rfl rfl ?_
      refine g_icmp_gtN (tgt := 80) (pc' := 49) dX1_prepare_46 (by decide) (by first | omega | decide) (by first | omega | decide) (fun z1 => ?_) (fun z1 => ?_)
      · refine g_aload_n (pc' := 81) dX1_prepare_80 rfl rfl ?_
        refine g_get (pc' := 84) fl_X1_22 dX1_prepare_81 (by omega) (by first | assumption | exact va_up_self _ _ _ | exact (va_up_ne _ _ (by first | decide | omega)).trans (by assumption) | exact (va_up_ne _ _ (by first | decide | omega)).trans (va_up_self _ _ _) | exact (va_up_ne _ _ (by first | decide | omega)).trans ((va_up_ne _ _ (by first | decide | omega)).trans (by assumption)) | exact (va_up_ne _ _ (by first | decide | omega)).trans ((va_up_ne _ _ (by first | decide | omega)).trans (va_up_self _ _ _)) | exact (va_up_ne _ _ (by first | decide | omega)).trans ((va_up_ne _ _ (by first | decide | omega)).trans ((va_up_ne _ _ (by first | decide | omega)).trans (by assumption))) | exact (va_up_ne _ _ (by first | decide | omega)).trans ((va_up_ne _ _ (by first | decide | omega)).trans ((va_up_ne _ _ (by first | decide | omega)).trans ((va_up_ne _ _ (by first | decide | omega)).trans (by assumption)))) | exact rfl) (by first | assumption | rfl | exact (List.getElem?_set_ne (by decide)).trans (by assumption) | exact List.getElem?_set_self (by omega)) ?_
        refine g_iconst (pc' := 85) (v := nI 0) dX1_prepare_84 (by decide) ?_
        refine g_lconst (pc' := 86) (v := lN 1) dX1_prepare_85 (by decide) ?_
        refine g_last (pc' := 87) dX1_prepare_86 (by omega) (by first | assumption | exact va_up_self _ _ _ | exact (va_up_ne _ _ (by first | decide | omega)).trans (by assumption) | exact (va_up_ne _ _ (by first | decide | omega)).trans (va_up_self _ _ _) | exact (va_up_ne _ _ (by first | decide | omega)).trans ((va_up_ne _ _ (by first | decide | omega)).trans (by assumption)) | exact (va_up_ne _ _ (by first | decide | omega)).trans ((va_up_ne _ _ (by first | decide | omega)).trans (va_up_self _ _ _)) | exact (va_up_ne _ _ (by first | decide | omega)).trans ((va_up_ne _ _ (by first | decide | omega)).trans ((va_up_ne _ _ (by first | decide | omega)).trans (by assumption))) | exact (va_up_ne _ _ (by first | decide | omega)).trans ((va_up_ne _ _ (by first | decide | omega)).trans ((va_up_ne _ _ (by first | decide | omega)).trans ((va_up_ne _ _ (by first | decide | omega)).trans (by assumption)))) | exact rfl) ((IX_nI (by omega) (by omega))) ?_
        refine g_iconst (pc' := 88) (v := nI 1) dX1_prepare_87 (by decide) ?_
        refine g_istore (pc' := 90) dX1_prepare_88 (by decide) ?_
        refine loop2 (T * R) 1 _ fp (by omega) (by omega) (fun j hj => ?_) (fun j hj => hf j (by omega))
        rw [show j = 0 by omega, pk_uLs]
        rfl
      · omega
    | succ k ih =>
      intro i fp hi h1 hf
      refine g_iload (pc' := 45) dX1_prepare_43 rfl ?_
      refine g_iload_n (pc' := 46) dX1_prepare_45 rfl rfl ?_
      refine g_icmp_gtN (tgt := 80) (pc' := 49) dX1_prepare_46 (by decide) (by first | omega | decide) (by first | omega | decide) (fun z1 => ?_) (fun z1 => ?_)
      · omega
      refine g_iload (pc' := 51) dX1_prepare_49 rfl ?_
      refine g_iconst (pc' := 52) (v := nI 5) dX1_prepare_51 (by decide) ?_
      refine g_icmp_gtN (tgt := 80) (pc' := 55) dX1_prepare_52 (by decide) (by first | omega | decide) (by first | omega | decide) (fun z2 => ?_) (fun z2 => ?_)
      · omega
      · refine g_aload_n (pc' := 56) dX1_prepare_55 rfl rfl ?_
        refine g_get (pc' := 59) fl_X1_26 dX1_prepare_56 (by omega) (by first | assumption | exact va_up_self _ _ _ | exact (va_up_ne _ _ (by first | decide | omega)).trans (by assumption) | exact (va_up_ne _ _ (by first | decide | omega)).trans (va_up_self _ _ _) | exact (va_up_ne _ _ (by first | decide | omega)).trans ((va_up_ne _ _ (by first | decide | omega)).trans (by assumption)) | exact (va_up_ne _ _ (by first | decide | omega)).trans ((va_up_ne _ _ (by first | decide | omega)).trans (va_up_self _ _ _)) | exact (va_up_ne _ _ (by first | decide | omega)).trans ((va_up_ne _ _ (by first | decide | omega)).trans ((va_up_ne _ _ (by first | decide | omega)).trans (by assumption))) | exact (va_up_ne _ _ (by first | decide | omega)).trans ((va_up_ne _ _ (by first | decide | omega)).trans ((va_up_ne _ _ (by first | decide | omega)).trans ((va_up_ne _ _ (by first | decide | omega)).trans (by assumption)))) | exact rfl) (by first | assumption | rfl | exact (List.getElem?_set_ne (by decide)).trans (by assumption) | exact List.getElem?_set_self (by omega)) ?_
        refine g_iload (pc' := 61) dX1_prepare_59 rfl ?_
        refine g_aload_n (pc' := 62) dX1_prepare_61 rfl rfl ?_
        refine g_get (pc' := 65) fl_X1_26 dX1_prepare_62 (by omega) (by first | assumption | exact va_up_self _ _ _ | exact (va_up_ne _ _ (by first | decide | omega)).trans (by assumption) | exact (va_up_ne _ _ (by first | decide | omega)).trans (va_up_self _ _ _) | exact (va_up_ne _ _ (by first | decide | omega)).trans ((va_up_ne _ _ (by first | decide | omega)).trans (by assumption)) | exact (va_up_ne _ _ (by first | decide | omega)).trans ((va_up_ne _ _ (by first | decide | omega)).trans (va_up_self _ _ _)) | exact (va_up_ne _ _ (by first | decide | omega)).trans ((va_up_ne _ _ (by first | decide | omega)).trans ((va_up_ne _ _ (by first | decide | omega)).trans (by assumption))) | exact (va_up_ne _ _ (by first | decide | omega)).trans ((va_up_ne _ _ (by first | decide | omega)).trans ((va_up_ne _ _ (by first | decide | omega)).trans ((va_up_ne _ _ (by first | decide | omega)).trans (by assumption)))) | exact rfl) (by first | assumption | rfl | exact (List.getElem?_set_ne (by decide)).trans (by assumption) | exact List.getElem?_set_self (by omega)) ?_
        refine g_iload (pc' := 67) dX1_prepare_65 rfl ?_
        refine g_iconst (pc' := 68) (v := nI 1) dX1_prepare_67 (by decide) ?_
        first | refine g_isubN (pc' := 69) dX1_prepare_68 (by omega) ?_ | refine g_isub (pc' := 69) dX1_prepare_68 ?_
        refine g_laldV (pc' := 70) dX1_prepare_69 (by omega) (by first | assumption | exact va_up_self _ _ _ | exact (va_up_ne _ _ (by first | decide | omega)).trans (by assumption) | exact (va_up_ne _ _ (by first | decide | omega)).trans (va_up_self _ _ _) | exact (va_up_ne _ _ (by first | decide | omega)).trans ((va_up_ne _ _ (by first | decide | omega)).trans (by assumption)) | exact (va_up_ne _ _ (by first | decide | omega)).trans ((va_up_ne _ _ (by first | decide | omega)).trans (va_up_self _ _ _)) | exact (va_up_ne _ _ (by first | decide | omega)).trans ((va_up_ne _ _ (by first | decide | omega)).trans ((va_up_ne _ _ (by first | decide | omega)).trans (by assumption))) | exact (va_up_ne _ _ (by first | decide | omega)).trans ((va_up_ne _ _ (by first | decide | omega)).trans ((va_up_ne _ _ (by first | decide | omega)).trans ((va_up_ne _ _ (by first | decide | omega)).trans (by assumption)))) | exact rfl) ((IX_nI (by omega) (by omega))) (hf _ (by omega)) ?_
        refine g_iload_n (pc' := 71) dX1_prepare_70 rfl rfl ?_
        first | refine g_i2lN (pc' := 72) dX1_prepare_71 (by omega) ?_ | refine g_i2l (pc' := 72) dX1_prepare_71 ?_
        first | refine g_lmulN (pc' := 73) dX1_prepare_72 ?_ | refine g_lmul (pc' := 73) dX1_prepare_72 ?_
        refine g_last (pc' := 74) dX1_prepare_73 (by omega) (by first | assumption | exact va_up_self _ _ _ | exact (va_up_ne _ _ (by first | decide | omega)).trans (by assumption) | exact (va_up_ne _ _ (by first | decide | omega)).trans (va_up_self _ _ _) | exact (va_up_ne _ _ (by first | decide | omega)).trans ((va_up_ne _ _ (by first | decide | omega)).trans (by assumption)) | exact (va_up_ne _ _ (by first | decide | omega)).trans ((va_up_ne _ _ (by first | decide | omega)).trans (va_up_self _ _ _)) | exact (va_up_ne _ _ (by first | decide | omega)).trans ((va_up_ne _ _ (by first | decide | omega)).trans ((va_up_ne _ _ (by first | decide | omega)).trans (by assumption))) | exact (va_up_ne _ _ (by first | decide | omega)).trans ((va_up_ne _ _ (by first | decide | omega)).trans ((va_up_ne _ _ (by first | decide | omega)).trans ((va_up_ne _ _ (by first | decide | omega)).trans (by assumption)))) | exact rfl) ((IX_nI (by omega) (by omega))) ?_
        rw [up_up, ← Nat.pow_succ, show (i - 1).succ = i by omega]
        first | refine g_iincN (z := 1) (pc' := 77) dX1_prepare_74 rfl rfl (by decide) ?_ | refine g_iinc (pc' := 77) dX1_prepare_74 rfl rfl (by decide) ?_
        refine g_goto (tgt := 43) dX1_prepare_77 (by decide) ?_
        refine ih (i + 1) _ (by omega) (by omega) (fun j hj => ?_)
        by_cases e : j = i
        · rw [e, pk_uLs]
        · rw [pk_uLn e]; exact hf j (by omega)
  refine loop1 D 1 _ (by omega) (by omega) (fun j hj => ?_)
  rw [show j = 0 by omega, pk_uLs]
  rfl
