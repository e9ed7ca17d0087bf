/-! THE CLASS: Chances, the chance of a sheet -/
theorem nI_toI {p : Nat} (h : p < 2 ^ 31) : (nI p).toInt = (p : Int) := by
  have h1 := nI_clamp h
  have h2 : ¬ nI p < 0 := nI_pos h
  have h3 : 0 ≤ (nI p).toInt := by
    have := Int32.not_lt.mp h2
    have := Int32.le_iff_toInt_le.mp this
    exact this
  have h4 : (nI p).toInt.toNat = p := h1
  omega
theorem sub_ok {x : Int32} {p : Nat} (hp : p ≤ 210) (h : -2147483648 + (p : Int) ≤ x.toInt) : (x - nI p).toInt = x.toInt - p := by
  have h1 := Int32.toInt_lt x
  have h2 := Int32.le_toInt x
  rw [Int32.toInt_sub, nI_toI (by omega)]
  apply Int.bmod_eq_of_le <;> omega
theorem sub_cl {x : Int32} {p : Nat} (hp : p ≤ 210) (h : -2147483648 + (p : Int) ≤ x.toInt) : (x - nI p).toNatClampNeg = x.toNatClampNeg - p := by
  have := sub_ok hp h
  show (x - nI p).toInt.toNat = x.toInt.toNat - p
  omega
theorem gt_of {x : Int32} {l : Nat} (hl : l < 2 ^ 31) (h : nI l < x) : ∃ z, z < 2 ^ 31 ∧ x = nI z ∧ l < z := by
  have h1 := Int32.lt_iff_toInt_lt.mp h
  rw [nI_toI hl] at h1
  obtain ⟨z, hz, e⟩ := nI_of (x := x) (fun q => by
    have := Int32.lt_iff_toInt_lt.mp q
    have h0 : (0 : Int32).toInt = 0 := by decide
    omega)
  subst e
  rw [nI_toI hz] at h1
  exact ⟨z, hz, rfl, by omega⟩
theorem le_cl {x : Int32} {l : Nat} (hl : l < 2 ^ 31) (h : ¬ nI l < x) : x.toNatClampNeg ≤ l := by
  have h1 : ¬ (nI l).toInt < x.toInt := fun q => h (Int32.lt_iff_toInt_lt.mpr q)
  rw [nI_toI hl] at h1
  show x.toInt.toNat ≤ l
  omega
theorem aJ_inj {N : Nat} {f g : Nat → Int64} (h : aJ N f = aJ N g) : f = g := by
  have h1 := Sum.inl.inj h
  have h2 := (Prod.mk.inj h1).2
  have h3 := (Prod.mk.inj h2).2
  exact Sum.inl.inj (Sum.inr.inj h3)
section CHS
variable (D S T R : Nat) (P : Nat → Nat → Nat)
/-- what is kept of the chances is right -/
def KI (fk : Nat → Int64) : Prop := ∀ s z, s < 2 ^ R → lsN D S R P s < z → z ≤ msN D S R P s → fk (stN D S R P s + (z - lsN D S R P s - 1)) = -1 ∨ fk (stN D S R P s + (z - lsN D S R P s - 1)) = lN (chN D S T R P s z)
def CH (hp : AH) (kid K : Nat) : Prop := hp 24 = ob 0 (coF (.ref kid) (.int (nI 1))) ∧ TU hp 30 ∧ (∃ fl fm fs : Nat → Int32, hp 25 = aI 256 fl ∧ hp 26 = aI 256 fm ∧ hp 27 = aI 256 fs ∧ MZ D S R P fl fm fs (2 ^ R)) ∧ (∃ fg, hp 28 = aJ 756 fg) ∧ (∃ fk, hp kid = aJ K fk ∧ KI D S T R P fk) ∧ ttN D S R P ≤ K ∧ K < 2 ^ 31
end CHS
def FC (kid : Nat) (hp hp' : AH) : Prop := ∀ i, i ≠ 28 → i ≠ kid → ¬ (32 ≤ i ∧ i ≤ 34) → ¬ (36 ≤ i ∧ i ≤ 38) → hp' i = hp i
theorem FC.rf {kid : Nat} {hp : AH} : FC kid hp hp := fun _ _ _ _ _ => rfl
theorem FC.tr {kid : Nat} {x y z : AH} (h1 : FC kid x y) (h2 : FC kid y z) : FC kid x z := fun i q1 q2 q3 q4 => (h2 i q1 q2 q3 q4).trans (h1 i q1 q2 q3 q4)
theorem FC.t5 {kid : Nat} {x y : AH} (h : FT5 30 x y) : FC kid x y := fun i _ _ q3 q4 => h i (by omega) (by omega)
theorem FC.up {kid c : Nat} {hp : AH} {e : AE} (h : c = 28 ∨ c = kid ∨ (32 ≤ c ∧ c ≤ 34) ∨ (36 ≤ c ∧ c ≤ 38)) : FC kid hp (va_up hp c e) := fun i q1 q2 q3 q4 => va_up_ne _ _ (by omega)
def GRd (m : Nat) (hp hp' : AH) : Prop := ∃ f g, hp 28 = aJ 756 f ∧ hp' 28 = aJ 756 g ∧ ∀ i, i < m → g i = f i
theorem GRd.tr {m : Nat} {x y z : AH} (h1 : GRd m x y) (h2 : GRd m y z) : GRd m x z := by
  obtain ⟨f1, g1, a1, a2, a3⟩ := h1
  obtain ⟨f2, g2, b1, b2, b3⟩ := h2
  have e : g1 = f2 := aJ_inj (a2.symm.trans b1)
  subst e
  exact ⟨f1, g2, a1, b2, fun i hi => (b3 i hi).trans (a3 i hi)⟩
theorem GRd.le {m m' : Nat} {x y : AH} (hm : m' ≤ m) (h : GRd m x y) : GRd m' x y := by
  obtain ⟨f1, g1, a1, a2, a3⟩ := h
  exact ⟨f1, g1, a1, a2, fun i hi => a3 i (by omega)⟩
theorem GRd.same {m : Nat} {x y : AH} {f : Nat → Int64} (hx : x 28 = aJ 756 f) (h : y 28 = x 28) : GRd m x y := ⟨f, f, hx, h.trans hx, fun _ _ => rfl⟩
section CHT
variable {D S T R : Nat} {P : Nat → Nat → Nat} {hp hp' : AH} {kid K n : Nat}
theorem MZ_at {fl fm fs : Nat → Int32} (h : MZ D S R P fl fm fs (2 ^ R)) {s : Nat} (hs : s < 2 ^ R) : fl s = nI (lsN D S R P s) ∧ fm s = nI (msN D S R P s) ∧ fs s = nI (stN D S R P s) := by
  have := h (2 ^ R - 1 - s) (by omega)
  rw [show 2 ^ R - 1 - (2 ^ R - 1 - s) = s by omega] at this
  exact this
theorem CH_28 (hk : kid = 29 ∨ 64 ≤ kid) (c : CH D S T R P hp kid K) (f : Nat → Int64) : CH D S T R P (va_up hp 28 (aJ 756 f)) kid K := by
  obtain ⟨a1, a2, ⟨fl, fm, fs, b1, b2, b3, b4⟩, a4, ⟨fk, d1, d2⟩, a6⟩ := c
  exact ⟨(va_up_ne _ _ (by omega)).trans a1, TU_of (fun i q1 q2 => va_up_ne _ _ (by omega)) a2, ⟨fl, fm, fs, (va_up_ne _ _ (by omega)).trans b1, (va_up_ne _ _ (by omega)).trans b2, (va_up_ne _ _ (by omega)).trans b3, b4⟩, ⟨f, va_up_self _ _ _⟩, ⟨fk, (va_up_ne _ _ (by omega)).trans d1, d2⟩, a6⟩
theorem CH_T (hk : kid = 29 ∨ 64 ≤ kid) (c : CH D S T R P hp kid K) (F : FT5 30 hp hp') (U : TU hp' 30) : CH D S T R P hp' kid K := by
  obtain ⟨a1, a2, ⟨fl, fm, fs, b1, b2, b3, b4⟩, ⟨fg, a4⟩, ⟨fk, d1, d2⟩, a6⟩ := c
  exact ⟨(F _ (by omega) (by omega)).trans a1, U, ⟨fl, fm, fs, (F _ (by omega) (by omega)).trans b1, (F _ (by omega) (by omega)).trans b2, (F _ (by omega) (by omega)).trans b3, b4⟩, ⟨fg, (F _ (by omega) (by omega)).trans a4⟩, ⟨fk, (F _ (by omega) (by omega)).trans d1, d2⟩, a6⟩
theorem CH_kid (hk : kid = 29 ∨ 64 ≤ kid) (c : CH D S T R P hp kid K) {fk : Nat → Int64} (h : KI D S T R P fk) : CH D S T R P (va_up hp kid (aJ K fk)) kid K := by
  obtain ⟨a1, a2, ⟨fl, fm, fs, b1, b2, b3, b4⟩, ⟨fg, a4⟩, -, a6⟩ := c
  exact ⟨(va_up_ne _ _ (by omega)).trans a1, TU_of (fun i q1 q2 => va_up_ne _ _ (by omega)) a2, ⟨fl, fm, fs, (va_up_ne _ _ (by omega)).trans b1, (va_up_ne _ _ (by omega)).trans b2, (va_up_ne _ _ (by omega)).trans b3, b4⟩, ⟨fg, (va_up_ne _ _ (by omega)).trans a4⟩, ⟨fk, va_up_self _ _ _, h⟩, a6⟩
theorem GA_FC (hk : kid = 29 ∨ 64 ≤ kid) (A : GA hp D S T R P) (F : FC kid hp hp') : GA hp' D S T R P := GA_of (fun i q1 q2 => F i (by omega) (by omega) (by omega) (by omega)) A
end CHT
/-- what ofSheet does, with at most o rows free -/
def OfS (n D S T R : Nat) (P : Nat → Nat → Nat) (kid K o : Nat) : Prop := ∀ (s d : Nat) (x : Int32) (hp : AH) (Q : Option Value → AH → Nat → Prop), GA hp D S T R P → CH D S T R P hp kid K → s < 2 ^ R → opn s R ≤ o → opn s R + d ≤ R → -2147483648 + 210 * (opn s R : Int) ≤ x.toInt → (∀ hp' : AH, CH D S T R P hp' kid K → FC kid hp hp' → GRd (d * wh S D) hp hp' → Q (some (.long (lN (chN D S T R P s x.toNatClampNeg)))) hp' n) → CT yX0_ofSheet cX0_ofSheet 5 (some .long) (rmD (2*o+4)) [.ref 24, .int (nI s), .int x, .int (nI d)] hp n Q
theorem c_layGroundC {n D S T R kid K o : Nat} {P : Nat → Nat → Nat} (hn : 64 ≤ n) (N : GN D S T R) (hP : ∀ r h, r < R → P r h ≤ 210) (hk : kid = 29 ∨ (64 ≤ kid ∧ kid < n)) (IH : OfS n D S T R P kid K o) {hp : AH} {s d : Nat} {x : Int32} {Q : Option Value → AH → Nat → Prop} (A : GA hp D S T R P) (C : CH D S T R P hp kid K) (hs : s < 2 ^ R) (hop : 1 ≤ opn s R) (ho : opn s R ≤ o + 1) (hd : opn s R + d ≤ R) (hx : -2147483648 + 210 * (opn s R : Int) ≤ x.toInt)
    (hq : ∀ (hp' : AH) (f : Nat → Int64), CH D S T R P hp' kid K → FC kid hp hp' → GRd (d * wh S D) hp hp' → hp' 32 = aJ 462 f → (∀ h, h < nh S D → sz S h = D → f h = lN (gc D S T R P s x.toNatClampNeg h)) → Q none hp' n) : CT yX0_layGround cX0_layGround 11 none (rmD (2*o+5)) [.ref 24, .int (nI s), .int x, .int (nI d)] hp n Q := by
  obtain ⟨h2, h6, hD1, hD, hT1, hT3, hR1, hR, hL⟩ := id N
  obtain ⟨hT, c4, ⟨fp, c10, hfp⟩, -, -⟩ := id A
  obtain ⟨ft, fz, fl, fm, c5, -⟩ := id hT
  obtain ⟨c24, U, -, ⟨fg, c28⟩, -⟩ := id C
  obtain ⟨hN, hN1⟩ := nh_le h2 h6 hD
  have hwa := wh_add h2 h6 hD
  have hs8 := p256 hR hs
  have hkk : kid = 29 ∨ 64 ≤ kid := by omega
  have hcell : d * wh S D + wh S D ≤ 756 := by
    have h1 := gn_cells N
    have h3 : (d + 1) * wh S D ≤ R * wh S D := Nat.mul_le_mul_right _ (by omega)
    rw [Nat.succ_mul] at h3
    omega
  generalize hGF : (fun h r => if bt0 s r then chN D S T R P (s ||| 2 ^ r) (x.toNatClampNeg - P r h) else 0) = gf
  have egf : ∀ h r, gf h r = if bt0 s r then chN D S T R P (s ||| 2 ^ r) (x.toNatClampNeg - P r h) else 0 := fun h r => by rw [← hGF]
  have egd : ∀ h, gc D S T R P s x.toNatClampNeg h = mxF (gf h) R := fun h => by rw [← hGF]; rfl
  have b63 : ∀ h r, mxF (gf h) r < 2 ^ 63 := fun h r => by
    have : mxF (gf h) r ≤ 1000000000000000 := mxF_le (fun i _ => by
      rw [egf]
      split
      · exact ch_le N _ _
      · exact Nat.zero_le _)
    omega
  show G yX0_layGround cX0_layGround 11 none (rmD (2*o+5)) none Q 0 0 0 [.ref 24, .int (nI s), .int x, .int (nI d), uu, uu, uu, uu, uu, uu, uu] [] hp n
  refine g_aload_n (pc' := 1) dX0_layGround_0 rfl rfl ?_
  refine g_get (pc' := 4) fl_X0_32 dX0_layGround_1 (by omega) (by first | assumption | exact va_up_self _ _ _ | exact (va_up_ne _ _ (by first | decide | omega)).trans (by assumption) | exact (va_up_ne _ _ (by first | decide | omega)).trans (va_up_self _ _ _) | exact (va_up_ne _ _ (by first | decide | omega)).trans ((va_up_ne _ _ (by first | decide | omega)).trans (by assumption)) | exact (va_up_ne _ _ (by first | decide | omega)).trans ((va_up_ne _ _ (by first | decide | omega)).trans (va_up_self _ _ _)) | exact (va_up_ne _ _ (by first | decide | omega)).trans ((va_up_ne _ _ (by first | decide | omega)).trans ((va_up_ne _ _ (by first | decide | omega)).trans (by assumption))) | exact (va_up_ne _ _ (by first | decide | omega)).trans ((va_up_ne _ _ (by first | decide | omega)).trans ((va_up_ne _ _ (by first | decide | omega)).trans ((va_up_ne _ _ (by first | decide | omega)).trans (by assumption)))) | exact rfl) (by first | assumption | rfl | exact (List.getElem?_set_ne (by decide)).trans (by assumption) | exact List.getElem?_set_self (by omega)) ?_
  refine g_getN (pc' := 7) fn_X0_94 dX0_layGround_4 (by omega) (by first | assumption | exact va_up_self _ _ _ | exact (va_up_ne _ _ (by first | decide | omega)).trans (by assumption) | exact (va_up_ne _ _ (by first | decide | omega)).trans (va_up_self _ _ _) | exact (va_up_ne _ _ (by first | decide | omega)).trans ((va_up_ne _ _ (by first | decide | omega)).trans (by assumption)) | exact (va_up_ne _ _ (by first | decide | omega)).trans ((va_up_ne _ _ (by first | decide | omega)).trans (va_up_self _ _ _)) | exact (va_up_ne _ _ (by first | decide | omega)).trans ((va_up_ne _ _ (by first | decide | omega)).trans ((va_up_ne _ _ (by first | decide | omega)).trans (by assumption))) | exact (va_up_ne _ _ (by first | decide | omega)).trans ((va_up_ne _ _ (by first | decide | omega)).trans ((va_up_ne _ _ (by first | decide | omega)).trans ((va_up_ne _ _ (by first | decide | omega)).trans (by assumption)))) | exact rfl) (by first | assumption | rfl | exact (List.getElem?_set_ne (by decide)).trans (by assumption) | exact List.getElem?_set_self (by omega)) ?_
  refine gc_V 10 5 [] [] cw_X0_98 im_X2_wholeCount se_X2_wholeCount dX0_layGround_7 (by first | decide | (dsimp only [rmD]; omega)) (by first | decide | (dsimp only [rmD]; omega)) (Nat.le_refl _) (Nat.le_refl _) (Nat.le_of_ble_eq_true rfl) rfl (Nat.le_of_ble_eq_true rfl) (by omega) (by first | assumption | exact va_up_self _ _ _ | exact (va_up_ne _ _ (by first | decide | omega)).trans (by assumption) | exact (va_up_ne _ _ (by first | decide | omega)).trans (va_up_self _ _ _) | exact (va_up_ne _ _ (by first | decide | omega)).trans ((va_up_ne _ _ (by first | decide | omega)).trans (by assumption)) | exact (va_up_ne _ _ (by first | decide | omega)).trans ((va_up_ne _ _ (by first | decide | omega)).trans (va_up_self _ _ _)) | exact (va_up_ne _ _ (by first | decide | omega)).trans ((va_up_ne _ _ (by first | decide | omega)).trans ((va_up_ne _ _ (by first | decide | omega)).trans (by assumption))) | exact (va_up_ne _ _ (by first | decide | omega)).trans ((va_up_ne _ _ (by first | decide | omega)).trans ((va_up_ne _ _ (by first | decide | omega)).trans ((va_up_ne _ _ (by first | decide | omega)).trans (by assumption)))) | exact rfl) rfl rfl (c_wholeCount hn h2 h6 hD hT ⟨rfl, ?_⟩)
  show G yX0_layGround cX0_layGround 11 none (rmD (2*o+5)) none Q 0 0 10 [.ref 24, .int (nI s), .int x, .int (nI d), uu, uu, uu, uu, uu, uu, uu] [.int (nI (wh S D))] hp n
  refine g_istore (pc' := 12) dX0_layGround_10 (by decide) ?_
  refine g_iload_n (pc' := 13) dX0_layGround_12 rfl rfl ?_
  refine g_iload (pc' := 15) dX0_layGround_13 rfl ?_
  first | refine g_imulN (pc' := 16) dX0_layGround_15 ?_ | refine g_imul (pc' := 16) dX0_layGround_15 ?_
  refine g_istore (pc' := 18) dX0_layGround_16 (by decide) ?_
  refine g_iload (pc' := 20) dX0_layGround_18 rfl ?_
  refine g_iload (pc' := 22) dX0_layGround_20 rfl ?_
  first | refine g_iaddN (pc' := 23) dX0_layGround_22 ?_ | refine g_iadd (pc' := 23) dX0_layGround_22 ?_
  refine g_sipush (pc' := 26) (v := nI 756) dX0_layGround_23 (by decide) ?_
  refine g_icmp_leN (tgt := 30) (pc' := 29) dX0_layGround_26 (by decide) (by first | omega | decide) (by first | omega | decide) (fun z1 => ?_) (fun z1 => ?_)
  · refine g_aload_n (pc' := 31) dX0_layGround_30 rfl rfl ?_
    refine g_get (pc' := 34) fl_X0_21 dX0_layGround_31 (by omega) (by first | assumption | exact va_up_self _ _ _ | exact (va_up_ne _ _ (by first | decide | omega)).trans (by assumption) | exact (va_up_ne _ _ (by first | decide | omega)).trans (va_up_self _ _ _) | exact (va_up_ne _ _ (by first | decide | omega)).trans ((va_up_ne _ _ (by first | decide | omega)).trans (by assumption)) | exact (va_up_ne _ _ (by first | decide | omega)).trans ((va_up_ne _ _ (by first | decide | omega)).trans (va_up_self _ _ _)) | exact (va_up_ne _ _ (by first | decide | omega)).trans ((va_up_ne _ _ (by first | decide | omega)).trans ((va_up_ne _ _ (by first | decide | omega)).trans (by assumption))) | exact (va_up_ne _ _ (by first | decide | omega)).trans ((va_up_ne _ _ (by first | decide | omega)).trans ((va_up_ne _ _ (by first | decide | omega)).trans ((va_up_ne _ _ (by first | decide | omega)).trans (by assumption)))) | exact rfl) (by first | assumption | rfl | exact (List.getElem?_set_ne (by decide)).trans (by assumption) | exact List.getElem?_set_self (by omega)) ?_
    refine g_iload (pc' := 36) dX0_layGround_34 rfl ?_
    refine g_iload (pc' := 38) dX0_layGround_36 rfl ?_
    refine g_iload (pc' := 40) dX0_layGround_38 rfl ?_
    first | refine g_iaddN (pc' := 41) dX0_layGround_40 ?_ | refine g_iadd (pc' := 41) dX0_layGround_40 ?_
    refine g_lconst (pc' := 42) (v := lN 0) dX0_layGround_41 (by decide) ?_
    refine gc_S 45 [.ref 28, .int (nI (d * wh S D)), .int (nI (d * wh S D + wh S D)), .long (lN 0)] [] cw_X0_72 sm_J7_fill_bad5a dX0_layGround_42 (by first | decide | (dsimp only [rmD]; omega)) (by first | decide | (dsimp only [rmD]; omega)) (Nat.le_refl _) (Nat.le_refl _) (Nat.le_of_ble_eq_true rfl) rfl (Nat.le_of_ble_eq_true rfl) (c_fillJ (by omega) c28 (by omega) (by omega) (by omega) (fun f0 hf0 hf1 => ⟨rfl, ?_⟩))
    show G yX0_layGround cX0_layGround 11 none (rmD (2*o+5)) none Q 0 0 45 [.ref 24, .int (nI s), .int x, .int (nI d), .int (nI (wh S D)), .int (nI (d * wh S D)), uu, uu, uu, uu, uu] [] (va_up hp 28 (aJ 756 f0)) n
    refine g_iconst (pc' := 46) (v := nI 0) dX0_layGround_45 (by decide) ?_
    refine g_istore (pc' := 48) dX0_layGround_46 (by decide) ?_
    have outer : ∀ (k r : Nat) (hp1 : AH) (f : Nat → Int64), r + k = R → CH D S T R P hp1 kid K → FC kid hp hp1 → GRd (d * wh S D) hp hp1 → hp1 28 = aJ 756 f → (∀ i, i < wh S D → f (d * wh S D + i) = lN (mxF (gf (nh S (D - 1) + i)) r)) → G yX0_layGround cX0_layGround 11 none (rmD (2*o+5)) none Q 0 0 48 [.ref 24, .int (nI s), .int x, .int (nI d), .int (nI (wh S D)), .int (nI (d * wh S D)), .int (nI r), uu, uu, uu, uu] [] hp1 n := by
      intro k
      induction k with
      | zero =>
        intro r hp1 f hr C1 F1 G1 e28 hf
        have e : r = R := by omega
        subst e
        have A1 := GA_FC hkk A F1
        obtain ⟨hT1', c4', -⟩ := id A1
        obtain ⟨ft', fz', fl', fm', c5', -⟩ := id hT1'
        obtain ⟨c24', U1, -⟩ := id C1
        obtain ⟨t1, -, -, t6, -⟩ := id U1
        obtain ⟨f32, c32⟩ := t6 0 (by omega)
        refine g_iload (pc' := 50) dX0_layGround_48 rfl ?_
        refine g_aload_n (pc' := 51) dX0_layGround_50 rfl rfl ?_
        refine g_get (pc' := 54) fl_X0_32 dX0_layGround_51 (by omega) (by first | assumption | exact va_up_self _ _ _ | exact (va_up_ne _ _ (by first | decide | omega)).trans (by assumption) | exact (va_up_ne _ _ (by first | decide | omega)).trans (va_up_self _ _ _) | exact (va_up_ne _ _ (by first | decide | omega)).trans ((va_up_ne _ _ (by first | decide | omega)).trans (by assumption)) | exact (va_up_ne _ _ (by first | decide | omega)).trans ((va_up_ne _ _ (by first | decide | omega)).trans (va_up_self _ _ _)) | exact (va_up_ne _ _ (by first | decide | omega)).trans ((va_up_ne _ _ (by first | decide | omega)).trans ((va_up_ne _ _ (by first | decide | omega)).trans (by assumption))) | exact (va_up_ne _ _ (by first | decide | omega)).trans ((va_up_ne _ _ (by first | decide | omega)).trans ((va_up_ne _ _ (by first | decide | omega)).trans ((va_up_ne _ _ (by first | decide | omega)).trans (by assumption)))) | exact rfl) (by first | assumption | rfl | exact (List.getElem?_set_ne (by decide)).trans (by assumption) | exact List.getElem?_set_self (by omega)) ?_
        refine g_getN (pc' := 57) fn_X0_83 dX0_layGround_54 (by omega) (by first | assumption | exact va_up_self _ _ _ | exact (va_up_ne _ _ (by first | decide | omega)).trans (by assumption) | exact (va_up_ne _ _ (by first | decide | omega)).trans (va_up_self _ _ _) | exact (va_up_ne _ _ (by first | decide | omega)).trans ((va_up_ne _ _ (by first | decide | omega)).trans (by assumption)) | exact (va_up_ne _ _ (by first | decide | omega)).trans ((va_up_ne _ _ (by first | decide | omega)).trans (va_up_self _ _ _)) | exact (va_up_ne _ _ (by first | decide | omega)).trans ((va_up_ne _ _ (by first | decide | omega)).trans ((va_up_ne _ _ (by first | decide | omega)).trans (by assumption))) | exact (va_up_ne _ _ (by first | decide | omega)).trans ((va_up_ne _ _ (by first | decide | omega)).trans ((va_up_ne _ _ (by first | decide | omega)).trans ((va_up_ne _ _ (by first | decide | omega)).trans (by assumption)))) | exact rfl) (by first | assumption | rfl | exact (List.getElem?_set_ne (by decide)).trans (by assumption) | exact List.getElem?_set_self (by omega)) ?_
        refine g_icmp_geN (tgt := 159) (pc' := 60) dX0_layGround_57 (by decide) (by first | omega | decide) (by first | omega | decide) (fun z2 => ?_) (fun z2 => ?_)
        · refine g_aload_n (pc' := 160) dX0_layGround_159 rfl rfl ?_
          refine g_get (pc' := 163) fl_X0_21 dX0_layGround_160 (by omega) (by first | assumption | exact va_up_self _ _ _ | exact (va_up_ne _ _ (by first | decide | omega)).trans (by assumption) | exact (va_up_ne _ _ (by first | decide | omega)).trans (va_up_self _ _ _) | exact (va_up_ne _ _ (by first | decide | omega)).trans ((va_up_ne _ _ (by first | decide | omega)).trans (by assumption)) | exact (va_up_ne _ _ (by first | decide | omega)).trans ((va_up_ne _ _ (by first | decide | omega)).trans (va_up_self _ _ _)) | exact (va_up_ne _ _ (by first | decide | omega)).trans ((va_up_ne _ _ (by first | decide | omega)).trans ((va_up_ne _ _ (by first | decide | omega)).trans (by assumption))) | exact (va_up_ne _ _ (by first | decide | omega)).trans ((va_up_ne _ _ (by first | decide | omega)).trans ((va_up_ne _ _ (by first | decide | omega)).trans ((va_up_ne _ _ (by first | decide | omega)).trans (by assumption)))) | exact rfl) (by first | assumption | rfl | exact (List.getElem?_set_ne (by decide)).trans (by assumption) | exact List.getElem?_set_self (by omega)) ?_
          refine g_iload (pc' := 165) dX0_layGround_163 rfl ?_
          refine g_aload_n (pc' := 166) dX0_layGround_165 rfl rfl ?_
          refine g_get (pc' := 169) fl_X0_41 dX0_layGround_166 (by omega) (by first | assumption | exact va_up_self _ _ _ | exact (va_up_ne _ _ (by first | decide | omega)).trans (by assumption) | exact (va_up_ne _ _ (by first | decide | omega)).trans (va_up_self _ _ _) | exact (va_up_ne _ _ (by first | decide | omega)).trans ((va_up_ne _ _ (by first | decide | omega)).trans (by assumption)) | exact (va_up_ne _ _ (by first | decide | omega)).trans ((va_up_ne _ _ (by first | decide | omega)).trans (va_up_self _ _ _)) | exact (va_up_ne _ _ (by first | decide | omega)).trans ((va_up_ne _ _ (by first | decide | omega)).trans ((va_up_ne _ _ (by first | decide | omega)).trans (by assumption))) | exact (va_up_ne _ _ (by first | decide | omega)).trans ((va_up_ne _ _ (by first | decide | omega)).trans ((va_up_ne _ _ (by first | decide | omega)).trans ((va_up_ne _ _ (by first | decide | omega)).trans (by assumption)))) | exact rfl) (by first | assumption | rfl | exact (List.getElem?_set_ne (by decide)).trans (by assumption) | exact List.getElem?_set_self (by omega)) ?_
          refine gc_V 172 30 [] [.int (nI (d * wh S D)), .ref 28] cw_X0_128 im_X5_ground se_X5_ground dX0_layGround_169 (by first | decide | (dsimp only [rmD]; omega)) (by first | decide | (dsimp only [rmD]; omega)) (Nat.le_refl _) (Nat.le_refl _) (Nat.le_of_ble_eq_true rfl) rfl (Nat.le_of_ble_eq_true rfl) (by omega) (by first | assumption | exact va_up_self _ _ _ | exact (va_up_ne _ _ (by first | decide | omega)).trans (by assumption) | exact (va_up_ne _ _ (by first | decide | omega)).trans (va_up_self _ _ _) | exact (va_up_ne _ _ (by first | decide | omega)).trans ((va_up_ne _ _ (by first | decide | omega)).trans (by assumption)) | exact (va_up_ne _ _ (by first | decide | omega)).trans ((va_up_ne _ _ (by first | decide | omega)).trans (va_up_self _ _ _)) | exact (va_up_ne _ _ (by first | decide | omega)).trans ((va_up_ne _ _ (by first | decide | omega)).trans ((va_up_ne _ _ (by first | decide | omega)).trans (by assumption))) | exact (va_up_ne _ _ (by first | decide | omega)).trans ((va_up_ne _ _ (by first | decide | omega)).trans ((va_up_ne _ _ (by first | decide | omega)).trans ((va_up_ne _ _ (by first | decide | omega)).trans (by assumption)))) | exact rfl) rfl rfl (c_ground hn (by omega) U1 ⟨rfl, ?_⟩)
          show G yX0_layGround cX0_layGround 11 none (rmD (2*o+5)) none Q 0 0 172 [.ref 24, .int (nI s), .int x, .int (nI d), .int (nI (wh S D)), .int (nI (d * wh S D)), .int (nI r), uu, uu, uu, uu] [.ref 32, .int (nI (d * wh S D)), .ref 28] hp1 n
          refine g_aload_n (pc' := 173) dX0_layGround_172 rfl rfl ?_
          refine g_get (pc' := 176) fl_X0_32 dX0_layGround_173 (by omega) (by first | assumption | exact va_up_self _ _ _ | exact (va_up_ne _ _ (by first | decide | omega)).trans (by assumption) | exact (va_up_ne _ _ (by first | decide | omega)).trans (va_up_self _ _ _) | exact (va_up_ne _ _ (by first | decide | omega)).trans ((va_up_ne _ _ (by first | decide | omega)).trans (by assumption)) | exact (va_up_ne _ _ (by first | decide | omega)).trans ((va_up_ne _ _ (by first | decide | omega)).trans (va_up_self _ _ _)) | exact (va_up_ne _ _ (by first | decide | omega)).trans ((va_up_ne _ _ (by first | decide | omega)).trans ((va_up_ne _ _ (by first | decide | omega)).trans (by assumption))) | exact (va_up_ne _ _ (by first | decide | omega)).trans ((va_up_ne _ _ (by first | decide | omega)).trans ((va_up_ne _ _ (by first | decide | omega)).trans ((va_up_ne _ _ (by first | decide | omega)).trans (by assumption)))) | exact rfl) (by first | assumption | rfl | exact (List.getElem?_set_ne (by decide)).trans (by assumption) | exact List.getElem?_set_self (by omega)) ?_
          refine g_getN (pc' := 179) fn_X0_94 dX0_layGround_176 (by omega) (by first | assumption | exact va_up_self _ _ _ | exact (va_up_ne _ _ (by first | decide | omega)).trans (by assumption) | exact (va_up_ne _ _ (by first | decide | omega)).trans (va_up_self _ _ _) | exact (va_up_ne _ _ (by first | decide | omega)).trans ((va_up_ne _ _ (by first | decide | omega)).trans (by assumption)) | exact (va_up_ne _ _ (by first | decide | omega)).trans ((va_up_ne _ _ (by first | decide | omega)).trans (va_up_self _ _ _)) | exact (va_up_ne _ _ (by first | decide | omega)).trans ((va_up_ne _ _ (by first | decide | omega)).trans ((va_up_ne _ _ (by first | decide | omega)).trans (by assumption))) | exact (va_up_ne _ _ (by first | decide | omega)).trans ((va_up_ne _ _ (by first | decide | omega)).trans ((va_up_ne _ _ (by first | decide | omega)).trans ((va_up_ne _ _ (by first | decide | omega)).trans (by assumption)))) | exact rfl) (by first | assumption | rfl | exact (List.getElem?_set_ne (by decide)).trans (by assumption) | exact List.getElem?_set_self (by omega)) ?_
          refine g_getN (pc' := 182) fn_X0_132 dX0_layGround_179 (by omega) (by first | assumption | exact va_up_self _ _ _ | exact (va_up_ne _ _ (by first | decide | omega)).trans (by assumption) | exact (va_up_ne _ _ (by first | decide | omega)).trans (va_up_self _ _ _) | exact (va_up_ne _ _ (by first | decide | omega)).trans ((va_up_ne _ _ (by first | decide | omega)).trans (by assumption)) | exact (va_up_ne _ _ (by first | decide | omega)).trans ((va_up_ne _ _ (by first | decide | omega)).trans (va_up_self _ _ _)) | exact (va_up_ne _ _ (by first | decide | omega)).trans ((va_up_ne _ _ (by first | decide | omega)).trans ((va_up_ne _ _ (by first | decide | omega)).trans (by assumption))) | exact (va_up_ne _ _ (by first | decide | omega)).trans ((va_up_ne _ _ (by first | decide | omega)).trans ((va_up_ne _ _ (by first | decide | omega)).trans ((va_up_ne _ _ (by first | decide | omega)).trans (by assumption)))) | exact rfl) (by first | assumption | rfl | exact (List.getElem?_set_ne (by decide)).trans (by assumption) | exact List.getElem?_set_self (by omega)) ?_
          refine g_iload (pc' := 184) dX0_layGround_182 rfl ?_
          refine g_copyl (pc' := 187) ac_X0_135 w_ac2 w_ac3 w_ac4 (by omega) e28 (by omega) c32 ⟨nI_pos (by omega), nI_clamp (by omega)⟩ ⟨nI_pos (by omega), nI_clamp (by omega)⟩ ⟨nI_pos (by omega), nI_clamp (by omega)⟩ (by omega) (by omega) (by dsimp only [rmD]; omega) (Nat.le_trans (show _ ≤ 60 by decide) (by dsimp only [rmD]; omega)) dX0_layGround_184 ?_
          refine g_vret dX0_layGround_187 rfl (Nat.le_refl _) (Nat.le_refl _) (hq _ _ (CH_T hkk C1 (FT5.up (a := 30) (c := 32) (by omega)) (TU_up (a := 30) (c := 32) (by omega) U1)) (F1.tr (FC.up (by omega))) (G1.tr (GRd.same e28 (va_up_ne _ _ (by omega)))) (va_up_self _ _ _) (fun h hh hz => ?_))
          have := (sz_wh h2 h6 hD1 hD hh).mp hz
          unfold va_cpy
          rw [if_pos (by omega), hf _ (by omega), show nh S (D - 1) + (h - nh S (D - 1)) = h by omega, egd]
        · omega
      | succ k ih =>
        intro r hp1 f hr C1 F1 G1 e28 hf
        have A1 := GA_FC hkk A F1
        obtain ⟨hT1', c4', -⟩ := id A1
        obtain ⟨c24', -⟩ := id C1
        have hb9 := bI_le (bt0 s r)
        refine g_iload (pc' := 50) dX0_layGround_48 rfl ?_
        refine g_aload_n (pc' := 51) dX0_layGround_50 rfl rfl ?_
        refine g_get (pc' := 54) fl_X0_32 dX0_layGround_51 (by omega) (by first | assumption | exact va_up_self _ _ _ | exact (va_up_ne _ _ (by first | decide | omega)).trans (by assumption) | exact (va_up_ne _ _ (by first | decide | omega)).trans (va_up_self _ _ _) | exact (va_up_ne _ _ (by first | decide | omega)).trans ((va_up_ne _ _ (by first | decide | omega)).trans (by assumption)) | exact (va_up_ne _ _ (by first | decide | omega)).trans ((va_up_ne _ _ (by first | decide | omega)).trans (va_up_self _ _ _)) | exact (va_up_ne _ _ (by first | decide | omega)).trans ((va_up_ne _ _ (by first | decide | omega)).trans ((va_up_ne _ _ (by first | decide | omega)).trans (by assumption))) | exact (va_up_ne _ _ (by first | decide | omega)).trans ((va_up_ne _ _ (by first | decide | omega)).trans ((va_up_ne _ _ (by first | decide | omega)).trans ((va_up_ne _ _ (by first | decide | omega)).trans (by assumption)))) | exact rfl) (by first | assumption | rfl | exact (List.getElem?_set_ne (by decide)).trans (by assumption) | exact List.getElem?_set_self (by omega)) ?_
        refine g_getN (pc' := 57) fn_X0_83 dX0_layGround_54 (by omega) (by first | assumption | exact va_up_self _ _ _ | exact (va_up_ne _ _ (by first | decide | omega)).trans (by assumption) | exact (va_up_ne _ _ (by first | decide | omega)).trans (va_up_self _ _ _) | exact (va_up_ne _ _ (by first | decide | omega)).trans ((va_up_ne _ _ (by first | decide | omega)).trans (by assumption)) | exact (va_up_ne _ _ (by first | decide | omega)).trans ((va_up_ne _ _ (by first | decide | omega)).trans (va_up_self _ _ _)) | exact (va_up_ne _ _ (by first | decide | omega)).trans ((va_up_ne _ _ (by first | decide | omega)).trans ((va_up_ne _ _ (by first | decide | omega)).trans (by assumption))) | exact (va_up_ne _ _ (by first | decide | omega)).trans ((va_up_ne _ _ (by first | decide | omega)).trans ((va_up_ne _ _ (by first | decide | omega)).trans ((va_up_ne _ _ (by first | decide | omega)).trans (by assumption)))) | exact rfl) (by first | assumption | rfl | exact (List.getElem?_set_ne (by decide)).trans (by assumption) | exact List.getElem?_set_self (by omega)) ?_
        refine g_icmp_geN (tgt := 159) (pc' := 60) dX0_layGround_57 (by decide) (by first | omega | decide) (by first | omega | decide) (fun z2 => ?_) (fun z2 => ?_)
        · omega
        · refine g_aload_n (pc' := 61) dX0_layGround_60 rfl rfl ?_
          refine g_get (pc' := 64) fl_X0_32 dX0_layGround_61 (by omega) (by first | assumption | exact va_up_self _ _ _ | exact (va_up_ne _ _ (by first | decide | omega)).trans (by assumption) | exact (va_up_ne _ _ (by first | decide | omega)).trans (va_up_self _ _ _) | exact (va_up_ne _ _ (by first | decide | omega)).trans ((va_up_ne _ _ (by first | decide | omega)).trans (by assumption)) | exact (va_up_ne _ _ (by first | decide | omega)).trans ((va_up_ne _ _ (by first | decide | omega)).trans (va_up_self _ _ _)) | exact (va_up_ne _ _ (by first | decide | omega)).trans ((va_up_ne _ _ (by first | decide | omega)).trans ((va_up_ne _ _ (by first | decide | omega)).trans (by assumption))) | exact (va_up_ne _ _ (by first | decide | omega)).trans ((va_up_ne _ _ (by first | decide | omega)).trans ((va_up_ne _ _ (by first | decide | omega)).trans ((va_up_ne _ _ (by first | decide | omega)).trans (by assumption)))) | exact rfl) (by first | assumption | rfl | exact (List.getElem?_set_ne (by decide)).trans (by assumption) | exact List.getElem?_set_self (by omega)) ?_
          refine g_iload_n (pc' := 65) dX0_layGround_64 rfl rfl ?_
          refine g_iload (pc' := 67) dX0_layGround_65 rfl ?_
          refine gc_V 70 4 [.int (nI s), .int (nI r)] [] cw_X0_121 im_X1_isFree se_X1_isFree dX0_layGround_67 (by first | decide | (dsimp only [rmD]; omega)) (by first | decide | (dsimp only [rmD]; omega)) (Nat.le_refl _) (Nat.le_refl _) (Nat.le_of_ble_eq_true rfl) rfl (Nat.le_of_ble_eq_true rfl) (by omega) (by first | assumption | exact va_up_self _ _ _ | exact (va_up_ne _ _ (by first | decide | omega)).trans (by assumption) | exact (va_up_ne _ _ (by first | decide | omega)).trans (va_up_self _ _ _) | exact (va_up_ne _ _ (by first | decide | omega)).trans ((va_up_ne _ _ (by first | decide | omega)).trans (by assumption)) | exact (va_up_ne _ _ (by first | decide | omega)).trans ((va_up_ne _ _ (by first | decide | omega)).trans (va_up_self _ _ _)) | exact (va_up_ne _ _ (by first | decide | omega)).trans ((va_up_ne _ _ (by first | decide | omega)).trans ((va_up_ne _ _ (by first | decide | omega)).trans (by assumption))) | exact (va_up_ne _ _ (by first | decide | omega)).trans ((va_up_ne _ _ (by first | decide | omega)).trans ((va_up_ne _ _ (by first | decide | omega)).trans ((va_up_ne _ _ (by first | decide | omega)).trans (by assumption)))) | exact rfl) rfl rfl (c_isFree (by omega) (by omega) ⟨rfl, ?_⟩)
          show G yX0_layGround cX0_layGround 11 none (rmD (2*o+5)) none Q 0 0 70 [.ref 24, .int (nI s), .int x, .int (nI d), .int (nI (wh S D)), .int (nI (d * wh S D)), .int (nI r), uu, uu, uu, uu] [.int (nI (bI (bt0 s r)))] hp1 n
          cases hb : bt0 s r with
          | false =>
            refine g_if_eqN (tgt := 153) (pc' := 73) dX0_layGround_70 (by decide) (by first | omega | decide) (fun z3 => ?_) (fun z3 => ?_)
            · first | refine g_iincN (z := 1) (pc' := 156) dX0_layGround_153 rfl rfl (by decide) ?_ | refine g_iinc (pc' := 156) dX0_layGround_153 rfl rfl (by decide) ?_
              refine g_goto (tgt := 48) dX0_layGround_156 (by decide) ?_
              refine ih (r + 1) hp1 f (by omega) C1 F1 G1 e28 (fun i hi => ?_)
              rw [show mxF (gf (nh S (D - 1) + i)) (r + 1) = max (mxF (gf (nh S (D - 1) + i)) r) (gf (nh S (D - 1) + i) r) from rfl, egf _ r, hb, hf i hi]
              simp
            · exact absurd rfl z3
          | true =>
            have eo := opn_pred hb (show r < R by omega)
            have hor := or_ltR hs (show r < R by omega)
            have hor8 := p256 hR hor
            refine g_if_eqN (tgt := 153) (pc' := 73) dX0_layGround_70 (by decide) (by first | omega | decide) (fun z3 => ?_) (fun z3 => ?_)
            · exact absurd z3 (by decide)
            · refine g_iload_n (pc' := 74) dX0_layGround_73 rfl rfl ?_
              refine g_iconst (pc' := 75) (v := nI 1) dX0_layGround_74 (by decide) ?_
              refine g_iload (pc' := 77) dX0_layGround_75 rfl ?_
              refine g_ishl (pc' := 78) dX0_layGround_77 ?_
              refine g_ior (pc' := 79) dX0_layGround_78 ?_
              rw [shl_bit (show r < 8 by omega)]
              refine g_istore (pc' := 81) dX0_layGround_79 (by decide) ?_
              refine g_iconst (pc' := 82) (v := nI 0) dX0_layGround_81 (by decide) ?_
              refine g_istore (pc' := 84) dX0_layGround_82 (by decide) ?_
              have inner : ∀ (k2 i : Nat) (hp1 : AH) (f : Nat → Int64), i + k2 = wh S D → CH D S T R P hp1 kid K → FC kid hp hp1 → GRd (d * wh S D) hp hp1 → hp1 28 = aJ 756 f → (∀ j, j < i → f (d * wh S D + j) = lN (mxF (gf (nh S (D - 1) + j)) (r + 1))) → (∀ j, i ≤ j → j < wh S D → f (d * wh S D + j) = lN (mxF (gf (nh S (D - 1) + j)) r)) → ∀ w9, G yX0_layGround cX0_layGround 11 none (rmD (2*o+5)) none Q 0 0 84 [.ref 24, .int (nI s), .int x, .int (nI d), .int (nI (wh S D)), .int (nI (d * wh S D)), .int (nI r), .int (nI (s ||| 2 ^ r)), .int (nI i), w9, uu] [] hp1 n := by
                intro k2
                induction k2 with
                | zero =>
                  intro i hp1 f hi C1 F1 G1 e28 h1 h3 w9
                  refine g_iload (pc' := 86) dX0_layGround_84 rfl ?_
                  refine g_iload (pc' := 88) dX0_layGround_86 rfl ?_
                  refine g_icmp_geN (tgt := 153) (pc' := 91) dX0_layGround_88 (by decide) (by first | omega | decide) (by first | omega | decide) (fun z4 => ?_) (fun z4 => ?_)
                  · first | refine g_iincN (z := 1) (pc' := 156) dX0_layGround_153 rfl rfl (by decide) ?_ | refine g_iinc (pc' := 156) dX0_layGround_153 rfl rfl (by decide) ?_
                    refine g_goto (tgt := 48) dX0_layGround_156 (by decide) ?_
                    exact g_fg (by repeat (first | exact trivial | refine ⟨Or.inr rfl, ?_⟩ | refine ⟨Or.inl rfl, ?_⟩)) (ih (r + 1) hp1 f (by omega) C1 F1 G1 e28 (fun j hj => h1 j (by omega)))
                  · omega
                | succ k2 ih2 =>
                  intro i hp1 f hi C1 F1 G1 e28 h1 h3 w9
                  have A1 := GA_FC hkk A F1
                  obtain ⟨hT1', c4', ⟨fp', c10', hfp'⟩, -⟩ := id A1
                  obtain ⟨c24', -⟩ := id C1
                  have hc := gn_cell N (show r < R by omega) (show i < wh S D by omega)
                  have hp9 := hP r (nh S (D - 1) + i) (by omega)
                  have hxs := sub_ok (x := x) hp9 (by omega)
                  have hxc := sub_cl (x := x) hp9 (by omega)
                  have eg : gf (nh S (D - 1) + i) r = chN D S T R P (s ||| 2 ^ r) (x.toNatClampNeg - P r (nh S (D - 1) + i)) := by
                    rw [egf, hb]; rfl
                  have emx : mxF (gf (nh S (D - 1) + i)) (r + 1) = max (mxF (gf (nh S (D - 1) + i)) r) (chN D S T R P (s ||| 2 ^ r) (x.toNatClampNeg - P r (nh S (D - 1) + i))) := by rw [← eg]; rfl
                  have b1 := b63 (nh S (D - 1) + i) r
                  have b4 : chN D S T R P (s ||| 2 ^ r) (x.toNatClampNeg - P r (nh S (D - 1) + i)) < 2 ^ 63 := Nat.lt_of_le_of_lt (ch_le N _ _) (by decide)
                  refine g_iload (pc' := 86) dX0_layGround_84 rfl ?_
                  refine g_iload (pc' := 88) dX0_layGround_86 rfl ?_
                  refine g_icmp_geN (tgt := 153) (pc' := 91) dX0_layGround_88 (by decide) (by first | omega | decide) (by first | omega | decide) (fun z4 => ?_) (fun z4 => ?_)
                  · omega
                  · refine g_aload_n (pc' := 92) dX0_layGround_91 rfl rfl ?_
                    refine g_iload (pc' := 94) dX0_layGround_92 rfl ?_
                    refine g_iload_n (pc' := 95) dX0_layGround_94 rfl rfl ?_
                    refine g_aload_n (pc' := 96) dX0_layGround_95 rfl rfl ?_
                    refine g_get (pc' := 99) fl_X0_32 dX0_layGround_96 (by omega) (by first | assumption | exact va_up_self _ _ _ | exact (va_up_ne _ _ (by first | decide | omega)).trans (by assumption) | exact (va_up_ne _ _ (by first | decide | omega)).trans (va_up_self _ _ _) | exact (va_up_ne _ _ (by first | decide | omega)).trans ((va_up_ne _ _ (by first | decide | omega)).trans (by assumption)) | exact (va_up_ne _ _ (by first | decide | omega)).trans ((va_up_ne _ _ (by first | decide | omega)).trans (va_up_self _ _ _)) | exact (va_up_ne _ _ (by first | decide | omega)).trans ((va_up_ne _ _ (by first | decide | omega)).trans ((va_up_ne _ _ (by first | decide | omega)).trans (by assumption))) | exact (va_up_ne _ _ (by first | decide | omega)).trans ((va_up_ne _ _ (by first | decide | omega)).trans ((va_up_ne _ _ (by first | decide | omega)).trans ((va_up_ne _ _ (by first | decide | omega)).trans (by assumption)))) | exact rfl) (by first | assumption | rfl | exact (List.getElem?_set_ne (by decide)).trans (by assumption) | exact List.getElem?_set_self (by omega)) ?_
                    refine g_getN (pc' := 102) fn_X0_103 dX0_layGround_99 (by omega) (by first | assumption | exact va_up_self _ _ _ | exact (va_up_ne _ _ (by first | decide | omega)).trans (by assumption) | exact (va_up_ne _ _ (by first | decide | omega)).trans (va_up_self _ _ _) | exact (va_up_ne _ _ (by first | decide | omega)).trans ((va_up_ne _ _ (by first | decide | omega)).trans (by assumption)) | exact (va_up_ne _ _ (by first | decide | omega)).trans ((va_up_ne _ _ (by first | decide | omega)).trans (va_up_self _ _ _)) | exact (va_up_ne _ _ (by first | decide | omega)).trans ((va_up_ne _ _ (by first | decide | omega)).trans ((va_up_ne _ _ (by first | decide | omega)).trans (by assumption))) | exact (va_up_ne _ _ (by first | decide | omega)).trans ((va_up_ne _ _ (by first | decide | omega)).trans ((va_up_ne _ _ (by first | decide | omega)).trans ((va_up_ne _ _ (by first | decide | omega)).trans (by assumption)))) | exact rfl) (by first | assumption | rfl | exact (List.getElem?_set_ne (by decide)).trans (by assumption) | exact List.getElem?_set_self (by omega)) ?_
                    refine g_iload (pc' := 104) dX0_layGround_102 rfl ?_
                    refine g_iload (pc' := 106) dX0_layGround_104 rfl ?_
                    first | refine g_imulN (pc' := 107) dX0_layGround_106 ?_ | refine g_imul (pc' := 107) dX0_layGround_106 ?_
                    refine g_iload (pc' := 109) dX0_layGround_107 rfl ?_
                    first | refine g_iaddN (pc' := 110) dX0_layGround_109 ?_ | refine g_iadd (pc' := 110) dX0_layGround_109 ?_
                    refine g_atIN (pc' := 113) cw_X0_106 dX0_layGround_110 (by first | decide | (dsimp only [rmD]; omega)) (by first | decide | (dsimp only [rmD]; omega)) (Nat.le_refl _) (Nat.le_refl _) (Nat.le_of_ble_eq_true rfl) (by omega) (by first | assumption | exact va_up_self _ _ _ | exact (va_up_ne _ _ (by first | decide | omega)).trans (by assumption) | exact (va_up_ne _ _ (by first | decide | omega)).trans (va_up_self _ _ _) | exact (va_up_ne _ _ (by first | decide | omega)).trans ((va_up_ne _ _ (by first | decide | omega)).trans (by assumption)) | exact (va_up_ne _ _ (by first | decide | omega)).trans ((va_up_ne _ _ (by first | decide | omega)).trans (va_up_self _ _ _)) | exact (va_up_ne _ _ (by first | decide | omega)).trans ((va_up_ne _ _ (by first | decide | omega)).trans ((va_up_ne _ _ (by first | decide | omega)).trans (by assumption))) | exact (va_up_ne _ _ (by first | decide | omega)).trans ((va_up_ne _ _ (by first | decide | omega)).trans ((va_up_ne _ _ (by first | decide | omega)).trans ((va_up_ne _ _ (by first | decide | omega)).trans (by assumption)))) | exact rfl) (by decide) ((IX_nI (by omega) (by omega))) (hfp' r i (by omega) (by omega)) ?_
                    refine g_isub (pc' := 114) dX0_layGround_113 ?_
                    refine g_iload_n (pc' := 115) dX0_layGround_114 rfl rfl ?_
                    refine g_iconst (pc' := 116) (v := nI 1) dX0_layGround_115 (by decide) ?_
                    first | refine g_iaddN (pc' := 117) dX0_layGround_116 ?_ | refine g_iadd (pc' := 117) dX0_layGround_116 ?_
                    refine gc_V 120 24 [.int (nI (s ||| 2 ^ r)), .int (x - nI (P r (nh S (D - 1) + i))), .int (nI (d + 1))] [] cw_X0_48 im_X0_ofSheet se_X0_ofSheet dX0_layGround_117 (by first | decide | (dsimp only [rmD]; omega)) (by first | decide | (dsimp only [rmD]; omega)) (Nat.le_refl _) (Nat.le_refl _) (Nat.le_of_ble_eq_true rfl) rfl (Nat.le_of_ble_eq_true rfl) (by omega) (by first | assumption | exact va_up_self _ _ _ | exact (va_up_ne _ _ (by first | decide | omega)).trans (by assumption) | exact (va_up_ne _ _ (by first | decide | omega)).trans (va_up_self _ _ _) | exact (va_up_ne _ _ (by first | decide | omega)).trans ((va_up_ne _ _ (by first | decide | omega)).trans (by assumption)) | exact (va_up_ne _ _ (by first | decide | omega)).trans ((va_up_ne _ _ (by first | decide | omega)).trans (va_up_self _ _ _)) | exact (va_up_ne _ _ (by first | decide | omega)).trans ((va_up_ne _ _ (by first | decide | omega)).trans ((va_up_ne _ _ (by first | decide | omega)).trans (by assumption))) | exact (va_up_ne _ _ (by first | decide | omega)).trans ((va_up_ne _ _ (by first | decide | omega)).trans ((va_up_ne _ _ (by first | decide | omega)).trans ((va_up_ne _ _ (by first | decide | omega)).trans (by assumption)))) | exact rfl) rfl rfl (IH (s ||| 2 ^ r) (d + 1) _ hp1 _ A1 C1 hor (by omega) (by omega) (by rw [eo, hxs]; omega) (fun hp2 C2 F2 G2 => ⟨rfl, ?_⟩))
                    rw [hxc]
                    obtain ⟨fa, fb, g1, g2, g3⟩ := id G2
                    have efa : f = fa := aJ_inj (e28.symm.trans g1)
                    subst efa
                    have ewd : (d + 1) * wh S D = d * wh S D + wh S D := Nat.succ_mul _ _
                    obtain ⟨c24'', -⟩ := id C2
                    have ev : fb (d * wh S D + i) = lN (mxF (gf (nh S (D - 1) + i)) r) := by
                      rw [g3 _ (by omega)]
                      exact h3 i (Nat.le_refl _) (by omega)
                    show G yX0_layGround cX0_layGround 11 none (rmD (2*o+5)) none Q 0 0 120 [.ref 24, .int (nI s), .int x, .int (nI d), .int (nI (wh S D)), .int (nI (d * wh S D)), .int (nI r), .int (nI (s ||| 2 ^ r)), .int (nI i), w9, uu] [.long (lN (chN D S T R P (s ||| 2 ^ r) (x.toNatClampNeg - P r (nh S (D - 1) + i))))] hp2 n
                    refine g_lstore (pc' := 122) dX0_layGround_120 (by decide) ?_
                    refine g_aload_n (pc' := 123) dX0_layGround_122 rfl rfl ?_
                    refine g_get (pc' := 126) fl_X0_21 dX0_layGround_123 (by omega) (by first | assumption | exact va_up_self _ _ _ | exact (va_up_ne _ _ (by first | decide | omega)).trans (by assumption) | exact (va_up_ne _ _ (by first | decide | omega)).trans (va_up_self _ _ _) | exact (va_up_ne _ _ (by first | decide | omega)).trans ((va_up_ne _ _ (by first | decide | omega)).trans (by assumption)) | exact (va_up_ne _ _ (by first | decide | omega)).trans ((va_up_ne _ _ (by first | decide | omega)).trans (va_up_self _ _ _)) | exact (va_up_ne _ _ (by first | decide | omega)).trans ((va_up_ne _ _ (by first | decide | omega)).trans ((va_up_ne _ _ (by first | decide | omega)).trans (by assumption))) | exact (va_up_ne _ _ (by first | decide | omega)).trans ((va_up_ne _ _ (by first | decide | omega)).trans ((va_up_ne _ _ (by first | decide | omega)).trans ((va_up_ne _ _ (by first | decide | omega)).trans (by assumption)))) | exact rfl) (by first | assumption | rfl | exact (List.getElem?_set_ne (by decide)).trans (by assumption) | exact List.getElem?_set_self (by omega)) ?_
                    refine g_iload (pc' := 128) dX0_layGround_126 rfl ?_
                    refine g_iload (pc' := 130) dX0_layGround_128 rfl ?_
                    first | refine g_iaddN (pc' := 131) dX0_layGround_130 ?_ | refine g_iadd (pc' := 131) dX0_layGround_130 ?_
                    refine g_aload_n (pc' := 132) dX0_layGround_131 rfl rfl ?_
                    refine g_get (pc' := 135) fl_X0_21 dX0_layGround_132 (by omega) (by first | assumption | exact va_up_self _ _ _ | exact (va_up_ne _ _ (by first | decide | omega)).trans (by assumption) | exact (va_up_ne _ _ (by first | decide | omega)).trans (va_up_self _ _ _) | exact (va_up_ne _ _ (by first | decide | omega)).trans ((va_up_ne _ _ (by first | decide | omega)).trans (by assumption)) | exact (va_up_ne _ _ (by first | decide | omega)).trans ((va_up_ne _ _ (by first | decide | omega)).trans (va_up_self _ _ _)) | exact (va_up_ne _ _ (by first | decide | omega)).trans ((va_up_ne _ _ (by first | decide | omega)).trans ((va_up_ne _ _ (by first | decide | omega)).trans (by assumption))) | exact (va_up_ne _ _ (by first | decide | omega)).trans ((va_up_ne _ _ (by first | decide | omega)).trans ((va_up_ne _ _ (by first | decide | omega)).trans ((va_up_ne _ _ (by first | decide | omega)).trans (by assumption)))) | exact rfl) (by first | assumption | rfl | exact (List.getElem?_set_ne (by decide)).trans (by assumption) | exact List.getElem?_set_self (by omega)) ?_
                    refine g_iload (pc' := 137) dX0_layGround_135 rfl ?_
                    refine g_iload (pc' := 139) dX0_layGround_137 rfl ?_
                    first | refine g_iaddN (pc' := 140) dX0_layGround_139 ?_ | refine g_iadd (pc' := 140) dX0_layGround_139 ?_
                    refine g_laldV (pc' := 141) dX0_layGround_140 (by omega) (by first | assumption | exact va_up_self _ _ _ | exact (va_up_ne _ _ (by first | decide | omega)).trans (by assumption) | exact (va_up_ne _ _ (by first | decide | omega)).trans (va_up_self _ _ _) | exact (va_up_ne _ _ (by first | decide | omega)).trans ((va_up_ne _ _ (by first | decide | omega)).trans (by assumption)) | exact (va_up_ne _ _ (by first | decide | omega)).trans ((va_up_ne _ _ (by first | decide | omega)).trans (va_up_self _ _ _)) | exact (va_up_ne _ _ (by first | decide | omega)).trans ((va_up_ne _ _ (by first | decide | omega)).trans ((va_up_ne _ _ (by first | decide | omega)).trans (by assumption))) | exact (va_up_ne _ _ (by first | decide | omega)).trans ((va_up_ne _ _ (by first | decide | omega)).trans ((va_up_ne _ _ (by first | decide | omega)).trans ((va_up_ne _ _ (by first | decide | omega)).trans (by assumption)))) | exact rfl) ((IX_nI (by omega) (by omega))) (ev) ?_
                    refine g_lload (pc' := 143) dX0_layGround_141 rfl ?_
                    refine g_lmaxN (pc' := 146) mm_X0_125 dX0_layGround_143 (by dsimp only [rmD]; omega) (by show 2 + 15 ≤ 60 * (2 * o + 5); omega) (Nat.le_refl _) (Nat.le_refl _) b1 b4 ?_
                    rw [← emx]
                    refine g_last (pc' := 147) dX0_layGround_146 (by omega) (by first | assumption | exact va_up_self _ _ _ | exact (va_up_ne _ _ (by first | decide | omega)).trans (by assumption) | exact (va_up_ne _ _ (by first | decide | omega)).trans (va_up_self _ _ _) | exact (va_up_ne _ _ (by first | decide | omega)).trans ((va_up_ne _ _ (by first | decide | omega)).trans (by assumption)) | exact (va_up_ne _ _ (by first | decide | omega)).trans ((va_up_ne _ _ (by first | decide | omega)).trans (va_up_self _ _ _)) | exact (va_up_ne _ _ (by first | decide | omega)).trans ((va_up_ne _ _ (by first | decide | omega)).trans ((va_up_ne _ _ (by first | decide | omega)).trans (by assumption))) | exact (va_up_ne _ _ (by first | decide | omega)).trans ((va_up_ne _ _ (by first | decide | omega)).trans ((va_up_ne _ _ (by first | decide | omega)).trans ((va_up_ne _ _ (by first | decide | omega)).trans (by assumption)))) | exact rfl) ((IX_nI (by omega) (by omega))) ?_
                    first | refine g_iincN (z := 1) (pc' := 150) dX0_layGround_147 rfl rfl (by decide) ?_ | refine g_iinc (pc' := 150) dX0_layGround_147 rfl rfl (by decide) ?_
                    refine g_goto (tgt := 84) dX0_layGround_150 (by decide) ?_
                    refine ih2 (i + 1) _ _ (by omega) (CH_28 hkk C2 _) ((F1.tr F2).tr (FC.up (by omega))) (G1.tr ((GRd.le (by omega) G2).tr ⟨fb, _, g2, va_up_self _ _ _, fun j hj => pk_uLn (by omega)⟩)) (va_up_self _ _ _) (fun j hj => ?_) (fun j q1 q2 => ?_) _
                    · by_cases e : j = i
                      · rw [e, pk_uLs]
                      · rw [pk_uLn (by omega), g3 _ (by omega)]; exact h1 j (by omega)
                    · rw [pk_uLn (by omega), g3 _ (by omega)]; exact h3 j (by omega) q2
              exact g_fg (by repeat (first | exact trivial | refine ⟨Or.inr rfl, ?_⟩ | refine ⟨Or.inl rfl, ?_⟩)) (inner (wh S D) 0 hp1 f (by omega) C1 F1 G1 e28 (fun j q => absurd q (Nat.not_lt_zero j)) (fun j _ q => hf j q) uu)
    exact outer R 0 _ f0 (by omega) (CH_28 hkk C f0) (FC.up (by omega)) ⟨fg, f0, c28, va_up_self _ _ _, fun i hi => hf1 i (by omega)⟩ (va_up_self _ _ _) (fun i hi => hf0 _ (by omega) (by omega))
  · omega
