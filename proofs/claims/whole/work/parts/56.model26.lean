/-! chance: the pure function; wants, findChanceTurn -/
/-- the ground of a chance: w is still needed -/
def grC (P : Nat → Nat → Nat) (C : Nat → Nat → Nat) (R s w h : Nat) : Nat := mxF (fun r => if bt0 s r then C (s ||| 2 ^ r) (w - P r h) else 0) R
/-- the chance with f free rows -/
def chF (D S T R : Nat) (P : Nat → Nat → Nat) : Nat → Nat → Nat → Nat
  | 0, _, w => if w = 0 then 1 else 0
  | f + 1, s, w => bf D S T (grC P (chF D S T R P f) R s w)
def chN (D S T R : Nat) (P : Nat → Nat → Nat) (s w : Nat) : Nat := chF D S T R P (opn s R) s w
/-- the ground of the chance of a sheet -/
def gc (D S T R : Nat) (P : Nat → Nat → Nat) (s w : Nat) : Nat → Nat := grC P (chN D S T R P) R s w
theorem grC_congr {P : Nat → Nat → Nat} {R s w h : Nat} {c1 c2 : Nat → Nat → Nat} (hc : ∀ r, r < R → bt0 s r = true → c1 (s ||| 2 ^ r) (w - P r h) = c2 (s ||| 2 ^ r) (w - P r h)) : grC P c1 R s w h = grC P c2 R s w h := by
  unfold grC
  apply mxF_congr
  intro r hr
  cases hb : bt0 s r with
  | false => rfl
  | true => simp only [if_true]; rw [hc r hr hb]
theorem ch_full {D S T R : Nat} {P : Nat → Nat → Nat} {s w : Nat} (h : opn s R = 0) : chN D S T R P s w = if w = 0 then 1 else 0 := by
  unfold chN
  rw [h]
  rfl
theorem ch_step {D S T R : Nat} {P : Nat → Nat → Nat} {s w : Nat} (h : 1 ≤ opn s R) : chN D S T R P s w = bf D S T (gc D S T R P s w) := by
  obtain ⟨f, hf⟩ : ∃ f, opn s R = f + 1 := ⟨opn s R - 1, by omega⟩
  unfold chN gc
  rw [hf]
  show bf D S T (grC P (chF D S T R P f) R s w) = _
  congr 1
  funext x
  apply grC_congr
  intro r hr hb
  have := opn_or hb hr
  unfold chN
  rw [show opn (s ||| 2 ^ r) R = f by omega]
theorem chF_le {S D T R : Nat} {P : Nat → Nat → Nat} (h2 : 2 ≤ S) (h6 : S ≤ 6) (hD : D ≤ 5) (hT : 1 ≤ T) : ∀ f s w, chF D S T R P f s w ≤ (S ^ D) ^ (T * f)
  | 0, _, w => by
    show (if w = 0 then 1 else 0) ≤ 1
    split <;> omega
  | f + 1, s, w => by
    have ih := chF_le (R := R) (P := P) h2 h6 hD hT f
    have hg : ∀ h, h < nh S D → sz S h = D → grC P (chF D S T R P f) R s w h ≤ (S ^ D) ^ (T * f) := fun h hh hz => by
      unfold grC
      apply mxF_le
      intro r hr
      split
      · exact ih _ _
      · exact Nat.zero_le _
    have h1 := bf_le h2 h6 hD hT hg
    rw [← Nat.pow_add, show T * f + T = T * (f + 1) by rw [Nat.mul_add, Nat.mul_one]] at h1
    exact h1
theorem gc_le {S D T R : Nat} {P : Nat → Nat → Nat} (h2 : 2 ≤ S) (h6 : S ≤ 6) (hD : D ≤ 5) (hT : 1 ≤ T) {s w : Nat} (hs : 1 ≤ opn s R) : ∀ h, h < nh S D → sz S h = D → gc D S T R P s w h ≤ (S ^ D) ^ (T * (opn s R - 1)) := fun h hh hz => by
  unfold gc grC
  apply mxF_le
  intro r hr
  cases hb : bt0 s r with
  | false => exact Nat.zero_le _
  | true =>
    simp only [if_true]
    have := opn_or hb hr
    have h3 := chF_le (R := R) (P := P) h2 h6 hD hT (opn (s ||| 2 ^ r) R) (s ||| 2 ^ r) (w - P r h)
    rw [show opn (s ||| 2 ^ r) R = opn s R - 1 by omega] at h3
    unfold chN
    rw [show opn (s ||| 2 ^ r) R = opn s R - 1 by omega]
    exact h3
theorem gc_room {S D T R : Nat} (hT : 1 ≤ T) (hS : 1 ≤ S) (hL : (S ^ D) ^ (T * R) ≤ 1000000000000000) {s : Nat} (hs : 1 ≤ opn s R) : (S ^ D) ^ (T * (opn s R - 1)) * (S ^ D) ^ T < 2 ^ 63 := by
  have ho := opn_le s R
  rw [← Nat.pow_add, show T * (opn s R - 1) + T = T * opn s R by
    obtain ⟨f, hf⟩ : ∃ f, opn s R = f + 1 := ⟨opn s R - 1, by omega⟩
    rw [hf, Nat.add_sub_cancel, Nat.mul_add, Nat.mul_one]]
  have h1 : (S ^ D) ^ (T * opn s R) ≤ (S ^ D) ^ (T * R) := Nat.pow_le_pow_right (pw_pos hS D) (Nat.mul_le_mul_left T ho)
  omega
theorem sub_neg {w p : Nat} (hw : w < 2 ^ 30) (hp : p < 2 ^ 30) : (0 : Int32) ≤ nI w - nI p ↔ p ≤ w := by
  rw [Int32.le_iff_toInt_le, pk_sub_toInt (by omega) (by omega)]
  have : (0 : Int32).toInt = 0 := by decide
  omega
theorem c_wants {hp : AH} {n s w p : Nat} {Q : Option Value → AH → Nat → Prop} (hw : w < 2 ^ 30) (hp9 : p < 2 ^ 30) (hq : Q (some (.int (nI (501 * s + (w - p))))) hp n) : CT yX8_wants cX8_wants 3 (some .int) (rmD 0) [.ref 47, .int (nI s), .int (nI w - nI p)] hp n Q := by
  show G yX8_wants cX8_wants 3 (some .int) (rmD 0) none Q 0 0 0 [.ref 47, .int (nI s), .int (nI w - nI p)] [] hp n
  refine g_sipush (pc' := 3) (v := nI 501) dX8_wants_0 (by decide) ?_
  refine g_iload_n (pc' := 4) dX8_wants_3 rfl rfl ?_
  first | refine g_imulN (pc' := 5) dX8_wants_4 ?_ | refine g_imul (pc' := 5) dX8_wants_4 ?_
  refine g_iload_n (pc' := 6) dX8_wants_5 rfl rfl ?_
  refine g_if_ge (tgt := 13) (pc' := 9) dX8_wants_6 (by decide) (fun h1 => ?_) (fun h1 => ?_)
  · rw [sub_neg hw hp9] at h1
    refine g_iload_n (pc' := 14) dX8_wants_13 rfl rfl ?_
    rw [pk_sub h1]
    first | refine g_iaddN (pc' := 15) dX8_wants_14 ?_ | refine g_iadd (pc' := 15) dX8_wants_14 ?_
    exact g_iret dX8_wants_15 rfl (Nat.le_refl _) (Nat.le_refl _) hq
  · rw [sub_neg hw hp9] at h1
    refine g_iconst (pc' := 10) (v := nI 0) dX8_wants_9 (by decide) ?_
    refine g_goto (tgt := 14) dX8_wants_10 (by decide) ?_
    first | refine g_iaddN (pc' := 15) dX8_wants_14 ?_ | refine g_iadd (pc' := 15) dX8_wants_14 ?_
    rw [show w - p = 0 by omega] at hq
    exact g_iret dX8_wants_15 rfl (Nat.le_refl _) (Nat.le_refl _) hq
theorem c_findChanceTurn {hp : AH} {n D S T R s w M : Nat} {fs : List Value} {fsh fz fm fpt : Nat → Int32} {fp fc fv ft : Nat → Int64} {P : Nat → Nat → Nat} {C : Nat → Nat → Nat} {Q : Option Value → AH → Nat → Prop} (hn : 64 ≤ n) (c47 : hp 47 = ob 8 fs) (F : MF fs D S T R) (h2 : 2 ≤ S) (h6 : S ≤ 6) (hD : D ≤ 5) (hT1 : 1 ≤ T) (hT3 : T ≤ 3) (hR : R ≤ 8) (hs : s < 256) (hw : w ≤ 500) (f8 : fs[8]? = some (.int (nI (nh S D)))) (c51 : hp 51 = aI 2772 fsh) (c52 : hp 52 = aI 462 fz) (c54 : hp 54 = aI 2772 fm) (c55 : hp 55 = aI 3696 fpt) (c57 : hp 57 = aJ 6 fp) (c59 : hp 59 = aJ 1386 fv) (c60 : hp 60 = aJ 462 ft) (c61 : hp 61 = aJ 128256 fc) (hsh : ∀ h k, h < nh S D → k < 6 → fsh (6 * h + k) = nI (sh S h k)) (hz : ∀ h, h < nh S D → fz h = nI (sz S h)) (hmo : ∀ h s, h < nh S D → sz S h < D → s < S → fm (6 * h + s) = nI (nx S h s)) (hpw : ∀ k, k < 6 → fp k = lN (S ^ k))
    (hpt : ∀ h r, h < nh S D → sz S h = D → r < R → fpt (8 * h + r) = nI (P r h)) (hP : ∀ h r, h < nh S D → sz S h = D → r < R → P r h < 2 ^ 30) (hc : ∀ h r, h < nh S D → sz S h = D → r < R → bt0 s r = true → fc (501 * (s ||| 2 ^ r) + (w - P r h)) = lN (C (s ||| 2 ^ r) (w - P r h))) (hM : ∀ h, h < nh S D → sz S h = D → grC P C R s w h ≤ M) (hB : M * (S ^ D) ^ T < 2 ^ 63)
    (hq : ∀ (fv' ft' : Nat → Int64), (∀ k h, k < T → h < nh S D → sz S h = D → fv' (462 * k + h) = lN (vl D S (grC P C R s w) k h)) → Q none (va_up (va_up hp 59 (aJ 1386 fv')) 60 (aJ 462 ft')) n) : CT yX8_findChanceTurn cX8_findChanceTurn 9 none (rmD 2) [.ref 47, .int (nI s), .int (nI w)] hp n Q := by
  have F' := F
  obtain ⟨f99, f0, f1, f2, f3, f4, f5, f6, f9, f10, f11, f12, f13, f16, f24, f25, f26, f27, f28, f29, f30⟩ := F'
  obtain ⟨hN, hN1⟩ := nh_le h2 h6 hD
  have hMb : M < 2 ^ 63 := by
    have := Nat.le_mul_of_pos_right M (pw_pos (pw_pos (show 1 ≤ S by omega) D) T)
    omega
  show G yX8_findChanceTurn cX8_findChanceTurn 9 none (rmD 2) none Q 0 0 0 [.ref 47, .int (nI s), .int (nI w), uu, uu, uu, uu, uu, uu] [] hp n
  rw [← up_id c59]
  refine g_iconst (pc' := 1) (v := nI 0) dX8_findChanceTurn_0 (by decide) ?_
  refine g_istore_n (pc' := 2) dX8_findChanceTurn_1 rfl (by decide) ?_
  have loop : ∀ k h fv, h + k = nh S D → (∀ h', h' < h → sz S h' = D → fv h' = lN (grC P C R s w h')) → G yX8_findChanceTurn cX8_findChanceTurn 9 none (rmD 2) none Q 0 0 2 [.ref 47, .int (nI s), .int (nI w), .int (nI h), uu, uu, uu, uu, uu] [] (va_up hp 59 (aJ 1386 fv)) n := by
    intro k
    induction k with
    | zero =>
      intro h fv hh hfv
      refine g_iload_n (pc' := 3) dX8_findChanceTurn_2 rfl rfl ?_
      refine g_aload_n (pc' := 4) dX8_findChanceTurn_3 rfl rfl ?_
      refine g_get (pc' := 7) fl_X8_71 dX8_findChanceTurn_4 (by omega) (by first | assumption | exact va_up_self _ _ _ | exact (va_up_ne _ _ (by decide)).trans (by assumption) | exact (va_up_ne _ _ (by decide)).trans (va_up_self _ _ _) | exact (va_up_ne _ _ (by decide)).trans ((va_up_ne _ _ (by decide)).trans (by assumption)) | exact (va_up_ne _ _ (by decide)).trans ((va_up_ne _ _ (by decide)).trans (va_up_self _ _ _)) | exact (va_up_ne _ _ (by decide)).trans ((va_up_ne _ _ (by decide)).trans ((va_up_ne _ _ (by decide)).trans (by assumption))) | exact (va_up_ne _ _ (by decide)).trans ((va_up_ne _ _ (by decide)).trans ((va_up_ne _ _ (by decide)).trans ((va_up_ne _ _ (by decide)).trans (by assumption)))) | exact rfl) (by first | assumption | rfl | exact (List.getElem?_set_ne (by decide)).trans (by assumption) | exact List.getElem?_set_self (by omega)) ?_
      refine g_icmp_geN (tgt := 119) (pc' := 10) dX8_findChanceTurn_7 (by decide) (by first | omega | decide) (by first | omega | decide) (fun h1 => ?_) (fun h1 => ?_)
      · refine g_aload_n (pc' := 120) dX8_findChanceTurn_119 rfl rfl ?_
        refine gc_V 123 47 [] [] cw_X8_124 im_X8_findTurn se_X8_findTurn dX8_findChanceTurn_120 (by decide) (by decide) (Nat.le_refl _) (Nat.le_refl _) (Nat.le_of_ble_eq_true rfl) rfl (Nat.le_of_ble_eq_true rfl) (by omega) (by first | assumption | exact va_up_self _ _ _ | exact (va_up_ne _ _ (by decide)).trans (by assumption) | exact (va_up_ne _ _ (by decide)).trans (va_up_self _ _ _) | exact (va_up_ne _ _ (by decide)).trans ((va_up_ne _ _ (by decide)).trans (by assumption)) | exact (va_up_ne _ _ (by decide)).trans ((va_up_ne _ _ (by decide)).trans (va_up_self _ _ _)) | exact (va_up_ne _ _ (by decide)).trans ((va_up_ne _ _ (by decide)).trans ((va_up_ne _ _ (by decide)).trans (by assumption))) | exact (va_up_ne _ _ (by decide)).trans ((va_up_ne _ _ (by decide)).trans ((va_up_ne _ _ (by decide)).trans ((va_up_ne _ _ (by decide)).trans (by assumption)))) | exact rfl) rfl rfl (c_findTurn (gr := grC P C R s w) (M := M) hn (by first | assumption | exact va_up_self _ _ _ | exact (va_up_ne _ _ (by decide)).trans (by assumption) | exact (va_up_ne _ _ (by decide)).trans (va_up_self _ _ _) | exact (va_up_ne _ _ (by decide)).trans ((va_up_ne _ _ (by decide)).trans (by assumption)) | exact (va_up_ne _ _ (by decide)).trans ((va_up_ne _ _ (by decide)).trans (va_up_self _ _ _)) | exact (va_up_ne _ _ (by decide)).trans ((va_up_ne _ _ (by decide)).trans ((va_up_ne _ _ (by decide)).trans (by assumption))) | exact (va_up_ne _ _ (by decide)).trans ((va_up_ne _ _ (by decide)).trans ((va_up_ne _ _ (by decide)).trans ((va_up_ne _ _ (by decide)).trans (by assumption)))) | exact rfl) F h2 h6 hD hT1 hT3 f8 (by first | assumption | exact va_up_self _ _ _ | exact (va_up_ne _ _ (by decide)).trans (by assumption) | exact (va_up_ne _ _ (by decide)).trans (va_up_self _ _ _) | exact (va_up_ne _ _ (by decide)).trans ((va_up_ne _ _ (by decide)).trans (by assumption)) | exact (va_up_ne _ _ (by decide)).trans ((va_up_ne _ _ (by decide)).trans (va_up_self _ _ _)) | exact (va_up_ne _ _ (by decide)).trans ((va_up_ne _ _ (by decide)).trans ((va_up_ne _ _ (by decide)).trans (by assumption))) | exact (va_up_ne _ _ (by decide)).trans ((va_up_ne _ _ (by decide)).trans ((va_up_ne _ _ (by decide)).trans ((va_up_ne _ _ (by decide)).trans (by assumption)))) | exact rfl) (by first | assumption | exact va_up_self _ _ _ | exact (va_up_ne _ _ (by decide)).trans (by assumption) | exact (va_up_ne _ _ (by decide)).trans (va_up_self _ _ _) | exact (va_up_ne _ _ (by decide)).trans ((va_up_ne _ _ (by decide)).trans (by assumption)) | exact (va_up_ne _ _ (by decide)).trans ((va_up_ne _ _ (by decide)).trans (va_up_self _ _ _)) | exact (va_up_ne _ _ (by decide)).trans ((va_up_ne _ _ (by decide)).trans ((va_up_ne _ _ (by decide)).trans (by assumption))) | exact (va_up_ne _ _ (by decide)).trans ((va_up_ne _ _ (by decide)).trans ((va_up_ne _ _ (by decide)).trans ((va_up_ne _ _ (by decide)).trans (by assumption)))) | exact rfl) (by first | assumption | exact va_up_self _ _ _ | exact (va_up_ne _ _ (by decide)).trans (by assumption) | exact (va_up_ne _ _ (by decide)).trans (va_up_self _ _ _) | exact (va_up_ne _ _ (by decide)).trans ((va_up_ne _ _ (by decide)).trans (by assumption)) | exact (va_up_ne _ _ (by decide)).trans ((va_up_ne _ _ (by decide)).trans (va_up_self _ _ _)) | exact (va_up_ne _ _ (by decide)).trans ((va_up_ne _ _ (by decide)).trans ((va_up_ne _ _ (by decide)).trans (by assumption))) | exact (va_up_ne _ _ (by decide)).trans ((va_up_ne _ _ (by decide)).trans ((va_up_ne _ _ (by decide)).trans ((va_up_ne _ _ (by decide)).trans (by assumption)))) | exact rfl) (by first | assumption | exact va_up_self _ _ _ | exact (va_up_ne _ _ (by decide)).trans (by assumption) | exact (va_up_ne _ _ (by decide)).trans (va_up_self _ _ _) | exact (va_up_ne _ _ (by decide)).trans ((va_up_ne _ _ (by decide)).trans (by assumption)) | exact (va_up_ne _ _ (by decide)).trans ((va_up_ne _ _ (by decide)).trans (va_up_self _ _ _)) | exact (va_up_ne _ _ (by decide)).trans ((va_up_ne _ _ (by decide)).trans ((va_up_ne _ _ (by decide)).trans (by assumption))) | exact (va_up_ne _ _ (by decide)).trans ((va_up_ne _ _ (by decide)).trans ((va_up_ne _ _ (by decide)).trans ((va_up_ne _ _ (by decide)).trans (by assumption)))) | exact rfl) (by first | assumption | exact va_up_self _ _ _ | exact (va_up_ne _ _ (by decide)).trans (by assumption) | exact (va_up_ne _ _ (by decide)).trans (va_up_self _ _ _) | exact (va_up_ne _ _ (by decide)).trans ((va_up_ne _ _ (by decide)).trans (by assumption)) | exact (va_up_ne _ _ (by decide)).trans ((va_up_ne _ _ (by decide)).trans (va_up_self _ _ _)) | exact (va_up_ne _ _ (by decide)).trans ((va_up_ne _ _ (by decide)).trans ((va_up_ne _ _ (by decide)).trans (by assumption))) | exact (va_up_ne _ _ (by decide)).trans ((va_up_ne _ _ (by decide)).trans ((va_up_ne _ _ (by decide)).trans ((va_up_ne _ _ (by decide)).trans (by assumption)))) | exact rfl) (by first | assumption | exact va_up_self _ _ _ | exact (va_up_ne _ _ (by decide)).trans (by assumption) | exact (va_up_ne _ _ (by decide)).trans (va_up_self _ _ _) | exact (va_up_ne _ _ (by decide)).trans ((va_up_ne _ _ (by decide)).trans (by assumption)) | exact (va_up_ne _ _ (by decide)).trans ((va_up_ne _ _ (by decide)).trans (va_up_self _ _ _)) | exact (va_up_ne _ _ (by decide)).trans ((va_up_ne _ _ (by decide)).trans ((va_up_ne _ _ (by decide)).trans (by assumption))) | exact (va_up_ne _ _ (by decide)).trans ((va_up_ne _ _ (by decide)).trans ((va_up_ne _ _ (by decide)).trans ((va_up_ne _ _ (by decide)).trans (by assumption)))) | exact rfl) hsh hz hmo hpw (fun h' hh' hz' => hfv h' (by omega) hz') hM hB (fun fv' ft' hf => ⟨rfl, ?_⟩))
        rw [up_up]
        exact g_vret dX8_findChanceTurn_123 rfl (Nat.le_refl _) (Nat.le_refl _) (hq fv' ft' hf)
      · omega
    | succ k ih =>
      intro h fv hh hfv
      have zl := sz_le S h
      refine g_iload_n (pc' := 3) dX8_findChanceTurn_2 rfl rfl ?_
      refine g_aload_n (pc' := 4) dX8_findChanceTurn_3 rfl rfl ?_
      refine g_get (pc' := 7) fl_X8_71 dX8_findChanceTurn_4 (by omega) (by first | assumption | exact va_up_self _ _ _ | exact (va_up_ne _ _ (by decide)).trans (by assumption) | exact (va_up_ne _ _ (by decide)).trans (va_up_self _ _ _) | exact (va_up_ne _ _ (by decide)).trans ((va_up_ne _ _ (by decide)).trans (by assumption)) | exact (va_up_ne _ _ (by decide)).trans ((va_up_ne _ _ (by decide)).trans (va_up_self _ _ _)) | exact (va_up_ne _ _ (by decide)).trans ((va_up_ne _ _ (by decide)).trans ((va_up_ne _ _ (by decide)).trans (by assumption))) | exact (va_up_ne _ _ (by decide)).trans ((va_up_ne _ _ (by decide)).trans ((va_up_ne _ _ (by decide)).trans ((va_up_ne _ _ (by decide)).trans (by assumption)))) | exact rfl) (by first | assumption | rfl | exact (List.getElem?_set_ne (by decide)).trans (by assumption) | exact List.getElem?_set_self (by omega)) ?_
      refine g_icmp_geN (tgt := 119) (pc' := 10) dX8_findChanceTurn_7 (by decide) (by first | omega | decide) (by first | omega | decide) (fun h1 => ?_) (fun h1 => ?_)
      · omega
      · refine g_aload_n (pc' := 11) dX8_findChanceTurn_10 rfl rfl ?_
        refine g_get (pc' := 14) fl_X8_32 dX8_findChanceTurn_11 (by omega) (by first | assumption | exact va_up_self _ _ _ | exact (va_up_ne _ _ (by decide)).trans (by assumption) | exact (va_up_ne _ _ (by decide)).trans (va_up_self _ _ _) | exact (va_up_ne _ _ (by decide)).trans ((va_up_ne _ _ (by decide)).trans (by assumption)) | exact (va_up_ne _ _ (by decide)).trans ((va_up_ne _ _ (by decide)).trans (va_up_self _ _ _)) | exact (va_up_ne _ _ (by decide)).trans ((va_up_ne _ _ (by decide)).trans ((va_up_ne _ _ (by decide)).trans (by assumption))) | exact (va_up_ne _ _ (by decide)).trans ((va_up_ne _ _ (by decide)).trans ((va_up_ne _ _ (by decide)).trans ((va_up_ne _ _ (by decide)).trans (by assumption)))) | exact rfl) (by first | assumption | rfl | exact (List.getElem?_set_ne (by decide)).trans (by assumption) | exact List.getElem?_set_self (by omega)) ?_
        refine g_iload_n (pc' := 15) dX8_findChanceTurn_14 rfl rfl ?_
        refine g_ialdV (pc' := 16) dX8_findChanceTurn_15 (by omega) (by first | assumption | exact va_up_self _ _ _ | exact (va_up_ne _ _ (by decide)).trans (by assumption) | exact (va_up_ne _ _ (by decide)).trans (va_up_self _ _ _) | exact (va_up_ne _ _ (by decide)).trans ((va_up_ne _ _ (by decide)).trans (by assumption)) | exact (va_up_ne _ _ (by decide)).trans ((va_up_ne _ _ (by decide)).trans (va_up_self _ _ _)) | exact (va_up_ne _ _ (by decide)).trans ((va_up_ne _ _ (by decide)).trans ((va_up_ne _ _ (by decide)).trans (by assumption))) | exact (va_up_ne _ _ (by decide)).trans ((va_up_ne _ _ (by decide)).trans ((va_up_ne _ _ (by decide)).trans ((va_up_ne _ _ (by decide)).trans (by assumption)))) | exact rfl) ((IX_nI (by omega) (by omega))) (hz _ (by omega)) ?_
        refine g_aload_n (pc' := 17) dX8_findChanceTurn_16 rfl rfl ?_
        refine g_get (pc' := 20) fl_X8_7 dX8_findChanceTurn_17 (by omega) (by first | assumption | exact va_up_self _ _ _ | exact (va_up_ne _ _ (by decide)).trans (by assumption) | exact (va_up_ne _ _ (by decide)).trans (va_up_self _ _ _) | exact (va_up_ne _ _ (by decide)).trans ((va_up_ne _ _ (by decide)).trans (by assumption)) | exact (va_up_ne _ _ (by decide)).trans ((va_up_ne _ _ (by decide)).trans (va_up_self _ _ _)) | exact (va_up_ne _ _ (by decide)).trans ((va_up_ne _ _ (by decide)).trans ((va_up_ne _ _ (by decide)).trans (by assumption))) | exact (va_up_ne _ _ (by decide)).trans ((va_up_ne _ _ (by decide)).trans ((va_up_ne _ _ (by decide)).trans ((va_up_ne _ _ (by decide)).trans (by assumption)))) | exact rfl) (by first | assumption | rfl | exact (List.getElem?_set_ne (by decide)).trans (by assumption) | exact List.getElem?_set_self (by omega)) ?_
        refine g_icmp_neN (tgt := 113) (pc' := 23) dX8_findChanceTurn_20 (by decide) (by first | omega | decide) (by first | omega | decide) (fun h3 => ?_) (fun h3 => ?_)
        · first | refine g_iincN (z := 1) (pc' := 116) dX8_findChanceTurn_113 rfl rfl (by decide) ?_ | refine g_iinc (pc' := 116) dX8_findChanceTurn_113 rfl rfl (by decide) ?_
          refine g_goto (tgt := 2) dX8_findChanceTurn_116 (by decide) ?_
          refine ih (h + 1) fv (by omega) (fun h' q hz' => ?_)
          rcases Nat.lt_or_ge h' h with q2 | q2
          · exact hfv h' q2 hz'
          · have e : h' = h := by omega
            subst e
            exact absurd hz' h3
        · have hMh : ∀ r, r ≤ R → mxF (fun r => if bt0 s r then C (s ||| 2 ^ r) (w - P r h) else 0) r ≤ M := fun r hr => by
            have h9 := hM h (by omega) h3
            unfold grC at h9
            refine mxF_le (fun i hi => ?_)
            have := mxF_ge (f := fun r => if bt0 s r then C (s ||| 2 ^ r) (w - P r h) else 0) (show i < R by omega)
            omega
          refine g_lconst (pc' := 24) (v := lN 0) dX8_findChanceTurn_23 (by decide) ?_
          refine g_lstore (pc' := 26) dX8_findChanceTurn_24 (by decide) ?_
          refine g_iconst (pc' := 27) (v := nI 0) dX8_findChanceTurn_26 (by decide) ?_
          refine g_istore (pc' := 29) dX8_findChanceTurn_27 (by decide) ?_
          have inner : ∀ j r, r + j = R → G yX8_findChanceTurn cX8_findChanceTurn 9 none (rmD 2) none Q 0 0 29 [.ref 47, .int (nI s), .int (nI w), .int (nI h), .long (lN (mxF (fun r => if bt0 s r then C (s ||| 2 ^ r) (w - P r h) else 0) r)), uu, .int (nI r), uu, uu] [] (va_up hp 59 (aJ 1386 fv)) n := by
            intro j
            induction j with
            | zero =>
              intro r hr
              have er : r = R := by omega
              subst er
              refine g_iload (pc' := 31) dX8_findChanceTurn_29 rfl ?_
              refine g_aload_n (pc' := 32) dX8_findChanceTurn_31 rfl rfl ?_
              refine g_get (pc' := 35) fl_X8_86 dX8_findChanceTurn_32 (by omega) (by first | assumption | exact va_up_self _ _ _ | exact (va_up_ne _ _ (by decide)).trans (by assumption) | exact (va_up_ne _ _ (by decide)).trans (va_up_self _ _ _) | exact (va_up_ne _ _ (by decide)).trans ((va_up_ne _ _ (by decide)).trans (by assumption)) | exact (va_up_ne _ _ (by decide)).trans ((va_up_ne _ _ (by decide)).trans (va_up_self _ _ _)) | exact (va_up_ne _ _ (by decide)).trans ((va_up_ne _ _ (by decide)).trans ((va_up_ne _ _ (by decide)).trans (by assumption))) | exact (va_up_ne _ _ (by decide)).trans ((va_up_ne _ _ (by decide)).trans ((va_up_ne _ _ (by decide)).trans ((va_up_ne _ _ (by decide)).trans (by assumption)))) | exact rfl) (by first | assumption | rfl | exact (List.getElem?_set_ne (by decide)).trans (by assumption) | exact List.getElem?_set_self (by omega)) ?_
              refine g_icmp_geN (tgt := 105) (pc' := 38) dX8_findChanceTurn_35 (by decide) (by first | omega | decide) (by first | omega | decide) (fun h4 => ?_) (fun h4 => ?_)
              · refine g_aload_n (pc' := 106) dX8_findChanceTurn_105 rfl rfl ?_
                refine g_get (pc' := 109) fl_X8_54 dX8_findChanceTurn_106 (by omega) (by first | assumption | exact va_up_self _ _ _ | exact (va_up_ne _ _ (by decide)).trans (by assumption) | exact (va_up_ne _ _ (by decide)).trans (va_up_self _ _ _) | exact (va_up_ne _ _ (by decide)).trans ((va_up_ne _ _ (by decide)).trans (by assumption)) | exact (va_up_ne _ _ (by decide)).trans ((va_up_ne _ _ (by decide)).trans (va_up_self _ _ _)) | exact (va_up_ne _ _ (by decide)).trans ((va_up_ne _ _ (by decide)).trans ((va_up_ne _ _ (by decide)).trans (by assumption))) | exact (va_up_ne _ _ (by decide)).trans ((va_up_ne _ _ (by decide)).trans ((va_up_ne _ _ (by decide)).trans ((va_up_ne _ _ (by decide)).trans (by assumption)))) | exact rfl) (by first | assumption | rfl | exact (List.getElem?_set_ne (by decide)).trans (by assumption) | exact List.getElem?_set_self (by omega)) ?_
                refine g_iload_n (pc' := 110) dX8_findChanceTurn_109 rfl rfl ?_
                refine g_lload (pc' := 112) dX8_findChanceTurn_110 rfl ?_
                refine g_last (pc' := 113) dX8_findChanceTurn_112 (by omega) (by first | assumption | exact va_up_self _ _ _ | exact (va_up_ne _ _ (by decide)).trans (by assumption) | exact (va_up_ne _ _ (by decide)).trans (va_up_self _ _ _) | exact (va_up_ne _ _ (by decide)).trans ((va_up_ne _ _ (by decide)).trans (by assumption)) | exact (va_up_ne _ _ (by decide)).trans ((va_up_ne _ _ (by decide)).trans (va_up_self _ _ _)) | exact (va_up_ne _ _ (by decide)).trans ((va_up_ne _ _ (by decide)).trans ((va_up_ne _ _ (by decide)).trans (by assumption))) | exact (va_up_ne _ _ (by decide)).trans ((va_up_ne _ _ (by decide)).trans ((va_up_ne _ _ (by decide)).trans ((va_up_ne _ _ (by decide)).trans (by assumption)))) | exact rfl) ((IX_nI (by omega) (by omega))) ?_
                rw [up_up]
                first | refine g_iincN (z := 1) (pc' := 116) dX8_findChanceTurn_113 rfl rfl (by decide) ?_ | refine g_iinc (pc' := 116) dX8_findChanceTurn_113 rfl rfl (by decide) ?_
                refine g_goto (tgt := 2) dX8_findChanceTurn_116 (by decide) ?_
                refine g_fg (by repeat (first | exact trivial | refine ⟨Or.inr rfl, ?_⟩ | refine ⟨Or.inl rfl, ?_⟩)) (ih (h + 1) _ (by omega) (fun h' q hz' => ?_))
                rcases Nat.lt_or_ge h' h with q2 | q2
                · rw [pk_uLn (by omega)]; exact hfv h' q2 hz'
                · have e : h' = h := by omega
                  subst e
                  rw [pk_uLs]; rfl
              · omega
            | succ j ih2 =>
              intro r hr
              have hm1 := hMh r (by omega)
              have hm2 := hMh (r + 1) (by omega)
              have hm3 : mxF (fun r => if bt0 s r then C (s ||| 2 ^ r) (w - P r h) else 0) (r + 1) = max (mxF (fun r => if bt0 s r then C (s ||| 2 ^ r) (w - P r h) else 0) r) (if bt0 s r then C (s ||| 2 ^ r) (w - P r h) else 0) := rfl
              have nxt := ih2 (r + 1) (by omega)
              rw [hm3] at nxt hm2
              have fin : ∀ v, (if bt0 s r then C (s ||| 2 ^ r) (w - P r h) else 0) = v → G yX8_findChanceTurn cX8_findChanceTurn 9 none (rmD 2) none Q 0 0 80 [.ref 47, .int (nI s), .int (nI w), .int (nI h), .long (lN (mxF (fun r => if bt0 s r then C (s ||| 2 ^ r) (w - P r h) else 0) r)), uu, .int (nI r), uu, uu] [.long (lN v)] (va_up hp 59 (aJ 1386 fv)) n := by
                intro v hv
                rw [hv] at nxt hm2
                refine g_lstore (pc' := 82) dX8_findChanceTurn_80 (by decide) ?_
                refine g_lload (pc' := 84) dX8_findChanceTurn_82 rfl ?_
                refine g_lload (pc' := 86) dX8_findChanceTurn_84 rfl ?_
                refine g_lcmp (pc' := 87) dX8_findChanceTurn_86 ?_
                refine g_if_le (tgt := 95) (pc' := 90) dX8_findChanceTurn_87 (by decide) (fun h7 => ?_) (fun h7 => ?_)
                · rw [lg_le (by omega) (by omega)] at h7
                  refine g_lload (pc' := 97) dX8_findChanceTurn_95 rfl ?_
                  refine g_lstore (pc' := 99) dX8_findChanceTurn_97 (by decide) ?_
                  first | refine g_iincN (z := 1) (pc' := 102) dX8_findChanceTurn_99 rfl rfl (by decide) ?_ | refine g_iinc (pc' := 102) dX8_findChanceTurn_99 rfl rfl (by decide) ?_
                  refine g_goto (tgt := 29) dX8_findChanceTurn_102 (by decide) ?_
                  rw [Nat.max_eq_left h7] at nxt
                  exact g_fg (by repeat (first | exact trivial | refine ⟨Or.inr rfl, ?_⟩ | refine ⟨Or.inl rfl, ?_⟩)) nxt
                · rw [lg_le (by omega) (by omega)] at h7
                  refine g_lload (pc' := 92) dX8_findChanceTurn_90 rfl ?_
                  refine g_goto (tgt := 97) dX8_findChanceTurn_92 (by decide) ?_
                  refine g_lstore (pc' := 99) dX8_findChanceTurn_97 (by decide) ?_
                  first | refine g_iincN (z := 1) (pc' := 102) dX8_findChanceTurn_99 rfl rfl (by decide) ?_ | refine g_iinc (pc' := 102) dX8_findChanceTurn_99 rfl rfl (by decide) ?_
                  refine g_goto (tgt := 29) dX8_findChanceTurn_102 (by decide) ?_
                  rw [Nat.max_eq_right (by omega)] at nxt
                  exact g_fg (by repeat (first | exact trivial | refine ⟨Or.inr rfl, ?_⟩ | refine ⟨Or.inl rfl, ?_⟩)) nxt
              have hP9 := hP h r (by omega) h3 (by omega)
              have hb9 : s / 2 ^ r % 2 < 2 := Nat.mod_lt _ (by decide)
              have h2r : 2 ^ r ≤ 2 ^ 7 := Nat.pow_le_pow_right (by decide) (by omega)
              have hor : s ||| 2 ^ r < 2 ^ 8 := Nat.or_lt_two_pow (by omega) (by omega)
              refine g_iload (pc' := 31) dX8_findChanceTurn_29 rfl ?_
              refine g_aload_n (pc' := 32) dX8_findChanceTurn_31 rfl rfl ?_
              refine g_get (pc' := 35) fl_X8_86 dX8_findChanceTurn_32 (by omega) (by first | assumption | exact va_up_self _ _ _ | exact (va_up_ne _ _ (by decide)).trans (by assumption) | exact (va_up_ne _ _ (by decide)).trans (va_up_self _ _ _) | exact (va_up_ne _ _ (by decide)).trans ((va_up_ne _ _ (by decide)).trans (by assumption)) | exact (va_up_ne _ _ (by decide)).trans ((va_up_ne _ _ (by decide)).trans (va_up_self _ _ _)) | exact (va_up_ne _ _ (by decide)).trans ((va_up_ne _ _ (by decide)).trans ((va_up_ne _ _ (by decide)).trans (by assumption))) | exact (va_up_ne _ _ (by decide)).trans ((va_up_ne _ _ (by decide)).trans ((va_up_ne _ _ (by decide)).trans ((va_up_ne _ _ (by decide)).trans (by assumption)))) | exact rfl) (by first | assumption | rfl | exact (List.getElem?_set_ne (by decide)).trans (by assumption) | exact List.getElem?_set_self (by omega)) ?_
              refine g_icmp_geN (tgt := 105) (pc' := 38) dX8_findChanceTurn_35 (by decide) (by first | omega | decide) (by first | omega | decide) (fun h4 => ?_) (fun h4 => ?_)
              · omega
              · refine g_iload_n (pc' := 39) dX8_findChanceTurn_38 rfl rfl ?_
                refine g_iload (pc' := 41) dX8_findChanceTurn_39 rfl ?_
                refine g_ishr (pc' := 42) dX8_findChanceTurn_41 ?_
                refine g_iconst (pc' := 43) (v := nI 1) dX8_findChanceTurn_42 (by decide) ?_
                refine g_iand (pc' := 44) dX8_findChanceTurn_43 ?_
                rw [sh_b (by omega) (by omega)]
                refine g_if_neN (tgt := 79) (pc' := 47) dX8_findChanceTurn_44 (by decide) (by first | omega | decide) (fun h5 => ?_) (fun h5 => ?_)
                · refine g_lconst (pc' := 80) (v := lN 0) dX8_findChanceTurn_79 (by decide) ?_
                  have hb : bt0 s r = false := by unfold bt0; simpa using h5
                  exact fin 0 (by rw [hb]; rfl)
                · have hb : bt0 s r = true := by unfold bt0; simpa using h5
                  refine g_aload_n (pc' := 48) dX8_findChanceTurn_47 rfl rfl ?_
                  refine g_get (pc' := 51) fl_X8_61 dX8_findChanceTurn_48 (by omega) (by first | assumption | exact va_up_self _ _ _ | exact (va_up_ne _ _ (by decide)).trans (by assumption) | exact (va_up_ne _ _ (by decide)).trans (va_up_self _ _ _) | exact (va_up_ne _ _ (by decide)).trans ((va_up_ne _ _ (by decide)).trans (by assumption)) | exact (va_up_ne _ _ (by decide)).trans ((va_up_ne _ _ (by decide)).trans (va_up_self _ _ _)) | exact (va_up_ne _ _ (by decide)).trans ((va_up_ne _ _ (by decide)).trans ((va_up_ne _ _ (by decide)).trans (by assumption))) | exact (va_up_ne _ _ (by decide)).trans ((va_up_ne _ _ (by decide)).trans ((va_up_ne _ _ (by decide)).trans ((va_up_ne _ _ (by decide)).trans (by assumption)))) | exact rfl) (by first | assumption | rfl | exact (List.getElem?_set_ne (by decide)).trans (by assumption) | exact List.getElem?_set_self (by omega)) ?_
                  refine g_aload_n (pc' := 52) dX8_findChanceTurn_51 rfl rfl ?_
                  refine g_iload_n (pc' := 53) dX8_findChanceTurn_52 rfl rfl ?_
                  refine g_iconst (pc' := 54) (v := nI 1) dX8_findChanceTurn_53 (by decide) ?_
                  refine g_iload (pc' := 56) dX8_findChanceTurn_54 rfl ?_
                  refine g_ishl (pc' := 57) dX8_findChanceTurn_56 ?_
                  rw [sh_l (by omega) (by omega), Nat.one_mul]
                  refine g_ior (pc' := 58) dX8_findChanceTurn_57 ?_
                  rw [or_n]
                  refine g_iload_n (pc' := 59) dX8_findChanceTurn_58 rfl rfl ?_
                  refine g_aload_n (pc' := 60) dX8_findChanceTurn_59 rfl rfl ?_
                  refine g_get (pc' := 63) fl_X8_41 dX8_findChanceTurn_60 (by omega) (by first | assumption | exact va_up_self _ _ _ | exact (va_up_ne _ _ (by decide)).trans (by assumption) | exact (va_up_ne _ _ (by decide)).trans (va_up_self _ _ _) | exact (va_up_ne _ _ (by decide)).trans ((va_up_ne _ _ (by decide)).trans (by assumption)) | exact (va_up_ne _ _ (by decide)).trans ((va_up_ne _ _ (by decide)).trans (va_up_self _ _ _)) | exact (va_up_ne _ _ (by decide)).trans ((va_up_ne _ _ (by decide)).trans ((va_up_ne _ _ (by decide)).trans (by assumption))) | exact (va_up_ne _ _ (by decide)).trans ((va_up_ne _ _ (by decide)).trans ((va_up_ne _ _ (by decide)).trans ((va_up_ne _ _ (by decide)).trans (by assumption)))) | exact rfl) (by first | assumption | rfl | exact (List.getElem?_set_ne (by decide)).trans (by assumption) | exact List.getElem?_set_self (by omega)) ?_
                  refine g_bipush (pc' := 65) (v := nI 8) dX8_findChanceTurn_63 (by decide) ?_
                  refine g_iload_n (pc' := 66) dX8_findChanceTurn_65 rfl rfl ?_
                  first | refine g_imulN (pc' := 67) dX8_findChanceTurn_66 ?_ | refine g_imul (pc' := 67) dX8_findChanceTurn_66 ?_
                  refine g_iload (pc' := 69) dX8_findChanceTurn_67 rfl ?_
                  first | refine g_iaddN (pc' := 70) dX8_findChanceTurn_69 ?_ | refine g_iadd (pc' := 70) dX8_findChanceTurn_69 ?_
                  refine g_ialdV (pc' := 71) dX8_findChanceTurn_70 (by omega) (by first | assumption | exact va_up_self _ _ _ | exact (va_up_ne _ _ (by decide)).trans (by assumption) | exact (va_up_ne _ _ (by decide)).trans (va_up_self _ _ _) | exact (va_up_ne _ _ (by decide)).trans ((va_up_ne _ _ (by decide)).trans (by assumption)) | exact (va_up_ne _ _ (by decide)).trans ((va_up_ne _ _ (by decide)).trans (va_up_self _ _ _)) | exact (va_up_ne _ _ (by decide)).trans ((va_up_ne _ _ (by decide)).trans ((va_up_ne _ _ (by decide)).trans (by assumption))) | exact (va_up_ne _ _ (by decide)).trans ((va_up_ne _ _ (by decide)).trans ((va_up_ne _ _ (by decide)).trans ((va_up_ne _ _ (by decide)).trans (by assumption)))) | exact rfl) ((IX_nI (by omega) (by omega))) (hpt _ _ (by omega) h3 (by omega)) ?_
                  refine g_isub (pc' := 72) dX8_findChanceTurn_71 ?_
                  refine gc_V 75 47 [.int (nI (s ||| 2 ^ r)), .int (nI w - nI (P r h))] [.ref 61] cw_X8_205 im_X8_wants se_X8_wants dX8_findChanceTurn_72 (by decide) (by decide) (Nat.le_refl _) (Nat.le_refl _) (Nat.le_of_ble_eq_true rfl) rfl (Nat.le_of_ble_eq_true rfl) (by omega) (by first | assumption | exact va_up_self _ _ _ | exact (va_up_ne _ _ (by decide)).trans (by assumption) | exact (va_up_ne _ _ (by decide)).trans (va_up_self _ _ _) | exact (va_up_ne _ _ (by decide)).trans ((va_up_ne _ _ (by decide)).trans (by assumption)) | exact (va_up_ne _ _ (by decide)).trans ((va_up_ne _ _ (by decide)).trans (va_up_self _ _ _)) | exact (va_up_ne _ _ (by decide)).trans ((va_up_ne _ _ (by decide)).trans ((va_up_ne _ _ (by decide)).trans (by assumption))) | exact (va_up_ne _ _ (by decide)).trans ((va_up_ne _ _ (by decide)).trans ((va_up_ne _ _ (by decide)).trans ((va_up_ne _ _ (by decide)).trans (by assumption)))) | exact rfl) rfl rfl (c_wants (by omega) hP9 ⟨rfl, ?_⟩)
                  show G yX8_findChanceTurn cX8_findChanceTurn 9 none (rmD 2) none Q 0 0 75 [.ref 47, .int (nI s), .int (nI w), .int (nI h), .long (lN (mxF (fun r => if bt0 s r then C (s ||| 2 ^ r) (w - P r h) else 0) r)), uu, .int (nI r), uu, uu] [.int (nI (501 * (s ||| 2 ^ r) + (w - P r h))), .ref 61] (va_up hp 59 (aJ 1386 fv)) n
                  refine g_laldV (pc' := 76) dX8_findChanceTurn_75 (by omega) (by first | assumption | exact va_up_self _ _ _ | exact (va_up_ne _ _ (by decide)).trans (by assumption) | exact (va_up_ne _ _ (by decide)).trans (va_up_self _ _ _) | exact (va_up_ne _ _ (by decide)).trans ((va_up_ne _ _ (by decide)).trans (by assumption)) | exact (va_up_ne _ _ (by decide)).trans ((va_up_ne _ _ (by decide)).trans (va_up_self _ _ _)) | exact (va_up_ne _ _ (by decide)).trans ((va_up_ne _ _ (by decide)).trans ((va_up_ne _ _ (by decide)).trans (by assumption))) | exact (va_up_ne _ _ (by decide)).trans ((va_up_ne _ _ (by decide)).trans ((va_up_ne _ _ (by decide)).trans ((va_up_ne _ _ (by decide)).trans (by assumption)))) | exact rfl) ((IX_nI (by omega) (by omega))) (hc _ _ (by omega) h3 (by omega) hb) ?_
                  refine g_goto (tgt := 80) dX8_findChanceTurn_76 (by decide) ?_
                  exact fin _ (by rw [hb]; rfl)
          exact inner R 0 (by omega)
  exact loop (nh S D) 0 fv (by omega) (fun h' q => absurd q (Nat.not_lt_zero _))
