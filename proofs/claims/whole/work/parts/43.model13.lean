theorem uhN_le {D S T R s h k : Nat} {it tt : Bool} (hS : 1 ≤ S) (G0 : WG D S T R it tt s h k) : 1 ≤ uhN D S T R it s k ∧ uhN D S T R it s k ≤ (S ^ D) ^ (T * R) := by
  have hb := pw_pos hS D
  have ho := opn_le s R
  unfold uhN
  cases it with
  | false => exact ⟨pw_pos hb _, Nat.pow_le_pow_right hb (Nat.mul_le_mul_left T ho)⟩
  | true =>
    obtain ⟨i1, i2, i3, -⟩ := G0.2.1 rfl
    simp only [if_true]
    rw [← Nat.pow_add]
    refine ⟨pw_pos hb _, Nat.pow_le_pow_right hb ?_⟩
    obtain ⟨f, hf⟩ : ∃ f, opn s R = f + 1 := ⟨opn s R - 1, by omega⟩
    have h1 : T * (f + 1) ≤ T * R := Nat.mul_le_mul_left T (by omega)
    rw [hf, Nat.add_sub_cancel]
    rw [Nat.mul_add, Nat.mul_one] at h1
    omega
/-- the stand: the sum and the worth, in units of an empty sheet -/
def sdN (D S T R : Nat) (P : Nat → Nat → Nat) (it tt : Bool) (s sm h k : Nat) : Nat := sm * (S ^ D) ^ (T * R) + whN D S T R P it tt s h k * ((S ^ D) ^ (T * R) / uhN D S T R it s k)
theorem c_stand {hp : AH} {n D S T R s sm h k : Nat} {it tt : Bool} {fs : List Value} {P : Nat → Nat → Nat} {Q : Option Value → AH → Nat → Prop} (hn : 64 ≤ n) (B : MBg hp fs D S T R P) (f14 : fs[14]? = some (.int (nI s))) (f15 : fs[15]? = some (.int (nI sm))) (f17 : fs[17]? = some (.int (nI (bI it)))) (f18 : fs[18]? = some (.int (nI (bI tt)))) (f19 : fs[19]? = some (.int (nI h))) (f20 : fs[20]? = some (.int (nI k))) (G0 : WG D S T R it tt s h k) (hsm : sm < 2 ^ 31)
    (hq : ∀ hp' : AH, SCr fs hp hp' → Q (some (.long (lN (sdN D S T R P it tt s sm h k)))) hp' n) : CT yX8_stand cX8_stand 3 (some .long) (rmD 6) [.ref 47] hp n Q := by
  obtain ⟨c47, F, ⟨h2, h6, hD1, hD, hT1, hT3, hR1, hR⟩, hL, -, -, f23, -⟩ := id B
  obtain ⟨f99, f0, f1, f2, f3, f4, f5, f6, f9, f10, f11, f12, f13, f16, f24, f25, f26, f27, f28, f29, f30⟩ := id F
  obtain ⟨u1, u2⟩ := uhN_le (by omega) G0
  show G yX8_stand cX8_stand 3 (some .long) (rmD 6) none Q 0 0 0 [.ref 47, uu, uu] [] hp n
  refine g_aload_n (pc' := 1) dX8_stand_0 rfl rfl ?_
  refine g_aload_n (pc' := 2) dX8_stand_1 rfl rfl ?_
  refine g_get (pc' := 5) fl_X8_86 dX8_stand_2 (by omega) (by first | assumption | exact va_up_self _ _ _ | exact (va_up_ne _ _ (by decide)).trans (by assumption) | exact (va_up_ne _ _ (by decide)).trans (va_up_self _ _ _) | exact (va_up_ne _ _ (by decide)).trans ((va_up_ne _ _ (by decide)).trans (by assumption)) | exact (va_up_ne _ _ (by decide)).trans ((va_up_ne _ _ (by decide)).trans (va_up_self _ _ _)) | exact (va_up_ne _ _ (by decide)).trans ((va_up_ne _ _ (by decide)).trans ((va_up_ne _ _ (by decide)).trans (by assumption))) | exact (va_up_ne _ _ (by decide)).trans ((va_up_ne _ _ (by decide)).trans ((va_up_ne _ _ (by decide)).trans ((va_up_ne _ _ (by decide)).trans (by assumption)))) | exact rfl) (by first | assumption | rfl | exact (List.getElem?_set_ne (by decide)).trans (by assumption) | exact List.getElem?_set_self (by omega)) ?_
  refine gc_V 8 47 [.int (nI R)] [] cw_X8_111 im_X8_unitOf se_X8_unitOf dX8_stand_5 (by decide) (by decide) (Nat.le_refl _) (Nat.le_refl _) (Nat.le_of_ble_eq_true rfl) rfl (Nat.le_of_ble_eq_true rfl) (by omega) (by first | assumption | exact va_up_self _ _ _ | exact (va_up_ne _ _ (by decide)).trans (by assumption) | exact (va_up_ne _ _ (by decide)).trans (va_up_self _ _ _) | exact (va_up_ne _ _ (by decide)).trans ((va_up_ne _ _ (by decide)).trans (by assumption)) | exact (va_up_ne _ _ (by decide)).trans ((va_up_ne _ _ (by decide)).trans (va_up_self _ _ _)) | exact (va_up_ne _ _ (by decide)).trans ((va_up_ne _ _ (by decide)).trans ((va_up_ne _ _ (by decide)).trans (by assumption))) | exact (va_up_ne _ _ (by decide)).trans ((va_up_ne _ _ (by decide)).trans ((va_up_ne _ _ (by decide)).trans ((va_up_ne _ _ (by decide)).trans (by assumption)))) | exact rfl) rfl rfl (c_unitOf hn c47 F hT3 (by omega) f23 ⟨rfl, ?_⟩)
  refine g_lstore_n (pc' := 9) dX8_stand_8 rfl (by decide) ?_
  refine g_aload_n (pc' := 10) dX8_stand_9 rfl rfl ?_
  refine g_get (pc' := 13) fl_X8_144 dX8_stand_10 (by omega) (by first | assumption | exact va_up_self _ _ _ | exact (va_up_ne _ _ (by decide)).trans (by assumption) | exact (va_up_ne _ _ (by decide)).trans (va_up_self _ _ _) | exact (va_up_ne _ _ (by decide)).trans ((va_up_ne _ _ (by decide)).trans (by assumption)) | exact (va_up_ne _ _ (by decide)).trans ((va_up_ne _ _ (by decide)).trans (va_up_self _ _ _)) | exact (va_up_ne _ _ (by decide)).trans ((va_up_ne _ _ (by decide)).trans ((va_up_ne _ _ (by decide)).trans (by assumption))) | exact (va_up_ne _ _ (by decide)).trans ((va_up_ne _ _ (by decide)).trans ((va_up_ne _ _ (by decide)).trans ((va_up_ne _ _ (by decide)).trans (by assumption)))) | exact rfl) (by first | assumption | rfl | exact (List.getElem?_set_ne (by decide)).trans (by assumption) | exact List.getElem?_set_self (by omega)) ?_
  first | refine g_i2lN (pc' := 14) dX8_stand_13 (by omega) ?_ | refine g_i2l (pc' := 14) dX8_stand_13 ?_
  refine g_lload_n (pc' := 15) dX8_stand_14 rfl rfl ?_
  first | refine g_lmulN (pc' := 16) dX8_stand_15 ?_ | refine g_lmul (pc' := 16) dX8_stand_15 ?_
  refine g_aload_n (pc' := 17) dX8_stand_16 rfl rfl ?_
  refine gc_V 20 47 [] [.long (lN (sm * (S ^ D) ^ (T * R)))] cw_X8_168 im_X8_worthHere se_X8_worthHere dX8_stand_17 (by decide) (by decide) (Nat.le_refl _) (Nat.le_refl _) (Nat.le_of_ble_eq_true rfl) rfl (Nat.le_of_ble_eq_true rfl) (by omega) (by first | assumption | exact va_up_self _ _ _ | exact (va_up_ne _ _ (by decide)).trans (by assumption) | exact (va_up_ne _ _ (by decide)).trans (va_up_self _ _ _) | exact (va_up_ne _ _ (by decide)).trans ((va_up_ne _ _ (by decide)).trans (by assumption)) | exact (va_up_ne _ _ (by decide)).trans ((va_up_ne _ _ (by decide)).trans (va_up_self _ _ _)) | exact (va_up_ne _ _ (by decide)).trans ((va_up_ne _ _ (by decide)).trans ((va_up_ne _ _ (by decide)).trans (by assumption))) | exact (va_up_ne _ _ (by decide)).trans ((va_up_ne _ _ (by decide)).trans ((va_up_ne _ _ (by decide)).trans ((va_up_ne _ _ (by decide)).trans (by assumption)))) | exact rfl) rfl rfl (c_worthHere hn B f14 f17 f18 f19 f20 G0 (fun hp1 S1 => ⟨rfl, ?_⟩))
  obtain ⟨x1, c47', B1⟩ := MBg_SCr B S1
  refine g_lload_n (pc' := 21) dX8_stand_20 rfl rfl ?_
  refine g_aload_n (pc' := 22) dX8_stand_21 rfl rfl ?_
  refine gc_V 25 47 [] [.long (lN ((S ^ D) ^ (T * R))), .long (lN (whN D S T R P it tt s h k)), .long (lN (sm * (S ^ D) ^ (T * R)))] cw_X8_172 im_X8_unitHere se_X8_unitHere dX8_stand_22 (by decide) (by decide) (Nat.le_refl _) (Nat.le_refl _) (Nat.le_of_ble_eq_true rfl) rfl (Nat.le_of_ble_eq_true rfl) (by omega) (by first | assumption | exact va_up_self _ _ _ | exact (va_up_ne _ _ (by decide)).trans (by assumption) | exact (va_up_ne _ _ (by decide)).trans (va_up_self _ _ _) | exact (va_up_ne _ _ (by decide)).trans ((va_up_ne _ _ (by decide)).trans (by assumption)) | exact (va_up_ne _ _ (by decide)).trans ((va_up_ne _ _ (by decide)).trans (va_up_self _ _ _)) | exact (va_up_ne _ _ (by decide)).trans ((va_up_ne _ _ (by decide)).trans ((va_up_ne _ _ (by decide)).trans (by assumption))) | exact (va_up_ne _ _ (by decide)).trans ((va_up_ne _ _ (by decide)).trans ((va_up_ne _ _ (by decide)).trans ((va_up_ne _ _ (by decide)).trans (by assumption)))) | exact rfl) rfl rfl (c_unitHere hn B1 ((List.getElem?_set_ne (by decide)).trans f14) ((List.getElem?_set_ne (by decide)).trans f17) ((List.getElem?_set_ne (by decide)).trans f20) G0 ⟨rfl, ?_⟩)
  refine g_ldiv (pc' := 26) dX8_stand_25 (fun q => ?_) ?_
  · have : lN (uhN D S T R it s k) = lN 0 := q
    rw [pk_lEQ (by omega) (by decide)] at this
    omega
  rw [pk_lDiv (by omega) (by omega) (by omega)]
  first | refine g_lmulN (pc' := 27) dX8_stand_26 ?_ | refine g_lmul (pc' := 27) dX8_stand_26 ?_
  first | refine g_laddN (pc' := 28) dX8_stand_27 ?_ | refine g_ladd (pc' := 28) dX8_stand_27 ?_
  exact g_lret dX8_stand_28 rfl (Nat.le_refl _) (Nat.le_refl _) (hq hp1 S1)
theorem c_isOver {hp : AH} {n D S T R s : Nat} {fs : List Value} {Q : Option Value → AH → Nat → Prop} (hn : 64 ≤ n) (c47 : hp 47 = ob 8 fs) (F : MF fs D S T R) (hR : R ≤ 8) (f14 : fs[14]? = some (.int (nI s))) (hs : s < 256) (hq : Q (some (.int (nI (bI (decide (opn s R = 0)))))) hp n) : CT yX8_isOver cX8_isOver 1 (some .boolean) (rmD 1) [.ref 47] hp n Q := by
  obtain ⟨f99, f0, f1, f2, f3, f4, f5, f6, f9, f10, f11, f12, f13, f16, f24, f25, f26, f27, f28, f29, f30⟩ := id F
  have ho := opn_le s R
  show G yX8_isOver cX8_isOver 1 (some .boolean) (rmD 1) none Q 0 0 0 [.ref 47] [] hp n
  refine g_aload_n (pc' := 1) dX8_isOver_0 rfl rfl ?_
  refine g_aload_n (pc' := 2) dX8_isOver_1 rfl rfl ?_
  refine g_get (pc' := 5) fl_X8_141 dX8_isOver_2 (by omega) (by first | assumption | exact va_up_self _ _ _ | exact (va_up_ne _ _ (by decide)).trans (by assumption) | exact (va_up_ne _ _ (by decide)).trans (va_up_self _ _ _) | exact (va_up_ne _ _ (by decide)).trans ((va_up_ne _ _ (by decide)).trans (by assumption)) | exact (va_up_ne _ _ (by decide)).trans ((va_up_ne _ _ (by decide)).trans (va_up_self _ _ _)) | exact (va_up_ne _ _ (by decide)).trans ((va_up_ne _ _ (by decide)).trans ((va_up_ne _ _ (by decide)).trans (by assumption))) | exact (va_up_ne _ _ (by decide)).trans ((va_up_ne _ _ (by decide)).trans ((va_up_ne _ _ (by decide)).trans ((va_up_ne _ _ (by decide)).trans (by assumption)))) | exact rfl) (by first | assumption | rfl | exact (List.getElem?_set_ne (by decide)).trans (by assumption) | exact List.getElem?_set_self (by omega)) ?_
  refine gc_V 8 47 [.int (nI s)] [] cw_X8_107 im_X8_open se_X8_open dX8_isOver_5 (by decide) (by decide) (Nat.le_refl _) (Nat.le_refl _) (Nat.le_of_ble_eq_true rfl) rfl (Nat.le_of_ble_eq_true rfl) (by omega) (by first | assumption | exact va_up_self _ _ _ | exact (va_up_ne _ _ (by decide)).trans (by assumption) | exact (va_up_ne _ _ (by decide)).trans (va_up_self _ _ _) | exact (va_up_ne _ _ (by decide)).trans ((va_up_ne _ _ (by decide)).trans (by assumption)) | exact (va_up_ne _ _ (by decide)).trans ((va_up_ne _ _ (by decide)).trans (va_up_self _ _ _)) | exact (va_up_ne _ _ (by decide)).trans ((va_up_ne _ _ (by decide)).trans ((va_up_ne _ _ (by decide)).trans (by assumption))) | exact (va_up_ne _ _ (by decide)).trans ((va_up_ne _ _ (by decide)).trans ((va_up_ne _ _ (by decide)).trans ((va_up_ne _ _ (by decide)).trans (by assumption)))) | exact rfl) rfl rfl (c_open hn c47 f3 hR hs ⟨rfl, ?_⟩)
  refine g_if_neN (tgt := 15) (pc' := 11) dX8_isOver_8 (by decide) (by first | omega | decide) (fun h1 => ?_) (fun h1 => ?_)
  · refine g_iconst (pc' := 16) (v := nI 0) dX8_isOver_15 (by decide) ?_
    rw [decide_eq_false h1] at hq
    exact g_zret dX8_isOver_16 rfl (by decide) (Nat.le_refl _) (Nat.le_refl _) hq
  · refine g_iconst (pc' := 12) (v := nI 1) dX8_isOver_11 (by decide) ?_
    refine g_goto (tgt := 16) dX8_isOver_12 (by decide) ?_
    rw [decide_eq_true h1] at hq
    exact g_zret dX8_isOver_16 rfl (by decide) (Nat.le_refl _) (Nat.le_refl _) hq
/-- dice are to be thrown -/
def mfB (R : Nat) (bg it tt : Bool) (s : Nat) : Bool := bg && !decide (opn s R = 0) && (!it || tt)
theorem c_mayFall {hp : AH} {n D S T R s : Nat} {bg it tt : Bool} {fs : List Value} {Q : Option Value → AH → Nat → Prop} (hn : 64 ≤ n) (c47 : hp 47 = ob 8 fs) (F : MF fs D S T R) (hR : R ≤ 8) (f7 : fs[7]? = some (.int (nI (bI bg)))) (f14 : fs[14]? = some (.int (nI s))) (f17 : fs[17]? = some (.int (nI (bI it)))) (f18 : fs[18]? = some (.int (nI (bI tt)))) (hs : s < 256) (hq : Q (some (.int (nI (bI (mfB R bg it tt s))))) hp n) : CT yX8_mayFall cX8_mayFall 1 (some .boolean) (rmD 2) [.ref 47] hp n Q := by
  obtain ⟨f99, f0, f1, f2, f3, f4, f5, f6, f9, f10, f11, f12, f13, f16, f24, f25, f26, f27, f28, f29, f30⟩ := id F
  have b1 := bI_le bg
  have b2 := bI_le it
  have b3 := bI_le tt
  have b4 := bI_le (decide (opn s R = 0))
  have no : ∀ b, mfB R bg it tt s = b → b = false → G yX8_mayFall cX8_mayFall 1 (some .boolean) (rmD 2) none Q 0 0 32 [.ref 47] [] hp n := by
    intro b h1 h2
    rw [h1, h2] at hq
    refine g_iconst (pc' := 33) (v := nI 0) dX8_mayFall_32 (by decide) ?_
    exact g_zret dX8_mayFall_33 rfl (by decide) (Nat.le_refl _) (Nat.le_refl _) hq
  have yes : mfB R bg it tt s = true → G yX8_mayFall cX8_mayFall 1 (some .boolean) (rmD 2) none Q 0 0 28 [.ref 47] [] hp n := by
    intro h1
    rw [h1] at hq
    refine g_iconst (pc' := 29) (v := nI 1) dX8_mayFall_28 (by decide) ?_
    refine g_goto (tgt := 33) dX8_mayFall_29 (by decide) ?_
    exact g_zret dX8_mayFall_33 rfl (by decide) (Nat.le_refl _) (Nat.le_refl _) hq
  show G yX8_mayFall cX8_mayFall 1 (some .boolean) (rmD 2) none Q 0 0 0 [.ref 47] [] hp n
  refine g_aload_n (pc' := 1) dX8_mayFall_0 rfl rfl ?_
  refine g_get (pc' := 4) fl_X8_82 dX8_mayFall_1 (by omega) (by first | assumption | exact va_up_self _ _ _ | exact (va_up_ne _ _ (by decide)).trans (by assumption) | exact (va_up_ne _ _ (by decide)).trans (va_up_self _ _ _) | exact (va_up_ne _ _ (by decide)).trans ((va_up_ne _ _ (by decide)).trans (by assumption)) | exact (va_up_ne _ _ (by decide)).trans ((va_up_ne _ _ (by decide)).trans (va_up_self _ _ _)) | exact (va_up_ne _ _ (by decide)).trans ((va_up_ne _ _ (by decide)).trans ((va_up_ne _ _ (by decide)).trans (by assumption))) | exact (va_up_ne _ _ (by decide)).trans ((va_up_ne _ _ (by decide)).trans ((va_up_ne _ _ (by decide)).trans ((va_up_ne _ _ (by decide)).trans (by assumption)))) | exact rfl) (by first | assumption | rfl | exact (List.getElem?_set_ne (by decide)).trans (by assumption) | exact List.getElem?_set_self (by omega)) ?_
  refine g_if_eqN (tgt := 32) (pc' := 7) dX8_mayFall_4 (by decide) (by first | omega | decide) (fun h1 => ?_) (fun h1 => ?_)
  · refine no _ rfl ?_
    cases bg with
    | true => exact absurd h1 (by decide)
    | false => rfl
  · have e1 : bg = true := by
      cases bg with
      | true => rfl
      | false => exact absurd rfl h1
    subst e1
    refine g_aload_n (pc' := 8) dX8_mayFall_7 rfl rfl ?_
    refine gc_V 11 47 [] [] cw_X8_175 im_X8_isOver se_X8_isOver dX8_mayFall_8 (by decide) (by decide) (Nat.le_refl _) (Nat.le_refl _) (Nat.le_of_ble_eq_true rfl) rfl (Nat.le_of_ble_eq_true rfl) (by omega) (by first | assumption | exact va_up_self _ _ _ | exact (va_up_ne _ _ (by decide)).trans (by assumption) | exact (va_up_ne _ _ (by decide)).trans (va_up_self _ _ _) | exact (va_up_ne _ _ (by decide)).trans ((va_up_ne _ _ (by decide)).trans (by assumption)) | exact (va_up_ne _ _ (by decide)).trans ((va_up_ne _ _ (by decide)).trans (va_up_self _ _ _)) | exact (va_up_ne _ _ (by decide)).trans ((va_up_ne _ _ (by decide)).trans ((va_up_ne _ _ (by decide)).trans (by assumption))) | exact (va_up_ne _ _ (by decide)).trans ((va_up_ne _ _ (by decide)).trans ((va_up_ne _ _ (by decide)).trans ((va_up_ne _ _ (by decide)).trans (by assumption)))) | exact rfl) rfl rfl (c_isOver hn c47 F hR f14 hs ⟨rfl, ?_⟩)
    refine g_if_neN (tgt := 32) (pc' := 14) dX8_mayFall_11 (by decide) (by first | omega | decide) (fun h3 => ?_) (fun h3 => ?_)
    · refine no _ rfl ?_
      cases hx : decide (opn s R = 0) with
      | true => simp [mfB, hx]
      | false => rw [hx] at h3; exact absurd rfl h3
    · have e2 : decide (opn s R = 0) = false := by
        cases hx : decide (opn s R = 0) with
        | true => rw [hx] at h3; exact absurd h3 (by decide)
        | false => rfl
      refine g_aload_n (pc' := 15) dX8_mayFall_14 rfl rfl ?_
      refine g_get (pc' := 18) fl_X8_147 dX8_mayFall_15 (by omega) (by first | assumption | exact va_up_self _ _ _ | exact (va_up_ne _ _ (by decide)).trans (by assumption) | exact (va_up_ne _ _ (by decide)).trans (va_up_self _ _ _) | exact (va_up_ne _ _ (by decide)).trans ((va_up_ne _ _ (by decide)).trans (by assumption)) | exact (va_up_ne _ _ (by decide)).trans ((va_up_ne _ _ (by decide)).trans (va_up_self _ _ _)) | exact (va_up_ne _ _ (by decide)).trans ((va_up_ne _ _ (by decide)).trans ((va_up_ne _ _ (by decide)).trans (by assumption))) | exact (va_up_ne _ _ (by decide)).trans ((va_up_ne _ _ (by decide)).trans ((va_up_ne _ _ (by decide)).trans ((va_up_ne _ _ (by decide)).trans (by assumption)))) | exact rfl) (by first | assumption | rfl | exact (List.getElem?_set_ne (by decide)).trans (by assumption) | exact List.getElem?_set_self (by omega)) ?_
      refine g_if_eqN (tgt := 28) (pc' := 21) dX8_mayFall_18 (by decide) (by first | omega | decide) (fun h4 => ?_) (fun h4 => ?_)
      · refine yes ?_
        cases it with
        | true => exact absurd h4 (by decide)
        | false => simp [mfB, e2]
      · refine g_aload_n (pc' := 22) dX8_mayFall_21 rfl rfl ?_
        refine g_get (pc' := 25) fl_X8_150 dX8_mayFall_22 (by omega) (by first | assumption | exact va_up_self _ _ _ | exact (va_up_ne _ _ (by decide)).trans (by assumption) | exact (va_up_ne _ _ (by decide)).trans (va_up_self _ _ _) | exact (va_up_ne _ _ (by decide)).trans ((va_up_ne _ _ (by decide)).trans (by assumption)) | exact (va_up_ne _ _ (by decide)).trans ((va_up_ne _ _ (by decide)).trans (va_up_self _ _ _)) | exact (va_up_ne _ _ (by decide)).trans ((va_up_ne _ _ (by decide)).trans ((va_up_ne _ _ (by decide)).trans (by assumption))) | exact (va_up_ne _ _ (by decide)).trans ((va_up_ne _ _ (by decide)).trans ((va_up_ne _ _ (by decide)).trans ((va_up_ne _ _ (by decide)).trans (by assumption)))) | exact rfl) (by first | assumption | rfl | exact (List.getElem?_set_ne (by decide)).trans (by assumption) | exact List.getElem?_set_self (by omega)) ?_
        have e3 : it = true := by
          cases it with
          | true => rfl
          | false => exact absurd rfl h4
        refine g_if_eqN (tgt := 32) (pc' := 28) dX8_mayFall_25 (by decide) (by first | omega | decide) (fun h5 => ?_) (fun h5 => ?_)
        · refine no _ rfl ?_
          cases tt with
          | true => exact absurd h5 (by decide)
          | false => simp [mfB, e2, e3]
        · refine yes ?_
          cases tt with
          | true => simp [mfB, e2]
          | false => exact absurd rfl h5
def mhB (bg it tt : Bool) (k : Nat) : Bool := bg && it && !tt && decide (0 < k)
theorem c_mayHold {hp : AH} {n D S T R k : Nat} {bg it tt : Bool} {fs : List Value} {Q : Option Value → AH → Nat → Prop} (hn : 64 ≤ n) (c47 : hp 47 = ob 8 fs) (F : MF fs D S T R) (f7 : fs[7]? = some (.int (nI (bI bg)))) (f17 : fs[17]? = some (.int (nI (bI it)))) (f18 : fs[18]? = some (.int (nI (bI tt)))) (f20 : fs[20]? = some (.int (nI k))) (hk : k < 2 ^ 31) (hq : Q (some (.int (nI (bI (mhB bg it tt k))))) hp n) : CT yX8_mayHold cX8_mayHold 1 (some .boolean) (rmD 0) [.ref 47] hp n Q := by
  obtain ⟨f99, f0, f1, f2, f3, f4, f5, f6, f9, f10, f11, f12, f13, f16, f24, f25, f26, f27, f28, f29, f30⟩ := id F
  have b1 := bI_le bg
  have b2 := bI_le it
  have b3 := bI_le tt
  have no : mhB bg it tt k = false → G yX8_mayHold cX8_mayHold 1 (some .boolean) (rmD 0) none Q 0 0 32 [.ref 47] [] hp n := by
    intro h1
    rw [h1] at hq
    refine g_iconst (pc' := 33) (v := nI 0) dX8_mayHold_32 (by decide) ?_
    exact g_zret dX8_mayHold_33 rfl (by decide) (Nat.le_refl _) (Nat.le_refl _) hq
  show G yX8_mayHold cX8_mayHold 1 (some .boolean) (rmD 0) none Q 0 0 0 [.ref 47] [] hp n
  refine g_aload_n (pc' := 1) dX8_mayHold_0 rfl rfl ?_
  refine g_get (pc' := 4) fl_X8_82 dX8_mayHold_1 (by omega) (by first | assumption | exact va_up_self _ _ _ | exact (va_up_ne _ _ (by decide)).trans (by assumption) | exact (va_up_ne _ _ (by decide)).trans (va_up_self _ _ _) | exact (va_up_ne _ _ (by decide)).trans ((va_up_ne _ _ (by decide)).trans (by assumption)) | exact (va_up_ne _ _ (by decide)).trans ((va_up_ne _ _ (by decide)).trans (va_up_self _ _ _)) | exact (va_up_ne _ _ (by decide)).trans ((va_up_ne _ _ (by decide)).trans ((va_up_ne _ _ (by decide)).trans (by assumption))) | exact (va_up_ne _ _ (by decide)).trans ((va_up_ne _ _ (by decide)).trans ((va_up_ne _ _ (by decide)).trans ((va_up_ne _ _ (by decide)).trans (by assumption)))) | exact rfl) (by first | assumption | rfl | exact (List.getElem?_set_ne (by decide)).trans (by assumption) | exact List.getElem?_set_self (by omega)) ?_
  cases bg with
  | false =>
    refine g_if_eqN (tgt := 32) (pc' := 7) dX8_mayHold_4 (by decide) (by first | omega | decide) (fun h1 => ?_) (fun h1 => ?_)
    · exact no rfl
    · exact absurd rfl h1
  | true =>
    refine g_if_eqN (tgt := 32) (pc' := 7) dX8_mayHold_4 (by decide) (by first | omega | decide) (fun h1 => ?_) (fun h1 => ?_)
    · exact absurd h1 (by decide)
    · refine g_aload_n (pc' := 8) dX8_mayHold_7 rfl rfl ?_
      refine g_get (pc' := 11) fl_X8_147 dX8_mayHold_8 (by omega) (by first | assumption | exact va_up_self _ _ _ | exact (va_up_ne _ _ (by decide)).trans (by assumption) | exact (va_up_ne _ _ (by decide)).trans (va_up_self _ _ _) | exact (va_up_ne _ _ (by decide)).trans ((va_up_ne _ _ (by decide)).trans (by assumption)) | exact (va_up_ne _ _ (by decide)).trans ((va_up_ne _ _ (by decide)).trans (va_up_self _ _ _)) | exact (va_up_ne _ _ (by decide)).trans ((va_up_ne _ _ (by decide)).trans ((va_up_ne _ _ (by decide)).trans (by assumption))) | exact (va_up_ne _ _ (by decide)).trans ((va_up_ne _ _ (by decide)).trans ((va_up_ne _ _ (by decide)).trans ((va_up_ne _ _ (by decide)).trans (by assumption)))) | exact rfl) (by first | assumption | rfl | exact (List.getElem?_set_ne (by decide)).trans (by assumption) | exact List.getElem?_set_self (by omega)) ?_
      cases it with
      | false =>
        refine g_if_eqN (tgt := 32) (pc' := 14) dX8_mayHold_11 (by decide) (by first | omega | decide) (fun h3 => ?_) (fun h3 => ?_)
        · exact no rfl
        · exact absurd rfl h3
      | true =>
        refine g_if_eqN (tgt := 32) (pc' := 14) dX8_mayHold_11 (by decide) (by first | omega | decide) (fun h3 => ?_) (fun h3 => ?_)
        · exact absurd h3 (by decide)
        · refine g_aload_n (pc' := 15) dX8_mayHold_14 rfl rfl ?_
          refine g_get (pc' := 18) fl_X8_150 dX8_mayHold_15 (by omega) (by first | assumption | exact va_up_self _ _ _ | exact (va_up_ne _ _ (by decide)).trans (by assumption) | exact (va_up_ne _ _ (by decide)).trans (va_up_self _ _ _) | exact (va_up_ne _ _ (by decide)).trans ((va_up_ne _ _ (by decide)).trans (by assumption)) | exact (va_up_ne _ _ (by decide)).trans ((va_up_ne _ _ (by decide)).trans (va_up_self _ _ _)) | exact (va_up_ne _ _ (by decide)).trans ((va_up_ne _ _ (by decide)).trans ((va_up_ne _ _ (by decide)).trans (by assumption))) | exact (va_up_ne _ _ (by decide)).trans ((va_up_ne _ _ (by decide)).trans ((va_up_ne _ _ (by decide)).trans ((va_up_ne _ _ (by decide)).trans (by assumption)))) | exact rfl) (by first | assumption | rfl | exact (List.getElem?_set_ne (by decide)).trans (by assumption) | exact List.getElem?_set_self (by omega)) ?_
          cases tt with
          | true =>
            refine g_if_neN (tgt := 32) (pc' := 21) dX8_mayHold_18 (by decide) (by first | omega | decide) (fun h4 => ?_) (fun h4 => ?_)
            · exact no rfl
            · exact absurd h4 (by decide)
          | false =>
            refine g_if_neN (tgt := 32) (pc' := 21) dX8_mayHold_18 (by decide) (by first | omega | decide) (fun h4 => ?_) (fun h4 => ?_)
            · exact absurd rfl h4
            · refine g_aload_n (pc' := 22) dX8_mayHold_21 rfl rfl ?_
              refine g_get (pc' := 25) fl_X8_156 dX8_mayHold_22 (by omega) (by first | assumption | exact va_up_self _ _ _ | exact (va_up_ne _ _ (by decide)).trans (by assumption) | exact (va_up_ne _ _ (by decide)).trans (va_up_self _ _ _) | exact (va_up_ne _ _ (by decide)).trans ((va_up_ne _ _ (by decide)).trans (by assumption)) | exact (va_up_ne _ _ (by decide)).trans ((va_up_ne _ _ (by decide)).trans (va_up_self _ _ _)) | exact (va_up_ne _ _ (by decide)).trans ((va_up_ne _ _ (by decide)).trans ((va_up_ne _ _ (by decide)).trans (by assumption))) | exact (va_up_ne _ _ (by decide)).trans ((va_up_ne _ _ (by decide)).trans ((va_up_ne _ _ (by decide)).trans ((va_up_ne _ _ (by decide)).trans (by assumption)))) | exact rfl) (by first | assumption | rfl | exact (List.getElem?_set_ne (by decide)).trans (by assumption) | exact List.getElem?_set_self (by omega)) ?_
              refine g_if_leN (tgt := 32) (pc' := 28) dX8_mayHold_25 (by decide) (by first | omega | decide) (fun h5 => ?_) (fun h5 => ?_)
              · exact no (by rw [h5]; rfl)
              · refine g_iconst (pc' := 29) (v := nI 1) dX8_mayHold_28 (by decide) ?_
                refine g_goto (tgt := 33) dX8_mayHold_29 (by decide) ?_
                have e : mhB true true false k = true := by simp [mhB, h5]
                rw [e] at hq
                exact g_zret dX8_mayHold_33 rfl (by decide) (Nat.le_refl _) (Nat.le_refl _) hq
