/-! bits of a sheet; the worth of a sheet -/
theorem bt0_tb (s r : Nat) : bt0 s r = !s.testBit r := by
  unfold bt0
  rw [Nat.testBit_eq_decide_div_mod_eq]
  have : s / 2 ^ r % 2 < 2 := Nat.mod_lt _ (by decide)
  rcases Nat.lt_or_ge (s / 2 ^ r % 2) 1 with q | q
  · have e : s / 2 ^ r % 2 = 0 := by omega
    rw [e]; rfl
  · have e : s / 2 ^ r % 2 = 1 := by omega
    rw [e]; rfl
theorem bt0_or (s r j : Nat) : bt0 (s ||| 2 ^ r) j = (bt0 s j && !decide (r = j)) := by
  rw [bt0_tb, bt0_tb, Nat.testBit_or, Nat.testBit_two_pow]
  cases s.testBit j <;> cases decide (r = j) <;> rfl
theorem opn_congr {s t : Nat} : ∀ {R : Nat}, (∀ j, j < R → bt0 s j = bt0 t j) → opn s R = opn t R
  | 0, _ => rfl
  | R + 1, h => by
    unfold opn
    rw [opn_congr (fun j hj => h j (by omega)), h R (by omega)]
theorem opn_or {s r : Nat} (hb : bt0 s r = true) : ∀ {R : Nat}, r < R → opn (s ||| 2 ^ r) R + 1 = opn s R
  | 0, h => absurd h (Nat.not_lt_zero r)
  | R + 1, h => by
    rw [show opn s (R + 1) = opn s R + (if bt0 s R then 1 else 0) from rfl, show opn (s ||| 2 ^ r) (R + 1) = opn (s ||| 2 ^ r) R + (if bt0 (s ||| 2 ^ r) R then 1 else 0) from rfl]
    rcases Nat.lt_or_ge r R with q | q
    · have ih := opn_or hb q
      have e : bt0 (s ||| 2 ^ r) R = bt0 s R := by
        rw [bt0_or, decide_eq_false (by omega)]
        cases bt0 s R <;> rfl
      rw [e]
      omega
    · have er : r = R := by omega
      subst er
      have e : bt0 (s ||| 2 ^ r) r = false := by
        rw [bt0_or, decide_eq_true rfl]
        cases bt0 s r <;> rfl
      have e2 : opn (s ||| 2 ^ r) r = opn s r := opn_congr (fun j hj => by
        rw [bt0_or, decide_eq_false (by omega)]
        cases bt0 s j <;> rfl)
      rw [e, e2, hb]
      simp
theorem or_gt {s r : Nat} (hb : bt0 s r = true) : s < s ||| 2 ^ r := by
  rcases Nat.lt_or_ge s (s ||| 2 ^ r) with q | q
  · exact q
  · have h1 : s ≤ s ||| 2 ^ r := Nat.left_le_or
    have e : s ||| 2 ^ r = s := by omega
    have h2 := bt0_or s r r
    rw [e, hb, decide_eq_true rfl] at h2
    exact absurd h2 (by decide)
theorem or_ltR {s r R : Nat} (hs : s < 2 ^ R) (hr : r < R) : s ||| 2 ^ r < 2 ^ R := Nat.or_lt_two_pow hs (Nat.pow_lt_pow_right (by decide) hr)
theorem opn_zero {s : Nat} : ∀ {R : Nat}, opn s R = 0 → ∀ r, r < R → bt0 s r = false
  | 0, _, r, h => absurd h (Nat.not_lt_zero r)
  | R + 1, h, r, hr => by
    have h1 : opn s R + (if bt0 s R then 1 else 0) = 0 := h
    rcases Nat.lt_or_ge r R with q | q
    · exact opn_zero (by omega) r q
    · have e : r = R := by omega
      subst e
      cases hb : bt0 s r with
      | false => rfl
      | true => rw [hb] at h1; simp at h1
theorem full_of {s R : Nat} (hs : s < 2 ^ R) (h : opn s R = 0) : s = 2 ^ R - 1 := by
  apply Nat.eq_of_testBit_eq
  intro i
  rw [Nat.testBit_two_pow_sub_one]
  rcases Nat.lt_or_ge i R with q | q
  · have := opn_zero h i q
    rw [bt0_tb] at this
    rw [decide_eq_true q]
    cases hx : s.testBit i with
    | true => rfl
    | false => rw [hx] at this; exact absurd this (by decide)
  · rw [decide_eq_false (by omega)]
    exact Nat.testBit_lt_two_pow (Nat.lt_of_lt_of_le hs (Nat.pow_le_pow_right (by decide) q))
theorem opn_full (R : Nat) : opn (2 ^ R - 1) R = 0 := by
  rcases Nat.eq_zero_or_pos (opn (2 ^ R - 1) R) with q | q
  · exact q
  · obtain ⟨r, h1, h2⟩ := opn_pos q
    rw [bt0_tb, Nat.testBit_two_pow_sub_one, decide_eq_true h1] at h2
    exact absurd h2 (by decide)
theorem opn_0 (R : Nat) : opn 0 R = R := by
  induction R with
  | zero => rfl
  | succ R ih =>
    have e : bt0 0 R = true := by simp [bt0]
    rw [show opn 0 (R + 1) = opn 0 R + (if bt0 0 R then 1 else 0) from rfl, ih, e]
    rfl
/-- W: f rows of the sheet s are free -/
def WtF (D S T R : Nat) (P : Nat → Nat → Nat) : Nat → Nat → Nat
  | 0, _ => 0
  | f + 1, s => bf D S T (grW P ((S ^ D) ^ (T * f)) (WtF D S T R P f) R s)
def Wt (D S T R : Nat) (P : Nat → Nat → Nat) (s : Nat) : Nat := WtF D S T R P (opn s R) s
/-- the ground of a sheet with free rows -/
def gd (D S T R : Nat) (P : Nat → Nat → Nat) (s : Nat) : Nat → Nat := grW P ((S ^ D) ^ (T * (opn s R - 1))) (Wt D S T R P) R s
theorem grW_congr {P : Nat → Nat → Nat} {U R s h : Nat} {w1 w2 : Nat → Nat} (hw : ∀ r, r < R → bt0 s r = true → w1 (s ||| 2 ^ r) = w2 (s ||| 2 ^ r)) : grW P U w1 R s h = grW P U w2 R s h := by
  unfold grW
  apply mxF_congr
  intro r hr
  cases hb : bt0 s r with
  | false => rfl
  | true => simp only [if_true, gw]; rw [hw r hr hb]
theorem Wt_full {D S T R : Nat} {P : Nat → Nat → Nat} {s : Nat} (h : opn s R = 0) : Wt D S T R P s = 0 := by
  unfold Wt
  rw [h]
  rfl
theorem Wt_step {D S T R : Nat} {P : Nat → Nat → Nat} {s : Nat} (h : 1 ≤ opn s R) : Wt D S T R P s = bf D S T (gd D S T R P s) := by
  obtain ⟨f, hf⟩ : ∃ f, opn s R = f + 1 := ⟨opn s R - 1, by omega⟩
  unfold Wt gd
  rw [hf]
  show bf D S T (grW P ((S ^ D) ^ (T * f)) (WtF D S T R P f) R s) = _
  congr 1
  funext x
  rw [Nat.add_sub_cancel]
  apply grW_congr
  intro r hr hb
  have := opn_or hb hr
  unfold Wt
  rw [show opn (s ||| 2 ^ r) R = f by omega]
theorem bf_le {S D T : Nat} (h2 : 2 ≤ S) (h6 : S ≤ 6) (hD : D ≤ 5) (hT : 1 ≤ T) {gr : Nat → Nat} {M : Nat} (hM : ∀ h, h < nh S D → sz S h = D → gr h ≤ M) : bf D S T gr ≤ M * (S ^ D) ^ T := by
  unfold bf
  have h1 := th_le h2 h6 hD (vl_le h2 h6 hD hM (T - 1)) 0 (nh_le h2 h6 hD).2
  rw [sz_0, Nat.sub_zero, Nat.mul_assoc, ← Nat.pow_succ, show (T - 1).succ = T by omega] at h1
  exact h1
theorem WtF_le {S D T R : Nat} {P : Nat → Nat → Nat} (h2 : 2 ≤ S) (h6 : S ≤ 6) (hD : D ≤ 5) (hT : 1 ≤ T) (hP : ∀ r h, r < R → h < nh S D → sz S h = D → P r h ≤ 210) : ∀ f s, WtF D S T R P f s ≤ 210 * f * (S ^ D) ^ (T * f)
  | 0, _ => Nat.zero_le _
  | f + 1, s => by
    have ih := WtF_le h2 h6 hD hT hP f
    have hg : ∀ h, h < nh S D → sz S h = D → grW P ((S ^ D) ^ (T * f)) (WtF D S T R P f) R s h ≤ 210 * (f + 1) * (S ^ D) ^ (T * f) := fun h hh hz => by
      unfold grW
      apply mxF_le
      intro r hr
      split
      · unfold gw
        have h1 := Nat.mul_le_mul_right ((S ^ D) ^ (T * f)) (hP r h hr hh hz)
        have h3 := ih (s ||| 2 ^ r)
        have e : 210 * (f + 1) * (S ^ D) ^ (T * f) = 210 * (S ^ D) ^ (T * f) + 210 * f * (S ^ D) ^ (T * f) := by
          rw [Nat.mul_add, Nat.mul_one, Nat.add_mul, Nat.add_comm]
        omega
      · exact Nat.zero_le _
    have h1 := bf_le h2 h6 hD hT hg
    rw [Nat.mul_assoc, ← Nat.pow_add, show T * f + T = T * (f + 1) by rw [Nat.mul_add, Nat.mul_one]] at h1
    exact h1
theorem gd_le {S D T R : Nat} {P : Nat → Nat → Nat} (h2 : 2 ≤ S) (h6 : S ≤ 6) (hD : D ≤ 5) (hT : 1 ≤ T) (hP : ∀ r h, r < R → h < nh S D → sz S h = D → P r h ≤ 210) {s : Nat} (hs : 1 ≤ opn s R) : ∀ h, h < nh S D → sz S h = D → gd D S T R P s h ≤ 210 * opn s R * (S ^ D) ^ (T * (opn s R - 1)) := fun h hh hz => by
  obtain ⟨f, hf⟩ : ∃ f, opn s R = f + 1 := ⟨opn s R - 1, by omega⟩
  unfold gd grW
  rw [hf, Nat.add_sub_cancel]
  apply mxF_le
  intro r hr
  cases hb : bt0 s r with
  | false => exact Nat.zero_le _
  | true =>
    simp only [if_true]
    unfold gw
    have h1 := Nat.mul_le_mul_right ((S ^ D) ^ (T * f)) (hP r h hr hh hz)
    have h3 := WtF_le h2 h6 hD hT hP f (s ||| 2 ^ r)
    have e1 : Wt D S T R P (s ||| 2 ^ r) = WtF D S T R P f (s ||| 2 ^ r) := by
      have := opn_or hb hr
      unfold Wt
      rw [show opn (s ||| 2 ^ r) R = f by omega]
    have e : 210 * (f + 1) * (S ^ D) ^ (T * f) = 210 * (S ^ D) ^ (T * f) + 210 * f * (S ^ D) ^ (T * f) := by
      rw [Nat.mul_add, Nat.mul_one, Nat.add_mul, Nat.add_comm]
    rw [e1]
    omega
/-- a game that is not LARGE has room for all of it in a long -/
theorem gd_room {S D T R : Nat} (hT : 1 ≤ T) (hR : R ≤ 8) (hS : 1 ≤ S) (hL : (S ^ D) ^ (T * R) ≤ 1000000000000000) {s : Nat} (hs : 1 ≤ opn s R) : 210 * opn s R * (S ^ D) ^ (T * (opn s R - 1)) * (S ^ D) ^ T < 2 ^ 63 := by
  have ho := opn_le s R
  rw [Nat.mul_assoc, ← Nat.pow_add, show T * (opn s R - 1) + T = T * opn s R by
    obtain ⟨f, hf⟩ : ∃ f, opn s R = f + 1 := ⟨opn s R - 1, by omega⟩
    rw [hf, Nat.add_sub_cancel, Nat.mul_add, Nat.mul_one]]
  have h1 : (S ^ D) ^ (T * opn s R) ≤ (S ^ D) ^ (T * R) := Nat.pow_le_pow_right (pw_pos hS D) (Nat.mul_le_mul_left T ho)
  have h3 : 210 * opn s R * (S ^ D) ^ (T * opn s R) ≤ 1680 * 1000000000000000 := Nat.mul_le_mul (by omega) (Nat.le_trans h1 hL)
  omega
