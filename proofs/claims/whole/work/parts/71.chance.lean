/-! what a sheet can still add at least and at most; the chance outside of that -/
def mnF (f : Nat → Nat) : Nat → Nat
  | 0 => f 0
  | k + 1 => min (mnF f k) (f (k + 1))
theorem mnF_le (f : Nat → Nat) : ∀ {k i : Nat}, i ≤ k → mnF f k ≤ f i
  | 0, i, h => by
    have e : i = 0 := by omega
    subst e
    exact Nat.le_refl _
  | k + 1, i, h => by
    unfold mnF
    rcases Nat.lt_or_ge i (k + 1) with q | q
    · have := mnF_le f (k := k) (i := i) (by omega)
      omega
    · have e : i = k + 1 := by omega
      subst e
      omega
def rlN (D S : Nat) (P : Nat → Nat → Nat) (r : Nat) : Nat := mnF (fun i => P r (nh S (D - 1) + i)) (wh S D - 1)
def rmN (D S : Nat) (P : Nat → Nat → Nat) (r : Nat) : Nat := mxF (fun i => P r (nh S (D - 1) + i)) (wh S D)
def lsN (D S R : Nat) (P : Nat → Nat → Nat) (s : Nat) : Nat := smF (fun r => if bt0 s r then rlN D S P r else 0) R
def msN (D S R : Nat) (P : Nat → Nat → Nat) (s : Nat) : Nat := smF (fun r => if bt0 s r then rmN D S P r else 0) R
theorem smF_bit {s r : Nat} {f : Nat → Nat} (hb : bt0 s r = true) : ∀ {R : Nat}, r < R → smF (fun j => if bt0 s j then f j else 0) R = smF (fun j => if bt0 (s ||| 2 ^ r) j then f j else 0) R + f r
  | 0, h => absurd h (Nat.not_lt_zero r)
  | R + 1, h => by
    rw [show smF (fun j => if bt0 s j then f j else 0) (R + 1) = smF (fun j => if bt0 s j then f j else 0) R + (if bt0 s R then f R else 0) from rfl, show smF (fun j => if bt0 (s ||| 2 ^ r) j then f j else 0) (R + 1) = smF (fun j => if bt0 (s ||| 2 ^ r) j then f j else 0) R + (if bt0 (s ||| 2 ^ r) R then f R else 0) from rfl]
    rcases Nat.lt_or_ge r R with q | q
    · have ih := smF_bit (f := f) hb q
      have e : bt0 (s ||| 2 ^ r) R = bt0 s R := by
        rw [bt0_or, decide_eq_false (by omega)]
        cases bt0 s R <;> rfl
      rw [e, ih]
      omega
    · have er : r = R := by omega
      subst er
      have e : bt0 (s ||| 2 ^ r) r = false := by
        rw [bt0_or, decide_eq_true rfl]
        cases bt0 s r <;> rfl
      have e2 : smF (fun j => if bt0 (s ||| 2 ^ r) j then f j else 0) r = smF (fun j => if bt0 s j then f j else 0) r := smF_congr (fun j hj => by
        rw [bt0_or, decide_eq_false (by omega)]
        cases bt0 s j <;> rfl)
      rw [e, e2, hb]
      simp
section CN
variable {D S T R : Nat} {P : Nat → Nat → Nat}
theorem smF_zero {s : Nat} {f : Nat → Nat} (h : opn s R = 0) : smF (fun r => if bt0 s r then f r else 0) R = 0 := by
  have := smF_const (f := fun r => if bt0 s r then f r else 0) (M := 0) (n := R) (fun r hr => by simp [opn_zero h r hr])
  rw [Nat.mul_zero] at this
  exact this
theorem wh_pos (N : GN D S T R) : 1 ≤ wh S D := by
  obtain ⟨h2, h6, hD1, hD, -⟩ := N
  have := nh_lt h2 h6 (show D - 1 < D by omega) hD
  unfold wh
  omega
theorem rl_le (N : GN D S T R) {h r : Nat} (hh : h < nh S D) (hz : sz S h = D) : rlN D S P r ≤ P r h ∧ P r h ≤ rmN D S P r := by
  obtain ⟨h2, h6, hD1, hD, -⟩ := id N
  have h1 := (sz_wh h2 h6 hD1 hD hh).mp hz
  have h3 := wh_add h2 h6 hD
  have e : nh S (D - 1) + (h - nh S (D - 1)) = h := by omega
  have a := mnF_le (fun i => P r (nh S (D - 1) + i)) (k := wh S D - 1) (i := h - nh S (D - 1)) (by omega)
  have b := mxF_ge (f := fun i => P r (nh S (D - 1) + i)) (n := wh S D) (i := h - nh S (D - 1)) (by omega)
  simp only [e] at a b
  exact ⟨a, b⟩
theorem bf_const (N : GN D S T R) {gr : Nat → Nat} {M : Nat} (hM : ∀ h, h < nh S D → sz S h = D → gr h = M) : bf D S T gr = M * (S ^ D) ^ T := by
  obtain ⟨h2, h6, hD1, hD, hT1, -⟩ := N
  unfold bf
  have h1 := th_const h2 h6 hD (vl_const h2 h6 hD hM (T - 1)) 0 (nh_le h2 h6 hD).2
  rw [sz_0, Nat.sub_zero, Nat.mul_assoc, ← Nat.pow_succ, show (T - 1).succ = T by omega] at h1
  exact h1
theorem ch_lo (N : GN D S T R) : ∀ (f s w : Nat), opn s R = f → w ≤ lsN D S R P s → chN D S T R P s w = (S ^ D) ^ (T * opn s R) := by
  intro f
  induction f with
  | zero =>
    intro s w ho hw
    have : lsN D S R P s = 0 := smF_zero ho
    rw [ch_full ho, if_pos (by omega), ho]
    rfl
  | succ f ih =>
    intro s w ho hw
    obtain ⟨h2, h6, hD1, hD, hT1, -⟩ := id N
    rw [ch_step (by omega), bf_const N (M := (S ^ D) ^ (T * f)) (fun h hh hz => ?_), ho, ← Nat.pow_add, show T * f + T = T * (f + 1) by rw [Nat.mul_add, Nat.mul_one]]
    have val : ∀ r, r < R → bt0 s r = true → chN D S T R P (s ||| 2 ^ r) (w - P r h) = (S ^ D) ^ (T * f) := fun r hr hb => by
      have e1 := opn_pred hb hr
      have e2 : lsN D S R P s = lsN D S R P (s ||| 2 ^ r) + rlN D S P r := smF_bit hb hr
      have e3 := (rl_le (P := P) (r := r) N hh hz).1
      rw [ih (s ||| 2 ^ r) (w - P r h) (by omega) (by omega), e1, ho, Nat.add_sub_cancel]
    obtain ⟨r0, a1, a2⟩ := opn_pos (show 1 ≤ opn s R by omega)
    unfold gc grC
    apply Nat.le_antisymm
    · apply mxF_le
      intro r hr
      cases hb : bt0 s r with
      | false => exact Nat.zero_le _
      | true => simp only [if_true]; rw [val r hr hb]; exact Nat.le_refl _
    · have := mxF_ge (f := fun r => if bt0 s r then chN D S T R P (s ||| 2 ^ r) (w - P r h) else 0) a1
      simp only [a2, if_true] at this
      rw [val r0 a1 a2] at this
      exact this
theorem ch_hi (N : GN D S T R) : ∀ (f s w : Nat), opn s R = f → msN D S R P s < w → chN D S T R P s w = 0 := by
  intro f
  induction f with
  | zero =>
    intro s w ho hw
    rw [ch_full ho, if_neg (by omega)]
  | succ f ih =>
    intro s w ho hw
    obtain ⟨h2, h6, hD1, hD, hT1, -⟩ := id N
    rw [ch_step (by omega), bf_const N (M := 0) (fun h hh hz => ?_), Nat.zero_mul]
    unfold gc grC
    apply Nat.eq_zero_of_le_zero
    apply mxF_le
    intro r hr
    cases hb : bt0 s r with
    | false => exact Nat.zero_le _
    | true =>
      simp only [if_true]
      have e1 := opn_pred hb hr
      have e2 : msN D S R P s = msN D S R P (s ||| 2 ^ r) + rmN D S P r := smF_bit hb hr
      have e3 := (rl_le (P := P) (r := r) N hh hz).2
      rw [ih (s ||| 2 ^ r) (w - P r h) (by omega) (by omega)]
      exact Nat.le_refl _
theorem ch_le (N : GN D S T R) (s w : Nat) : chN D S T R P s w ≤ 1000000000000000 := by
  obtain ⟨h2, h6, hD1, hD, hT1, hT3, hR1, hR, hL⟩ := N
  refine Nat.le_trans (chF_le h2 h6 hD hT1 (opn s R) s w) (Nat.le_trans (Nat.pow_le_pow_right (pw_pos (by omega) D) (Nat.mul_le_mul_left T (opn_le s R))) hL)
theorem rm_le (hP : ∀ r h, r < R → P r h ≤ 210) {r : Nat} (hr : r < R) : rmN D S P r ≤ 210 := mxF_le (fun i _ => hP r _ hr)
theorem rl_rm (N : GN D S T R) (r : Nat) : rlN D S P r ≤ rmN D S P r := by
  have h1 := wh_pos N
  have a := mnF_le (fun i => P r (nh S (D - 1) + i)) (k := wh S D - 1) (i := 0) (by omega)
  have b := mxF_ge (f := fun i => P r (nh S (D - 1) + i)) (n := wh S D) (i := 0) (by omega)
  exact Nat.le_trans a b
theorem smF_mono {f g : Nat → Nat} : ∀ {n : Nat}, (∀ i, i < n → f i ≤ g i) → smF f n ≤ smF g n
  | 0, _ => Nat.le_refl _
  | n + 1, h => by
    have h1 := smF_mono (f := f) (g := g) (n := n) (fun i hi => h i (by omega))
    have h2 := h n (by omega)
    unfold smF
    omega
theorem ls_ms (N : GN D S T R) (s : Nat) : lsN D S R P s ≤ msN D S R P s := smF_mono (fun r _ => by
  cases bt0 s r
  · exact Nat.le_refl _
  · exact rl_rm N r)
theorem ms_le (N : GN D S T R) (hP : ∀ r h, r < R → P r h ≤ 210) (s : Nat) : msN D S R P s ≤ 1680 := by
  obtain ⟨h2, h6, hD1, hD, hT1, hT3, hR1, hR, hL⟩ := id N
  have := smF_le (f := fun r => if bt0 s r then rmN D S P r else 0) (M := 210) (n := R) (fun r hr => by
    cases bt0 s r
    · exact Nat.zero_le _
    · exact rm_le hP hr)
  unfold msN
  omega
end CN
/-- the cells of a sheet's chances, by how many sheets stand ahead of it -/
def wcN (D S R : Nat) (P : Nat → Nat → Nat) (c : Nat) : Nat := msN D S R P (2 ^ R - 1 - c) - lsN D S R P (2 ^ R - 1 - c)
def stN (D S R : Nat) (P : Nat → Nat → Nat) (s : Nat) : Nat := smF (wcN D S R P) (2 ^ R - 1 - s)
def ttN (D S R : Nat) (P : Nat → Nat → Nat) : Nat := smF (wcN D S R P) (2 ^ R)
theorem wc_le {D S T R : Nat} {P : Nat → Nat → Nat} (N : GN D S T R) (hP : ∀ r h, r < R → P r h ≤ 210) (c : Nat) : wcN D S R P c ≤ 1680 := Nat.le_trans (Nat.sub_le _ _) (ms_le N hP _)
theorem sc_le {D S T R : Nat} {P : Nat → Nat → Nat} (N : GN D S T R) (hP : ∀ r h, r < R → P r h ≤ 210) {c : Nat} (hc : c ≤ 256) : smF (wcN D S R P) c ≤ 430080 := by
  have := smF_le (f := wcN D S R P) (M := 1680) (n := c) (fun i _ => wc_le N hP i)
  omega
theorem st_tt {D S R : Nat} {P : Nat → Nat → Nat} {s : Nat} (hs : s < 2 ^ R) : stN D S R P s + (msN D S R P s - lsN D S R P s) ≤ ttN D S R P := by
  have := smF_part (f := wcN D S R P) (n := 2 ^ R) (i := 2 ^ R - 1 - s) (by omega)
  have e : 2 ^ R - 1 - (2 ^ R - 1 - s) = s := by omega
  unfold wcN at this
  rw [e] at this
  exact this
theorem st_apart {D S R : Nat} {P : Nat → Nat → Nat} {s t i j : Nat} (hs : s < 2 ^ R) (ht : t < 2 ^ R) (hi : i < msN D S R P s - lsN D S R P s) (hj : j < msN D S R P t - lsN D S R P t) (h : stN D S R P s + i = stN D S R P t + j) : s = t ∧ i = j := by
  have key : ∀ s t, s < 2 ^ R → t < 2 ^ R → s < t → stN D S R P t + (msN D S R P t - lsN D S R P t) ≤ stN D S R P s := fun s t hs ht q => by
    have := smF_part (f := wcN D S R P) (n := 2 ^ R - 1 - s) (i := 2 ^ R - 1 - t) (by omega)
    have e : 2 ^ R - 1 - (2 ^ R - 1 - t) = t := by omega
    have e2 : wcN D S R P (2 ^ R - 1 - t) = msN D S R P t - lsN D S R P t := by unfold wcN; rw [e]
    rw [e2] at this
    exact this
  rcases Nat.lt_trichotomy s t with q | q | q
  · have := key s t hs ht q
    omega
  · subst q
    exact ⟨rfl, by omega⟩
  · have := key t s ht hs q
    omega
theorem xo_al : al (fun R => al (fun r => al (fun l => (!decide (r < R) || !decide (l < 2 ^ r)) || (decide ((2 ^ R - 1) ^^^ l = 2 ^ R - 1 - l) && decide ((2 ^ R - 1 - l) ^^^ 2 ^ r = 2 ^ R - 1 - (2 ^ r + l)) && decide ((2 ^ R - 1 - (2 ^ r + l)) ||| 2 ^ r = 2 ^ R - 1 - l) && bt0 (2 ^ R - 1 - (2 ^ r + l)) r)) 128) 8) 9 = true := by decide +kernel
theorem xo_at {R r l : Nat} (hR : R ≤ 8) (hr : r < R) (hl : l < 2 ^ r) : (2 ^ R - 1) ^^^ l = 2 ^ R - 1 - l ∧ (2 ^ R - 1 - l) ^^^ 2 ^ r = 2 ^ R - 1 - (2 ^ r + l) ∧ (2 ^ R - 1 - (2 ^ r + l)) ||| 2 ^ r = 2 ^ R - 1 - l ∧ bt0 (2 ^ R - 1 - (2 ^ r + l)) r = true := by
  have h7 : 2 ^ r ≤ 2 ^ 7 := Nat.pow_le_pow_right (by decide) (by omega)
  have := al_spec (al_spec (al_spec xo_al R (by omega)) r (by omega)) l (by omega)
  rw [decide_eq_true hr, decide_eq_true hl] at this
  simp only [Bool.not_true, Bool.false_or, Bool.and_eq_true, decide_eq_true_eq] at this
  exact ⟨this.1.1.1, this.1.1.2, this.1.2, this.2⟩
theorem xor_n (a b : Nat) : nI a ^^^ nI b = nI (a ^^^ b) := by
  apply Int32.toBitVec_inj.mp
  simp [nI]
