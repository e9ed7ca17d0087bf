/-! the worth of a turn, in whole numbers -/
def smF (f : Nat → Nat) : Nat → Nat
  | 0 => 0
  | n + 1 => smF f n + f n
def mxF (f : Nat → Nat) : Nat → Nat
  | 0 => 0
  | n + 1 => max (mxF f n) (f n)
def ptb (S g h : Nat) : Bool := al (fun k => decide (sh S g k ≤ sh S h k)) 6
theorem al_of {p : Nat → Bool} : ∀ {n : Nat}, (∀ i, i < n → p i = true) → al p n = true
  | 0, _ => rfl
  | n + 1, h => by
    unfold al
    rw [h n (by omega), al_of (fun i hi => h i (by omega))]
    rfl
theorem ptb_iff {S g h : Nat} : ptb S g h = true ↔ pt S g h := by
  constructor
  · intro q k hk
    have := al_spec q k hk
    simpa using this
  · intro q
    exact al_of (fun k hk => by simpa using q k hk)
def thF (S : Nat) (val : Nat → Nat) : Nat → Nat → Nat
  | 0, h => val h
  | k + 1, h => smF (fun s => thF S val k (nx S h s)) S
def th (D S : Nat) (val : Nat → Nat) (h : Nat) : Nat := thF S val (D - sz S h) h
def hv (D S : Nat) (val : Nat → Nat) (g : Nat) : Nat := th D S val g * S ^ sz S g
def bst (D S : Nat) (val : Nat → Nat) (h : Nat) : Nat := mxF (fun g => if ptb S g h then hv D S val g else 0) (nh S D)
def vl (D S : Nat) (gr : Nat → Nat) : Nat → Nat → Nat
  | 0, h => gr h
  | k + 1, h => bst D S (vl D S gr k) h
def bf (D S T : Nat) (gr : Nat → Nat) : Nat := th D S (vl D S gr (T - 1)) 0
theorem smF_congr {f g : Nat → Nat} : ∀ {n : Nat}, (∀ i, i < n → f i = g i) → smF f n = smF g n
  | 0, _ => rfl
  | n + 1, h => by
    unfold smF
    rw [smF_congr (fun i hi => h i (by omega)), h n (by omega)]
theorem smF_le {f : Nat → Nat} {M : Nat} : ∀ {n : Nat}, (∀ i, i < n → f i ≤ M) → smF f n ≤ n * M
  | 0, _ => by simp [smF]
  | n + 1, h => by
    have h1 := smF_le (f := f) (M := M) (n := n) (fun i hi => h i (by omega))
    have h2 := h n (by omega)
    unfold smF
    rw [Nat.succ_mul]
    omega
theorem smF_const {f : Nat → Nat} {M : Nat} : ∀ {n : Nat}, (∀ i, i < n → f i = M) → smF f n = n * M
  | 0, _ => by simp [smF]
  | n + 1, h => by
    have h1 := smF_const (f := f) (M := M) (n := n) (fun i hi => h i (by omega))
    have h2 := h n (by omega)
    unfold smF
    rw [Nat.succ_mul]
    omega
theorem smF_part {f : Nat → Nat} {n i : Nat} (h : i < n) : smF f i + f i ≤ smF f n := by
  induction n with
  | zero => exact absurd h (Nat.not_lt_zero i)
  | succ n ih =>
    rw [show smF f (n + 1) = smF f n + f n from rfl]
    rcases Nat.lt_or_ge i n with q | q
    · have := ih q
      omega
    · have e : i = n := by omega
      subst e
      exact Nat.le_refl _
theorem mxF_congr {f g : Nat → Nat} : ∀ {n : Nat}, (∀ i, i < n → f i = g i) → mxF f n = mxF g n
  | 0, _ => rfl
  | n + 1, h => by
    unfold mxF
    rw [mxF_congr (fun i hi => h i (by omega)), h n (by omega)]
theorem mxF_le {f : Nat → Nat} {M : Nat} : ∀ {n : Nat}, (∀ i, i < n → f i ≤ M) → mxF f n ≤ M
  | 0, _ => Nat.zero_le _
  | n + 1, h => by
    have h1 := mxF_le (f := f) (M := M) (n := n) (fun i hi => h i (by omega))
    have h2 := h n (by omega)
    unfold mxF
    omega
theorem mxF_ge {f : Nat → Nat} : ∀ {n i : Nat}, i < n → f i ≤ mxF f n
  | 0, i, h => absurd h (Nat.not_lt_zero i)
  | n + 1, i, h => by
    unfold mxF
    rcases Nat.lt_or_ge i n with q | q
    · have := mxF_ge (f := f) q
      omega
    · have e : i = n := by omega
      subst e
      omega
theorem th_whole {D S h : Nat} {val : Nat → Nat} (hz : sz S h = D) : th D S val h = val h := by
  unfold th
  rw [hz, Nat.sub_self]
  rfl
section PU
variable {S D : Nat} {val : Nat → Nat}
theorem th_step (h2 : 2 ≤ S) (h6 : S ≤ 6) (hD : D ≤ 5) {h : Nat} (hh : h < nh S D) (hz : sz S h < D) : th D S val h = smF (fun s => th D S val (nx S h s)) S := by
  unfold th
  obtain ⟨k, hk⟩ : ∃ k, D - sz S h = k + 1 := ⟨D - sz S h - 1, by omega⟩
  rw [hk]
  apply smF_congr
  intro s hs
  have := (nx_ok h2 h6 hD hh hz hs).2.2.1
  rw [this, show D - (sz S h + 1) = k by omega]
/-- along the heaps, from the whole ones down -/
theorem hd_ind (h2 : 2 ≤ S) (h6 : S ≤ 6) (hD : D ≤ 5) {P : Nat → Prop} (hw : ∀ h, h < nh S D → sz S h = D → P h) (hs : ∀ h, h < nh S D → sz S h < D → (∀ s, s < S → P (nx S h s)) → P h) : ∀ h, h < nh S D → P h := by
  have key : ∀ k h, h < nh S D → D - sz S h = k → P h := by
    intro k
    induction k with
    | zero => intro h hh hk; exact hw h hh (by have := sz_of h2 h6 hD hh; omega)
    | succ k ih =>
      intro h hh hk
      refine hs h hh (by omega) (fun s hs' => ?_)
      obtain ⟨-, b2, b3, -⟩ := nx_ok h2 h6 hD hh (by omega) hs'
      exact ih _ b2 (by omega)
  exact fun h hh => key _ h hh rfl
theorem th_congr (h2 : 2 ≤ S) (h6 : S ≤ 6) (hD : D ≤ 5) {v w : Nat → Nat} (hvw : ∀ h, h < nh S D → sz S h = D → v h = w h) : ∀ h, h < nh S D → th D S v h = th D S w h := by
  refine hd_ind h2 h6 hD (fun h hh hz => ?_) (fun h hh hz ih => ?_)
  · rw [th_whole hz, th_whole hz, hvw h hh hz]
  · rw [th_step h2 h6 hD hh hz, th_step h2 h6 hD hh hz]
    exact smF_congr (fun s hs => ih s hs)
theorem th_le (h2 : 2 ≤ S) (h6 : S ≤ 6) (hD : D ≤ 5) {M : Nat} (hM : ∀ h, h < nh S D → sz S h = D → val h ≤ M) : ∀ h, h < nh S D → th D S val h ≤ M * S ^ (D - sz S h) := by
  refine hd_ind h2 h6 hD (fun h hh hz => ?_) (fun h hh hz ih => ?_)
  · rw [th_whole hz, hz, Nat.sub_self, Nat.pow_zero, Nat.mul_one]
    exact hM h hh hz
  · rw [th_step h2 h6 hD hh hz]
    have h1 : ∀ s, s < S → th D S val (nx S h s) ≤ M * S ^ (D - sz S h - 1) := fun s hs => by
      have := ih s hs
      rw [(nx_ok h2 h6 hD hh hz hs).2.2.1] at this
      exact this
    have h3 := smF_le h1
    have e : M * S ^ (D - sz S h) = S * (M * S ^ (D - sz S h - 1)) := by
      conv => lhs; rw [show D - sz S h = D - sz S h - 1 + 1 by omega, Nat.pow_succ]
      rw [Nat.mul_comm (S ^ _) S, ← Nat.mul_assoc, Nat.mul_comm M S, Nat.mul_assoc]
    omega
theorem th_const (h2 : 2 ≤ S) (h6 : S ≤ 6) (hD : D ≤ 5) {M : Nat} (hM : ∀ h, h < nh S D → sz S h = D → val h = M) : ∀ h, h < nh S D → th D S val h = M * S ^ (D - sz S h) := by
  refine hd_ind h2 h6 hD (fun h hh hz => ?_) (fun h hh hz ih => ?_)
  · rw [th_whole hz, hz, Nat.sub_self, Nat.pow_zero, Nat.mul_one]
    exact hM h hh hz
  · rw [th_step h2 h6 hD hh hz]
    have h1 : ∀ s, s < S → th D S val (nx S h s) = M * S ^ (D - sz S h - 1) := fun s hs => by
      have := ih s hs
      rw [(nx_ok h2 h6 hD hh hz hs).2.2.1] at this
      exact this
    have h3 := smF_const h1
    have e : M * S ^ (D - sz S h) = S * (M * S ^ (D - sz S h - 1)) := by
      conv => lhs; rw [show D - sz S h = D - sz S h - 1 + 1 by omega, Nat.pow_succ]
      rw [Nat.mul_comm (S ^ _) S, ← Nat.mul_assoc, Nat.mul_comm M S, Nat.mul_assoc]
    omega
theorem pow_split {g : Nat} (hz : sz S g ≤ D) : S ^ (D - sz S g) * S ^ sz S g = S ^ D := by
  rw [← Nat.pow_add]
  congr 1
  omega
theorem hv_le (h2 : 2 ≤ S) (h6 : S ≤ 6) (hD : D ≤ 5) {M : Nat} (hM : ∀ h, h < nh S D → sz S h = D → val h ≤ M) {g : Nat} (hg : g < nh S D) : hv D S val g ≤ M * S ^ D := by
  unfold hv
  have h1 := th_le h2 h6 hD hM g hg
  have h3 := Nat.mul_le_mul_right (S ^ sz S g) h1
  rw [Nat.mul_assoc, pow_split (sz_of h2 h6 hD hg)] at h3
  exact h3
theorem hv_const (h2 : 2 ≤ S) (h6 : S ≤ 6) (hD : D ≤ 5) {M : Nat} (hM : ∀ h, h < nh S D → sz S h = D → val h = M) {g : Nat} (hg : g < nh S D) : hv D S val g = M * S ^ D := by
  unfold hv
  rw [th_const h2 h6 hD hM g hg, Nat.mul_assoc, pow_split (sz_of h2 h6 hD hg)]
theorem hv_congr (h2 : 2 ≤ S) (h6 : S ≤ 6) (hD : D ≤ 5) {v w : Nat → Nat} (hvw : ∀ h, h < nh S D → sz S h = D → v h = w h) {g : Nat} (hg : g < nh S D) : hv D S v g = hv D S w g := by
  unfold hv
  rw [th_congr h2 h6 hD hvw g hg]
theorem bst_congr (h2 : 2 ≤ S) (h6 : S ≤ 6) (hD : D ≤ 5) {v w : Nat → Nat} (hvw : ∀ h, h < nh S D → sz S h = D → v h = w h) (h : Nat) : bst D S v h = bst D S w h := by
  unfold bst
  apply mxF_congr
  intro g hg
  rw [hv_congr h2 h6 hD hvw hg]
theorem bst_le (h2 : 2 ≤ S) (h6 : S ≤ 6) (hD : D ≤ 5) {M : Nat} (hM : ∀ h, h < nh S D → sz S h = D → val h ≤ M) (h : Nat) : bst D S val h ≤ M * S ^ D := by
  unfold bst
  apply mxF_le
  intro g hg
  split
  · exact hv_le h2 h6 hD hM hg
  · exact Nat.zero_le _
theorem bst_const (h2 : 2 ≤ S) (h6 : S ≤ 6) (hD : D ≤ 5) {M : Nat} (hM : ∀ h, h < nh S D → sz S h = D → val h = M) {h : Nat} (hh : h < nh S D) : bst D S val h = M * S ^ D := by
  apply Nat.le_antisymm
  · exact bst_le h2 h6 hD (fun h hh hz => Nat.le_of_eq (hM h hh hz)) h
  · have := mxF_ge (f := fun g => if ptb S g h then hv D S val g else 0) hh
    simp only [ptb_iff.mpr (pt_rf (S := S) (g := h)), if_true] at this
    rw [hv_const h2 h6 hD hM hh] at this
    exact this
theorem vl_le (h2 : 2 ≤ S) (h6 : S ≤ 6) (hD : D ≤ 5) {gr : Nat → Nat} {M : Nat} (hM : ∀ h, h < nh S D → sz S h = D → gr h ≤ M) : ∀ k h, h < nh S D → sz S h = D → vl D S gr k h ≤ M * (S ^ D) ^ k
  | 0, h, hh, hz => by rw [Nat.pow_zero, Nat.mul_one]; exact hM h hh hz
  | k + 1, h, hh, hz => by
    rw [Nat.pow_succ, ← Nat.mul_assoc]
    exact bst_le h2 h6 hD (vl_le h2 h6 hD hM k) h
theorem vl_const (h2 : 2 ≤ S) (h6 : S ≤ 6) (hD : D ≤ 5) {gr : Nat → Nat} {M : Nat} (hM : ∀ h, h < nh S D → sz S h = D → gr h = M) : ∀ k h, h < nh S D → sz S h = D → vl D S gr k h = M * (S ^ D) ^ k
  | 0, h, hh, hz => by rw [Nat.pow_zero, Nat.mul_one]; exact hM h hh hz
  | k + 1, h, hh, hz => by
    rw [Nat.pow_succ, ← Nat.mul_assoc]
    exact bst_const h2 h6 hD (vl_const h2 h6 hD hM k) hh
theorem vl_congr (h2 : 2 ≤ S) (h6 : S ≤ 6) (hD : D ≤ 5) {g1 g2 : Nat → Nat} (hg : ∀ h, h < nh S D → sz S h = D → g1 h = g2 h) : ∀ k h, h < nh S D → sz S h = D → vl D S g1 k h = vl D S g2 k h
  | 0, h, hh, hz => hg h hh hz
  | k + 1, h, _, _ => bst_congr h2 h6 hD (vl_congr h2 h6 hD hg k) h
end PU
