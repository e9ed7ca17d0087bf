section TF
variable {S : Nat}
theorem okS_at (h2 : 2 ≤ S) (h6 : S ≤ 6) {h : Nat} (hh : h < nh S 5) : (h + 1 = nh S 5 ∨ td S h < td S (h + 1)) ∧ tn (sh S h) 6 = td S h ∧ sz S h ≤ 5 ∧ (∀ s, s < 6 → s < S ∨ sh S h s = 0) ∧ (∀ d, d < 6 → (sz S h ≤ d ↔ h < nh S d)) ∧ (sz S h = 5 ∨ ∀ s, s < S → h < nx S h s ∧ nx S h s < nh S 5 ∧ sz S (nx S h s) = sz S h + 1 ∧ ∀ k, k < 6 → sh S (nx S h s) k = sh S h k + (if k = s then 1 else 0)) := by
  have h0 := al_spec (okS_all h2 h6) h hh
  simp only [Bool.and_eq_true, Bool.or_eq_true, beq_iff_eq, decide_eq_true_eq] at h0
  obtain ⟨⟨⟨⟨⟨a1, a2⟩, a3⟩, a4⟩, a5⟩, a6⟩ := h0
  refine ⟨a1, a2, a3, fun s hs => ?_, fun d hd => ?_, ?_⟩
  · have := al_spec a4 s hs
    simpa using this
  · have := al_spec a5 d hd
    simp only [beq_iff_eq] at this
    constructor
    · intro q; simpa [q] using this
    · intro q; simpa [q] using this
  · rcases a6 with q | q
    · exact Or.inl q
    · refine Or.inr fun s hs => ?_
      have := al_spec q s hs
      simp only [Bool.and_eq_true, beq_iff_eq, decide_eq_true_eq] at this
      obtain ⟨⟨⟨b1, b2⟩, b3⟩, b4⟩ := this
      exact ⟨b1, b2, b3, fun k hk => by have := al_spec b4 k hk; simpa using this⟩
theorem okP_at (h2 : 2 ≤ S) (h6 : S ≤ 6) {h : Nat} (hh : h < nh S 5) : td S h % 10 ≤ S ∧ (sz S h < 5 ∨ ∀ s, s < 6 → nx S h s = 0) ∧ (∀ s, s < 6 → sh S h s = 0 ∨ (pv S h s < h ∧ nx S (pv S h s) s = h)) ∧ (sz S h = 5 ∨ ((∀ s, s < S → if f1 S h ≤ s + 1 then nx S h s = nx S h (f1 S h - 1) + (s + 1 - f1 S h) ∧ td S (nx S h s) = td S h * 10 + (s + 1) else nx S h s < nx S h (f1 S h - 1)) ∧ nx S h (S - 1) + 1 = (if sz S (h + 1) = 5 then nh S 5 else nx S (h + 1) (f1 S (h + 1) - 1)))) := by
  have h0 := al_spec (okP_all h2 h6) h hh
  simp only [Bool.and_eq_true, Bool.or_eq_true, beq_iff_eq, decide_eq_true_eq] at h0
  obtain ⟨⟨⟨a1, a0⟩, a2⟩, a3⟩ := h0
  refine ⟨a1, a0.imp id (fun q s hs => by have := al_spec q s hs; simpa using this), fun s hs => ?_, ?_⟩
  · have := al_spec a2 s hs
    simpa using this
  · rcases a3 with q | ⟨q1, q2⟩
    · exact Or.inl q
    · refine Or.inr ⟨fun s hs => ?_, q2⟩
      have := al_spec q1 s hs
      split
      · rename_i c
        simpa [c] using this
      · rename_i c
        simpa [c] using this
theorem nh_S0 : nh S 0 = 1 := rfl
theorem nh_mono (h2 : 2 ≤ S) (h6 : S ≤ 6) {d e : Nat} (hd : d ≤ e) (he : e ≤ 5) : nh S d ≤ nh S e := by
  have hS : S = 2 ∨ S = 3 ∨ S = 4 ∨ S = 5 ∨ S = 6 := by omega
  have hD : d = 0 ∨ d = 1 ∨ d = 2 ∨ d = 3 ∨ d = 4 ∨ d = 5 := by omega
  have hE : e = 0 ∨ e = 1 ∨ e = 2 ∨ e = 3 ∨ e = 4 ∨ e = 5 := by omega
  rcases hS with rfl | rfl | rfl | rfl | rfl <;> rcases hD with rfl | rfl | rfl | rfl | rfl | rfl <;> rcases hE with rfl | rfl | rfl | rfl | rfl | rfl <;> first | decide | (exfalso; omega)
theorem nh_lt (h2 : 2 ≤ S) (h6 : S ≤ 6) {d e : Nat} (hd : d < e) (he : e ≤ 5) : nh S d < nh S e := by
  have hS : S = 2 ∨ S = 3 ∨ S = 4 ∨ S = 5 ∨ S = 6 := by omega
  have hD : d = 0 ∨ d = 1 ∨ d = 2 ∨ d = 3 ∨ d = 4 ∨ d = 5 := by omega
  have hE : e = 0 ∨ e = 1 ∨ e = 2 ∨ e = 3 ∨ e = 4 ∨ e = 5 := by omega
  rcases hS with rfl | rfl | rfl | rfl | rfl <;> rcases hD with rfl | rfl | rfl | rfl | rfl | rfl <;> rcases hE with rfl | rfl | rfl | rfl | rfl | rfl <;> first | decide | (exfalso; omega)
theorem nh_le (h2 : 2 ≤ S) (h6 : S ≤ 6) {d : Nat} (hd : d ≤ 5) : nh S d ≤ 462 ∧ 1 ≤ nh S d := by
  have h1 := nh_mono h2 h6 (Nat.zero_le d) hd
  have h3 := nh_mono h2 h6 hd (Nat.le_refl 5)
  have h4 : nh S 5 ≤ 462 := by
    have hS : S = 2 ∨ S = 3 ∨ S = 4 ∨ S = 5 ∨ S = 6 := by omega
    rcases hS with rfl | rfl | rfl | rfl | rfl <;> decide
  exact ⟨Nat.le_trans h3 h4, h1⟩
theorem td_mono (h2 : 2 ≤ S) (h6 : S ≤ 6) {a : Nat} : ∀ k, a + k + 1 < nh S 5 → td S a < td S (a + k + 1)
  | 0, h => by
    rcases (okS_at h2 h6 (h := a) (by omega)).1 with q | q
    · omega
    · exact q
  | k + 1, h => by
    have h1 := td_mono h2 h6 (a := a) k (by omega)
    rcases (okS_at h2 h6 (h := a + k + 1) (by omega)).1 with q | q
    · omega
    · exact Nat.lt_trans h1 q
theorem td_inj (h2 : 2 ≤ S) (h6 : S ≤ 6) {a b : Nat} (ha : a < nh S 5) (hb : b < nh S 5) (h : td S a = td S b) : a = b := by
  rcases Nat.lt_trichotomy a b with q | q | q
  · have := td_mono h2 h6 (a := a) (b - a - 1) (by omega)
    rw [show a + (b - a - 1) + 1 = b by omega] at this
    omega
  · exact q
  · have := td_mono h2 h6 (a := b) (a - b - 1) (by omega)
    rw [show b + (a - b - 1) + 1 = a by omega] at this
    omega
theorem tn_congr {c e : Nat → Nat} : ∀ {k : Nat}, (∀ i, i < k → c i = e i) → tn c k = tn e k
  | 0, _ => rfl
  | k + 1, h => by
    unfold tn
    rw [tn_congr (fun i hi => h i (by omega)), h k (by omega)]
theorem sh_inj (h2 : 2 ≤ S) (h6 : S ≤ 6) {a b : Nat} (ha : a < nh S 5) (hb : b < nh S 5) (h : ∀ k, k < 6 → sh S a k = sh S b k) : a = b := by
  apply td_inj h2 h6 ha hb
  rw [← (okS_at h2 h6 ha).2.1, ← (okS_at h2 h6 hb).2.1]
  exact tn_congr h
theorem sz_iff (h2 : 2 ≤ S) (h6 : S ≤ 6) {h d : Nat} (hd : d ≤ 5) (hh : h < nh S 5) : sz S h ≤ d ↔ h < nh S d := (okS_at h2 h6 hh).2.2.2.2.1 d (by omega)
theorem sz_of (h2 : 2 ≤ S) (h6 : S ≤ 6) {h d : Nat} (hd : d ≤ 5) (hh : h < nh S d) : sz S h ≤ d := (sz_iff h2 h6 hd (Nat.lt_of_lt_of_le hh (nh_mono h2 h6 hd (Nat.le_refl 5)))).mpr hh
theorem sz_0 (S : Nat) : sz S 0 = 0 := by
  unfold sz td
  split <;> rfl
theorem sh_0 (S s : Nat) : sh S 0 s = 0 := by
  unfold sh td
  split <;> rfl
theorem td_0 (S : Nat) : td S 0 = 0 := by
  unfold td
  split <;> rfl
/-- one die more -/
theorem nx_ok (h2 : 2 ≤ S) (h6 : S ≤ 6) {D h s : Nat} (hD : D ≤ 5) (hh : h < nh S D) (hz : sz S h < D) (hs : s < S) : h < nx S h s ∧ nx S h s < nh S D ∧ sz S (nx S h s) = sz S h + 1 ∧ ∀ k, k < 6 → sh S (nx S h s) k = sh S h k + (if k = s then 1 else 0) := by
  have hh5 := Nat.lt_of_lt_of_le hh (nh_mono h2 h6 hD (Nat.le_refl 5))
  rcases (okS_at h2 h6 hh5).2.2.2.2.2 with q | q
  · omega
  · obtain ⟨b1, b2, b3, b4⟩ := q s hs
    exact ⟨b1, (sz_iff h2 h6 hD b2).mp (by omega), b3, b4⟩
theorem nx_comm (h2 : 2 ≤ S) (h6 : S ≤ 6) {h a b : Nat} (hh : h < nh S 5) (hz : sz S h + 1 < 5) (ha : a < S) (hb : b < S) : nx S (nx S h a) b = nx S (nx S h b) a := by
  obtain ⟨-, a2, a3, a4⟩ := nx_ok h2 h6 (Nat.le_refl 5) hh (by omega) ha
  obtain ⟨-, b2, b3, b4⟩ := nx_ok h2 h6 (Nat.le_refl 5) hh (by omega) hb
  obtain ⟨-, c2, c3, c4⟩ := nx_ok h2 h6 (Nat.le_refl 5) a2 (by omega) hb
  obtain ⟨-, d2, d3, d4⟩ := nx_ok h2 h6 (Nat.le_refl 5) b2 (by omega) ha
  apply sh_inj h2 h6 c2 d2
  intro k hk
  rw [c4 k hk, d4 k hk, a4 k hk, b4 k hk]
  omega
/-- the part of a heap -/
def pt (S g h : Nat) : Prop := ∀ k, k < 6 → sh S g k ≤ sh S h k
theorem pt_rf {g : Nat} : pt S g g := fun _ _ => Nat.le_refl _
theorem pt_tr {a b c : Nat} (h1 : pt S a b) (h2 : pt S b c) : pt S a c := fun k hk => Nat.le_trans (h1 k hk) (h2 k hk)
theorem pt_nx (h2 : 2 ≤ S) (h6 : S ≤ 6) {h s : Nat} (hh : h < nh S 5) (hz : sz S h < 5) (hs : s < S) : pt S h (nx S h s) := fun k hk => by
  rw [(nx_ok h2 h6 (Nat.le_refl 5) hh hz hs).2.2.2 k hk]
  omega
/-- a part that isn't the whole is part of the heap with some die less -/
theorem pt_down (h2 : 2 ≤ S) (h6 : S ≤ 6) {g h : Nat} (hg : g < nh S 5) (hh : h < nh S 5) (hp : pt S g h) (hne : g ≠ h) : ∃ p s, s < S ∧ p < h ∧ nx S p s = h ∧ sz S p + 1 = sz S h ∧ pt S g p := by
  have hex : ∃ s, s < 6 ∧ sh S g s < sh S h s := by
    apply Classical.byContradiction
    intro hno
    apply hne
    apply sh_inj h2 h6 hg hh
    intro k hk
    have := hp k hk
    rcases Nat.lt_or_ge (sh S g k) (sh S h k) with q | q
    · exact absurd ⟨k, hk, q⟩ hno
    · omega
  obtain ⟨s, hs, hlt⟩ := hex
  have hsS : s < S := by
    rcases (okS_at h2 h6 hh).2.2.2.1 s hs with q | q
    · exact q
    · omega
  rcases (okP_at h2 h6 hh).2.2.1 s hs with q | ⟨q1, q2⟩
  · omega
  · have hp5 : pv S h s < nh S 5 := by omega
    have hz5 : sz S (pv S h s) < 5 := by
      rcases Nat.lt_or_ge (sz S (pv S h s)) 5 with z | z
      · exact z
      · rcases (okP_at h2 h6 hp5).2.1 with r | r
        · omega
        · have := r s hs
          omega
    obtain ⟨-, -, c3, c4⟩ := nx_ok h2 h6 (Nat.le_refl 5) hp5 hz5 hsS
    rw [q2] at c3 c4
    refine ⟨pv S h s, s, hsS, q1, q2, c3.symm, fun k hk => ?_⟩
    have e := c4 k hk
    have := hp k hk
    by_cases hks : k = s
    · subst hks
      simp at e
      omega
    · simp [hks] at e
      omega
end TF
