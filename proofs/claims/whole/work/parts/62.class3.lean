/-! THE CLASS: Heaps -/
/-- the largest die of a heap; the heap without it -/
def lst (S h : Nat) : Nat := td S h % 10
def wlT (S h : Nat) : Nat := pv S h (lst S h - 1)
def okW (S : Nat) : Bool := al (fun h => h == 0 || (decide (1 ≤ lst S h) && decide (lst S h ≤ S) && (td S (wlT S h) == td S h / 10) && decide (wlT S h < h) && (sz S h == sz S (wlT S h) + 1) && (nx S (wlT S h) (lst S h - 1) == h) && al (fun k => sh S h k == sh S (wlT S h) k + (if k = lst S h - 1 then 1 else 0)) 6 && al (fun k => decide (k < lst S h) || sh S h k == 0) 6)) (nh S 5)
theorem okW_all {S : Nat} (h2 : 2 ≤ S) (h6 : S ≤ 6) : okW S = true := by
  have h : S = 2 ∨ S = 3 ∨ S = 4 ∨ S = 5 ∨ S = 6 := by omega
  rcases h with rfl | rfl | rfl | rfl | rfl <;> decide +kernel
theorem okW_at {S h : Nat} (h2 : 2 ≤ S) (h6 : S ≤ 6) (hh : h < nh S 5) (h0 : 1 ≤ h) : 1 ≤ lst S h ∧ lst S h ≤ S ∧ td S (wlT S h) = td S h / 10 ∧ wlT S h < h ∧ sz S h = sz S (wlT S h) + 1 ∧ nx S (wlT S h) (lst S h - 1) = h ∧ (∀ k, k < 6 → sh S h k = sh S (wlT S h) k + (if k = lst S h - 1 then 1 else 0)) ∧ ∀ k, k < 6 → lst S h ≤ k → sh S h k = 0 := by
  have := al_spec (okW_all h2 h6) h hh
  simp only [Bool.and_eq_true, Bool.or_eq_true, decide_eq_true_eq, beq_iff_eq] at this
  rcases this with q | ⟨⟨⟨⟨⟨⟨⟨a1, a2⟩, a3⟩, a4⟩, a5⟩, a6⟩, a7⟩, a8⟩
  · omega
  · refine ⟨a1, a2, a3, a4, a5, a6, fun k hk => ?_, fun k hk hl => ?_⟩
    · have := al_spec a7 k hk
      simpa using this
    · have := al_spec a8 k hk
      simp only [Bool.or_eq_true, decide_eq_true_eq, beq_iff_eq] at this
      omega
theorem h0_iff {S h : Nat} (h2 : 2 ≤ S) (h6 : S ≤ 6) (hh : h < nh S 5) : td S h = 0 ↔ h = 0 := by
  constructor
  · intro e
    apply td_inj h2 h6 hh (nh_le h2 h6 (Nat.le_refl 5)).2
    rw [e, td_0]
  · rintro rfl
    exact td_0 S
/-- as the class finds out whether a heap holds all of another -/
def grd : Nat → Nat → Nat → Bool
  | 0, _, q => decide (q = 0)
  | f + 1, r, q => if q = 0 then true else grd f (r / 10) (if r % 10 = q % 10 then q / 10 else q)
theorem grd_pt {S : Nat} (h2 : 2 ≤ S) (h6 : S ≤ 6) : ∀ (f : Nat) {h g : Nat}, h < nh S 5 → g < nh S 5 → sz S h ≤ f → grd f (td S h) (td S g) = ptb S g h
  | f, h, g, hh, hg, hz => by
    have key0 : ∀ {g}, g < nh S 5 → decide (td S g = 0) = ptb S g 0 := fun {g} hg => by
      by_cases e : g = 0
      · rw [e, td_0, (ptb_iff (S := S)).mpr pt_rf]
        rfl
      · obtain ⟨a1, a2, -, -, -, -, a7, -⟩ := okW_at h2 h6 hg (by omega)
        rw [decide_eq_false (fun q => e ((h0_iff h2 h6 hg).mp q))]
        cases hp : ptb S g 0 with
        | false => rfl
        | true =>
          have := ptb_iff.mp hp (lst S g - 1) (by omega)
          rw [a7 _ (by omega), if_pos rfl, sh_0] at this
          omega
    cases f with
    | zero =>
      have e : h = 0 := by
        have := (sz_iff h2 h6 (d := 0) (by omega) hh).mp hz
        rw [nh_S0] at this
        omega
      subst e
      exact key0 hg
    | succ f =>
      unfold grd
      by_cases e : g = 0
      · rw [if_pos ((h0_iff h2 h6 hg).mpr e), e]
        exact (ptb_iff.mpr (fun k _ => by rw [sh_0]; exact Nat.zero_le _)).symm
      · rw [if_neg (fun q => e ((h0_iff h2 h6 hg).mp q))]
        obtain ⟨a1, a2, a3, a4, a5, a6, a7, a8⟩ := okW_at h2 h6 hg (by omega)
        by_cases eh : h = 0
        · subst eh
          have hlg : ¬ td S 0 % 10 = td S g % 10 := by
            rw [td_0]
            show ¬ 0 % 10 = lst S g
            omega
          rw [if_neg hlg, td_0]
          have := grd_pt h2 h6 f (h := 0) (g := g) hh hg (by rw [sz_0]; omega)
          rw [td_0] at this
          exact this
        · obtain ⟨b1, b2, b3, b4, b5, b6, b7, b8⟩ := okW_at h2 h6 hh (by omega)
          rw [← b3]
          by_cases el : td S h % 10 = td S g % 10
          · rw [if_pos el, ← a3, grd_pt h2 h6 f (by omega) (by omega) (by omega)]
            have el' : lst S h = lst S g := el
            rw [Bool.eq_iff_iff, ptb_iff, ptb_iff]
            constructor
            · intro q k hk
              have := q k hk
              rw [a7 k hk, b7 k hk, el']
              omega
            · intro q k hk
              have := q k hk
              rw [a7 k hk, b7 k hk, el'] at this
              omega
          · rw [if_neg el, grd_pt h2 h6 f (by omega) hg (by omega)]
            have el' : ¬ lst S h = lst S g := el
            rw [Bool.eq_iff_iff, ptb_iff, ptb_iff]
            constructor
            · intro q k hk
              have := q k hk
              rw [b7 k hk]
              omega
            · intro q k hk
              have h1 := q k hk
              rw [b7 k hk] at h1
              by_cases c : k = lst S h - 1
              · rcases Nat.lt_or_ge (lst S g) (lst S h) with r | r
                · rw [a8 k hk (by omega)]
                  exact Nat.zero_le _
                · have h3 := q (lst S g - 1) (by omega)
                  rw [a7 (lst S g - 1) (by omega), if_pos rfl, b8 (lst S g - 1) (by omega) (by omega)] at h3
                  omega
              · rw [if_neg c] at h1
                exact h1
