theorem c_inN {hp : AH} {n a lo hi : Nat} {Q : Option Value → AH → Nat → Prop} (ha : a < 2 ^ 31) (hl : lo < 2 ^ 31) (hh : hi < 2 ^ 31) (hq : Q (some (.int (nI (bI (decide (lo ≤ a ∧ a ≤ hi)))))) hp n) : CT yX8_in cX8_in 3 (some .boolean) (rmD 0) [.int (nI a), .int (nI lo), .int (nI hi)] hp n Q := by
  refine c_in ?_
  have e : (decide (nI lo ≤ nI a) && decide (nI a ≤ nI hi)) = decide (lo ≤ a ∧ a ≤ hi) := by
    rw [Bool.eq_iff_iff]
    simp only [Bool.and_eq_true, decide_eq_true_eq]
    rw [nI_leI hl ha, nI_leI ha hh]
  rw [e]
  exact hq
/-- just so many dice, told by the number v, thrown to h -/
def jf (S : Nat) : Nat → Nat → Nat → Option Nat
  | 0, h, v => if v = 0 then some h else none
  | f + 1, h, v => if 1 ≤ v % 10 ∧ v % 10 ≤ S then jf S f (nx S h (v % 10 - 1)) (v / 10) else none
/-- the same of any int -/
def jfI (S f h : Nat) (x : Int32) : Option Nat := if x < 0 then none else jf S f h x.toNatClampNeg
theorem jf_ok {S D : Nat} (h2 : 2 ≤ S) (h6 : S ≤ 6) (hD : D ≤ 5) : ∀ {f h v g : Nat}, h < nh S D → sz S h + f = D → jf S f h v = some g → g < nh S D ∧ sz S g = D
  | 0, h, v, g, hh, hz, e => by
    unfold jf at e
    split at e
    · cases e; exact ⟨hh, hz⟩
    · cases e
  | f + 1, h, v, g, hh, hz, e => by
    unfold jf at e
    split at e
    · rename_i c
      obtain ⟨-, b2, b3, -⟩ := nx_ok h2 h6 hD hh (by omega) (show v % 10 - 1 < S by omega)
      exact jf_ok h2 h6 hD b2 (by omega) e
    · cases e
theorem ho_ok {S D : Nat} (h2 : 2 ≤ S) (h6 : S ≤ 6) (hD : D ≤ 5) : ∀ {f h v g : Nat}, h < nh S D → sz S h + f = D → ho D S f h v = some g → g < nh S D
  | 0, h, v, g, hh, hz, e => by
    unfold ho at e
    split at e
    · cases e; exact hh
    · cases e
  | f + 1, h, v, g, hh, hz, e => by
    unfold ho at e
    split at e
    · cases e; exact hh
    · split at e
      · obtain ⟨-, b2, b3, -⟩ := nx_ok h2 h6 hD hh (by omega) (show v % 10 - 1 < S by omega)
        exact ho_ok h2 h6 hD b2 (by omega) e
      · cases e
/-- from where the dice fall, and how many throws are left behind them -/
abbrev fhN (it : Bool) (h : Nat) : Nat := if it then h else 0
abbrev fkN (it : Bool) (T k : Nat) : Nat := if it then k - 1 else T - 1
theorem WG_fall {D S T R s h k to : Nat} {it tt : Bool} (hT : 1 ≤ T) (G0 : WG D S T R it tt s h k) (ho : ¬ opn s R = 0) (ht : to < nh S D) (hz : sz S to = D) : WG D S T R true false s to (fkN it T k) := by
  refine ⟨G0.1, fun _ => ⟨by omega, ht, ?_, (fun q => by cases q), (fun _ => hz)⟩, (fun q => by cases q)⟩
  unfold fkN
  cases it with
  | true => have := (G0.2.1 rfl).2.2.1; simp only [if_true]; omega
  | false => simp only [Bool.false_eq_true, if_false]; omega
theorem c_fall {hp : AH} {n D S T R s sm h k : Nat} {kd nn pp fl : Nat → Nat} {bg it tt : Bool} {lu sl : Int64} {x : Int32} {Q : Option Value → AH → Nat → Prop} (hn : 64 ≤ n) (M : MS hp D S T R kd nn pp bg it tt s sm h k fl lu sl) (hs : s < 256) (G0 : bg = true → WG D S T R it tt s h k) (hsm : sm < 2 ^ 31)
    (hq0 : mfB R bg it tt s = false → Q (some (.int (-4))) hp n)
    (hq1 : mfB R bg it tt s = true → jfI S (D - sz S (fhN it h)) (fhN it h) x = none → Q (some (.int (-3))) hp n)
    (hq2 : mfB R bg it tt s = true → ∀ to, jfI S (D - sz S (fhN it h)) (fhN it h) x = some to → ∀ hp' : AH, MS hp' D S T R kd nn pp true true false s sm to (fkN it T k) fl (lu + (lN (sdM D S T R kd nn pp true false s sm to (fkN it T k)) - lN (sdM D S T R kd nn pp it tt s sm h k))) sl → FRm hp hp' → Q (some (.int (nI (td S to)))) hp' n) : CT yX8_fall cX8_fall 5 (some .int) (rmD 8) [.ref 47, .int x] hp n Q := by
  obtain ⟨⟨h2, h6, hD1, hD, hT1, hT3, hR, hRV⟩, ⟨x8, x23, x31, c47, hb⟩, -⟩ := id M
  obtain ⟨hN, hN1⟩ := nh_le h2 h6 hD
  have b1 := bI_le it
  have b2 := bI_le (mfB R bg it tt s)
  show G yX8_fall cX8_fall 5 (some .int) (rmD 8) none Q 0 0 0 [.ref 47, .int x, uu, uu, uu] [] hp n
  refine g_aload_n (pc' := 1) dX8_fall_0 rfl rfl ?_
  refine gc_V 4 47 [] [] cw_X8_181 im_X8_mayFall se_X8_mayFall dX8_fall_1 (by decide) (by decide) (Nat.le_refl _) (Nat.le_refl _) (Nat.le_of_ble_eq_true rfl) rfl (Nat.le_of_ble_eq_true rfl) (by omega) (by first | assumption | exact va_up_self _ _ _ | exact (va_up_ne _ _ (by decide)).trans (by assumption) | exact (va_up_ne _ _ (by decide)).trans (va_up_self _ _ _) | exact (va_up_ne _ _ (by decide)).trans ((va_up_ne _ _ (by decide)).trans (by assumption)) | exact (va_up_ne _ _ (by decide)).trans ((va_up_ne _ _ (by decide)).trans (va_up_self _ _ _)) | exact (va_up_ne _ _ (by decide)).trans ((va_up_ne _ _ (by decide)).trans ((va_up_ne _ _ (by decide)).trans (by assumption))) | exact (va_up_ne _ _ (by decide)).trans ((va_up_ne _ _ (by decide)).trans ((va_up_ne _ _ (by decide)).trans ((va_up_ne _ _ (by decide)).trans (by assumption)))) | exact rfl) rfl rfl (c_mayFall (D := D) (S := S) (T := T) (R := R) (bg := bg) (it := it) (tt := tt) (s := s) hn c47 mo_MF hR rfl rfl rfl rfl hs ⟨rfl, ?_⟩)
  cases hm : mfB R bg it tt s with
  | false =>
    refine g_if_neN (tgt := 10) (pc' := 7) dX8_fall_4 (by decide) (by first | omega | decide) (fun z1 => ?_) (fun z1 => ?_)
    · exact absurd rfl z1
    · refine g_bipush (pc' := 9) (v := -4) dX8_fall_7 (by decide) ?_
      exact g_iret dX8_fall_9 rfl (Nat.le_refl _) (Nat.le_refl _) (hq0 hm)
  | true =>
    have hq1' := hq1 hm
    have hq2' := hq2 hm
    clear hq1 hq2
    have ebg : bg = true := by
      cases bg with
      | true => rfl
      | false => simp [mfB] at hm
    subst ebg
    have hop : ¬ opn s R = 0 := by
      intro q
      simp [mfB, q] at hm
    have htt : it = true → tt = true := by
      intro q
      subst q
      cases tt with
      | true => rfl
      | false => simp [mfB] at hm
    have G1 := G0 rfl
    obtain ⟨x0, B⟩ := MS_B M
    obtain ⟨c47, F, -, hL, -, -, -, -, ⟨fsh, fz, ftd, fm, fpt, fsp, fw, c51, c52, c53, c54, c55, c57, c58, hTB, hTM, hpt, hpw, hw⟩, -, -⟩ := id B
    have hfh : fhN it h < nh S D := by
      unfold fhN
      cases it with
      | true => exact (G1.2.1 rfl).2.1
      | false => simp only [Bool.false_eq_true, if_false]; omega
    refine g_if_neN (tgt := 10) (pc' := 7) dX8_fall_4 (by decide) (by first | omega | decide) (fun z1 => ?_) (fun z1 => ?_)
    · clear z1
      refine g_aload_n (pc' := 11) dX8_fall_10 rfl rfl ?_
      refine g_get (pc' := 14) fl_X8_147 dX8_fall_11 (by omega) (by first | assumption | exact va_up_self _ _ _ | exact (va_up_ne _ _ (by decide)).trans (by assumption) | exact (va_up_ne _ _ (by decide)).trans (va_up_self _ _ _) | exact (va_up_ne _ _ (by decide)).trans ((va_up_ne _ _ (by decide)).trans (by assumption)) | exact (va_up_ne _ _ (by decide)).trans ((va_up_ne _ _ (by decide)).trans (va_up_self _ _ _)) | exact (va_up_ne _ _ (by decide)).trans ((va_up_ne _ _ (by decide)).trans ((va_up_ne _ _ (by decide)).trans (by assumption))) | exact (va_up_ne _ _ (by decide)).trans ((va_up_ne _ _ (by decide)).trans ((va_up_ne _ _ (by decide)).trans ((va_up_ne _ _ (by decide)).trans (by assumption)))) | exact rfl) (by first | assumption | rfl | exact (List.getElem?_set_ne (by decide)).trans (by assumption) | exact List.getElem?_set_self (by omega)) ?_
      have main : G yX8_fall cX8_fall 5 (some .int) (rmD 8) none Q 0 0 25 [.ref 47, .int x, uu, uu, uu] [.int (nI (fhN it h))] hp n := by
        have zf := sz_of h2 h6 hD hfh
        refine g_istore_n (pc' := 26) dX8_fall_25 rfl (by decide) ?_
        refine g_iload_n (pc' := 27) dX8_fall_26 rfl rfl ?_
        refine g_istore_n (pc' := 28) dX8_fall_27 rfl (by decide) ?_
        refine g_iload_n (pc' := 29) dX8_fall_28 rfl rfl ?_
        refine g_istore (pc' := 31) dX8_fall_29 (by decide) ?_
        have fin : ∀ (g : Nat) (y : Int32), g < nh S D → (y = 0 → sz S g = D → jfI S (D - sz S (fhN it h)) (fhN it h) x = some g) → ((¬ y = 0 ∨ ¬ sz S g = D) → jfI S (D - sz S (fhN it h)) (fhN it h) x = none) → G yX8_fall cX8_fall 5 (some .int) (rmD 8) none Q 0 0 93 [.ref 47, .int x, .int (nI (fhN it h)), .int (nI g), .int y] [] hp n := by
          intro g y hg hy1 hy2
          have zg := sz_le S g
          refine g_iload (pc' := 95) dX8_fall_93 rfl ?_
          refine g_if_ne (tgt := 111) (pc' := 98) dX8_fall_95 (by decide) (fun z2 => ?_) (fun z2 => ?_)
          · refine g_bipush (pc' := 113) (v := -3) dX8_fall_111 (by decide) ?_
            refine g_goto (tgt := 121) dX8_fall_113 (by decide) ?_
            exact g_iret dX8_fall_121 rfl (Nat.le_refl _) (Nat.le_refl _) (hq1' (hy2 (Or.inl z2)))
          · refine g_aload_n (pc' := 99) dX8_fall_98 rfl rfl ?_
            refine g_get (pc' := 102) fl_X8_32 dX8_fall_99 (by omega) (by first | assumption | exact va_up_self _ _ _ | exact (va_up_ne _ _ (by decide)).trans (by assumption) | exact (va_up_ne _ _ (by decide)).trans (va_up_self _ _ _) | exact (va_up_ne _ _ (by decide)).trans ((va_up_ne _ _ (by decide)).trans (by assumption)) | exact (va_up_ne _ _ (by decide)).trans ((va_up_ne _ _ (by decide)).trans (va_up_self _ _ _)) | exact (va_up_ne _ _ (by decide)).trans ((va_up_ne _ _ (by decide)).trans ((va_up_ne _ _ (by decide)).trans (by assumption))) | exact (va_up_ne _ _ (by decide)).trans ((va_up_ne _ _ (by decide)).trans ((va_up_ne _ _ (by decide)).trans ((va_up_ne _ _ (by decide)).trans (by assumption)))) | exact rfl) (by first | assumption | rfl | exact (List.getElem?_set_ne (by decide)).trans (by assumption) | exact List.getElem?_set_self (by omega)) ?_
            refine g_iload_n (pc' := 103) dX8_fall_102 rfl rfl ?_
            refine g_ialdV (pc' := 104) dX8_fall_103 (by omega) (by first | assumption | exact va_up_self _ _ _ | exact (va_up_ne _ _ (by decide)).trans (by assumption) | exact (va_up_ne _ _ (by decide)).trans (va_up_self _ _ _) | exact (va_up_ne _ _ (by decide)).trans ((va_up_ne _ _ (by decide)).trans (by assumption)) | exact (va_up_ne _ _ (by decide)).trans ((va_up_ne _ _ (by decide)).trans (va_up_self _ _ _)) | exact (va_up_ne _ _ (by decide)).trans ((va_up_ne _ _ (by decide)).trans ((va_up_ne _ _ (by decide)).trans (by assumption))) | exact (va_up_ne _ _ (by decide)).trans ((va_up_ne _ _ (by decide)).trans ((va_up_ne _ _ (by decide)).trans ((va_up_ne _ _ (by decide)).trans (by assumption)))) | exact rfl) ((IX_nI (by omega) (by omega))) (hTB.2.1 _ hg) ?_
            refine g_aload_n (pc' := 105) dX8_fall_104 rfl rfl ?_
            refine g_get (pc' := 108) fl_X8_7 dX8_fall_105 (by omega) (by first | assumption | exact va_up_self _ _ _ | exact (va_up_ne _ _ (by decide)).trans (by assumption) | exact (va_up_ne _ _ (by decide)).trans (va_up_self _ _ _) | exact (va_up_ne _ _ (by decide)).trans ((va_up_ne _ _ (by decide)).trans (by assumption)) | exact (va_up_ne _ _ (by decide)).trans ((va_up_ne _ _ (by decide)).trans (va_up_self _ _ _)) | exact (va_up_ne _ _ (by decide)).trans ((va_up_ne _ _ (by decide)).trans ((va_up_ne _ _ (by decide)).trans (by assumption))) | exact (va_up_ne _ _ (by decide)).trans ((va_up_ne _ _ (by decide)).trans ((va_up_ne _ _ (by decide)).trans ((va_up_ne _ _ (by decide)).trans (by assumption)))) | exact rfl) (by first | assumption | rfl | exact (List.getElem?_set_ne (by decide)).trans (by assumption) | exact List.getElem?_set_self (by omega)) ?_
            refine g_icmp_eqN (tgt := 116) (pc' := 111) dX8_fall_108 (by decide) (by first | omega | decide) (by first | omega | decide) (fun z3 => ?_) (fun z3 => ?_)
            · have e := hy1 z2 z3
              refine g_aload_n (pc' := 117) dX8_fall_116 rfl rfl ?_
              refine g_iload_n (pc' := 118) dX8_fall_117 rfl rfl ?_
              refine gc_V 121 47 [.int (nI g)] [] cw_X8_184 im_X8_came se_X8_came dX8_fall_118 (by decide) (by decide) (Nat.le_refl _) (Nat.le_refl _) (Nat.le_of_ble_eq_true rfl) rfl (Nat.le_of_ble_eq_true rfl) (by omega) (by first | assumption | exact va_up_self _ _ _ | exact (va_up_ne _ _ (by decide)).trans (by assumption) | exact (va_up_ne _ _ (by decide)).trans (va_up_self _ _ _) | exact (va_up_ne _ _ (by decide)).trans ((va_up_ne _ _ (by decide)).trans (by assumption)) | exact (va_up_ne _ _ (by decide)).trans ((va_up_ne _ _ (by decide)).trans (va_up_self _ _ _)) | exact (va_up_ne _ _ (by decide)).trans ((va_up_ne _ _ (by decide)).trans ((va_up_ne _ _ (by decide)).trans (by assumption))) | exact (va_up_ne _ _ (by decide)).trans ((va_up_ne _ _ (by decide)).trans ((va_up_ne _ _ (by decide)).trans ((va_up_ne _ _ (by decide)).trans (by assumption)))) | exact rfl) rfl rfl (c_came hn M G1 hsm (fun q => (G1.2.1 q).2.2.2.1 (htt q)) hg (WG_fall hT1 G1 hop hg z3) (fun hp' M' R' => ⟨rfl, ?_⟩))
              exact g_iret dX8_fall_121 rfl (Nat.le_refl _) (Nat.le_refl _) (hq2' g e hp' M' R')
            · refine g_bipush (pc' := 113) (v := -3) dX8_fall_111 (by decide) ?_
              refine g_goto (tgt := 121) dX8_fall_113 (by decide) ?_
              exact g_iret dX8_fall_121 rfl (Nat.le_refl _) (Nat.le_refl _) (hq1' (hy2 (Or.inr z3)))
        rcases Int32.lt_or_le x 0 with hx | hx
        · refine g_iload (pc' := 33) dX8_fall_31 rfl ?_
          refine g_if_le (tgt := 93) (pc' := 36) dX8_fall_33 (by decide) (fun z2 => ?_) (fun z2 => ?_)
          · refine fin _ x hfh (fun q => ?_) (fun _ => if_pos hx)
            rw [q] at hx
            exact absurd hx (by decide)
          · exact absurd (Int32.le_of_lt hx) z2
        · obtain ⟨v0, hv0, rfl⟩ := nI_of (Int32.not_lt.mpr hx)
          have ej : ∀ f g, jfI S f g (nI v0) = jf S f g v0 := fun f g => by
            unfold jfI
            rw [if_neg (nI_pos hv0), nI_clamp hv0]
          rw [ej] at fin
          have loop : ∀ f g v, v < 2 ^ 31 → g < nh S D → sz S g + f = D → jf S (D - sz S (fhN it h)) (fhN it h) v0 = jf S f g v → G yX8_fall cX8_fall 5 (some .int) (rmD 8) none Q 0 0 31 [.ref 47, .int (nI v0), .int (nI (fhN it h)), .int (nI g), .int (nI v)] [] hp n := by
            intro f
            induction f with
            | zero =>
              intro g v hv hg hf e
              have zg := sz_le S g
              have go : G yX8_fall cX8_fall 5 (some .int) (rmD 8) none Q 0 0 93 [.ref 47, .int (nI v0), .int (nI (fhN it h)), .int (nI g), .int (nI v)] [] hp n := by
                refine fin g (nI v) hg (fun q1 q2 => ?_) (fun q => ?_)
                · rw [e]; exact if_pos ((nI_z hv).mp q1)
                · rw [e]
                  refine if_neg (fun z => ?_)
                  rcases q with q | q
                  · exact q ((nI_z hv).mpr z)
                  · omega
              refine g_iload (pc' := 33) dX8_fall_31 rfl ?_
              refine g_if_leN (tgt := 93) (pc' := 36) dX8_fall_33 (by decide) (by first | omega | decide) (fun z2 => ?_) (fun z2 => ?_)
              · exact go
              · refine g_aload_n (pc' := 37) dX8_fall_36 rfl rfl ?_
                refine g_get (pc' := 40) fl_X8_32 dX8_fall_37 (by omega) (by first | assumption | exact va_up_self _ _ _ | exact (va_up_ne _ _ (by decide)).trans (by assumption) | exact (va_up_ne _ _ (by decide)).trans (va_up_self _ _ _) | exact (va_up_ne _ _ (by decide)).trans ((va_up_ne _ _ (by decide)).trans (by assumption)) | exact (va_up_ne _ _ (by decide)).trans ((va_up_ne _ _ (by decide)).trans (va_up_self _ _ _)) | exact (va_up_ne _ _ (by decide)).trans ((va_up_ne _ _ (by decide)).trans ((va_up_ne _ _ (by decide)).trans (by assumption))) | exact (va_up_ne _ _ (by decide)).trans ((va_up_ne _ _ (by decide)).trans ((va_up_ne _ _ (by decide)).trans ((va_up_ne _ _ (by decide)).trans (by assumption)))) | exact rfl) (by first | assumption | rfl | exact (List.getElem?_set_ne (by decide)).trans (by assumption) | exact List.getElem?_set_self (by omega)) ?_
                refine g_iload_n (pc' := 41) dX8_fall_40 rfl rfl ?_
                refine g_ialdV (pc' := 42) dX8_fall_41 (by omega) (by first | assumption | exact va_up_self _ _ _ | exact (va_up_ne _ _ (by decide)).trans (by assumption) | exact (va_up_ne _ _ (by decide)).trans (va_up_self _ _ _) | exact (va_up_ne _ _ (by decide)).trans ((va_up_ne _ _ (by decide)).trans (by assumption)) | exact (va_up_ne _ _ (by decide)).trans ((va_up_ne _ _ (by decide)).trans (va_up_self _ _ _)) | exact (va_up_ne _ _ (by decide)).trans ((va_up_ne _ _ (by decide)).trans ((va_up_ne _ _ (by decide)).trans (by assumption))) | exact (va_up_ne _ _ (by decide)).trans ((va_up_ne _ _ (by decide)).trans ((va_up_ne _ _ (by decide)).trans ((va_up_ne _ _ (by decide)).trans (by assumption)))) | exact rfl) ((IX_nI (by omega) (by omega))) (hTB.2.1 _ hg) ?_
                refine g_aload_n (pc' := 43) dX8_fall_42 rfl rfl ?_
                refine g_get (pc' := 46) fl_X8_7 dX8_fall_43 (by omega) (by first | assumption | exact va_up_self _ _ _ | exact (va_up_ne _ _ (by decide)).trans (by assumption) | exact (va_up_ne _ _ (by decide)).trans (va_up_self _ _ _) | exact (va_up_ne _ _ (by decide)).trans ((va_up_ne _ _ (by decide)).trans (by assumption)) | exact (va_up_ne _ _ (by decide)).trans ((va_up_ne _ _ (by decide)).trans (va_up_self _ _ _)) | exact (va_up_ne _ _ (by decide)).trans ((va_up_ne _ _ (by decide)).trans ((va_up_ne _ _ (by decide)).trans (by assumption))) | exact (va_up_ne _ _ (by decide)).trans ((va_up_ne _ _ (by decide)).trans ((va_up_ne _ _ (by decide)).trans ((va_up_ne _ _ (by decide)).trans (by assumption)))) | exact rfl) (by first | assumption | rfl | exact (List.getElem?_set_ne (by decide)).trans (by assumption) | exact List.getElem?_set_self (by omega)) ?_
                refine g_icmp_geN (tgt := 93) (pc' := 49) dX8_fall_46 (by decide) (by first | omega | decide) (by first | omega | decide) (fun z3 => ?_) (fun z3 => ?_)
                · exact go
                · omega
            | succ f ih =>
              intro g v hv hg hf e
              have zg := sz_le S g
              have hm10 : v % 10 < 10 := Nat.mod_lt _ (by decide)
              have e9 : jf S (f + 1) g v = if 1 ≤ v % 10 ∧ v % 10 ≤ S then jf S f (nx S g (v % 10 - 1)) (v / 10) else none := rfl
              rw [e9] at e
              refine g_iload (pc' := 33) dX8_fall_31 rfl ?_
              refine g_if_leN (tgt := 93) (pc' := 36) dX8_fall_33 (by decide) (by first | omega | decide) (fun z2 => ?_) (fun z2 => ?_)
              · refine fin g (nI v) hg (fun _ q => by omega) (fun _ => ?_)
                rw [e]
                exact if_neg (by omega)
              · refine g_aload_n (pc' := 37) dX8_fall_36 rfl rfl ?_
                refine g_get (pc' := 40) fl_X8_32 dX8_fall_37 (by omega) (by first | assumption | exact va_up_self _ _ _ | exact (va_up_ne _ _ (by decide)).trans (by assumption) | exact (va_up_ne _ _ (by decide)).trans (va_up_self _ _ _) | exact (va_up_ne _ _ (by decide)).trans ((va_up_ne _ _ (by decide)).trans (by assumption)) | exact (va_up_ne _ _ (by decide)).trans ((va_up_ne _ _ (by decide)).trans (va_up_self _ _ _)) | exact (va_up_ne _ _ (by decide)).trans ((va_up_ne _ _ (by decide)).trans ((va_up_ne _ _ (by decide)).trans (by assumption))) | exact (va_up_ne _ _ (by decide)).trans ((va_up_ne _ _ (by decide)).trans ((va_up_ne _ _ (by decide)).trans ((va_up_ne _ _ (by decide)).trans (by assumption)))) | exact rfl) (by first | assumption | rfl | exact (List.getElem?_set_ne (by decide)).trans (by assumption) | exact List.getElem?_set_self (by omega)) ?_
                refine g_iload_n (pc' := 41) dX8_fall_40 rfl rfl ?_
                refine g_ialdV (pc' := 42) dX8_fall_41 (by omega) (by first | assumption | exact va_up_self _ _ _ | exact (va_up_ne _ _ (by decide)).trans (by assumption) | exact (va_up_ne _ _ (by decide)).trans (va_up_self _ _ _) | exact (va_up_ne _ _ (by decide)).trans ((va_up_ne _ _ (by decide)).trans (by assumption)) | exact (va_up_ne _ _ (by decide)).trans ((va_up_ne _ _ (by decide)).trans (va_up_self _ _ _)) | exact (va_up_ne _ _ (by decide)).trans ((va_up_ne _ _ (by decide)).trans ((va_up_ne _ _ (by decide)).trans (by assumption))) | exact (va_up_ne _ _ (by decide)).trans ((va_up_ne _ _ (by decide)).trans ((va_up_ne _ _ (by decide)).trans ((va_up_ne _ _ (by decide)).trans (by assumption)))) | exact rfl) ((IX_nI (by omega) (by omega))) (hTB.2.1 _ hg) ?_
                refine g_aload_n (pc' := 43) dX8_fall_42 rfl rfl ?_
                refine g_get (pc' := 46) fl_X8_7 dX8_fall_43 (by omega) (by first | assumption | exact va_up_self _ _ _ | exact (va_up_ne _ _ (by decide)).trans (by assumption) | exact (va_up_ne _ _ (by decide)).trans (va_up_self _ _ _) | exact (va_up_ne _ _ (by decide)).trans ((va_up_ne _ _ (by decide)).trans (by assumption)) | exact (va_up_ne _ _ (by decide)).trans ((va_up_ne _ _ (by decide)).trans (va_up_self _ _ _)) | exact (va_up_ne _ _ (by decide)).trans ((va_up_ne _ _ (by decide)).trans ((va_up_ne _ _ (by decide)).trans (by assumption))) | exact (va_up_ne _ _ (by decide)).trans ((va_up_ne _ _ (by decide)).trans ((va_up_ne _ _ (by decide)).trans ((va_up_ne _ _ (by decide)).trans (by assumption)))) | exact rfl) (by first | assumption | rfl | exact (List.getElem?_set_ne (by decide)).trans (by assumption) | exact List.getElem?_set_self (by omega)) ?_
                refine g_icmp_geN (tgt := 93) (pc' := 49) dX8_fall_46 (by decide) (by first | omega | decide) (by first | omega | decide) (fun z3 => ?_) (fun z3 => ?_)
                · omega
                · refine g_iload (pc' := 51) dX8_fall_49 rfl ?_
                  refine g_bipush (pc' := 53) (v := nI 10) dX8_fall_51 (by decide) ?_
                  first | refine g_iremN (pc' := 54) dX8_fall_53 (by omega) (by omega) (by omega) ?_ | refine g_irem (pc' := 54) dX8_fall_53 (by decide) ?_
                  refine g_iconst (pc' := 55) (v := nI 1) dX8_fall_54 (by decide) ?_
                  refine g_aload_n (pc' := 56) dX8_fall_55 rfl rfl ?_
                  refine g_get (pc' := 59) fl_X8_13 dX8_fall_56 (by omega) (by first | assumption | exact va_up_self _ _ _ | exact (va_up_ne _ _ (by decide)).trans (by assumption) | exact (va_up_ne _ _ (by decide)).trans (va_up_self _ _ _) | exact (va_up_ne _ _ (by decide)).trans ((va_up_ne _ _ (by decide)).trans (by assumption)) | exact (va_up_ne _ _ (by decide)).trans ((va_up_ne _ _ (by decide)).trans (va_up_self _ _ _)) | exact (va_up_ne _ _ (by decide)).trans ((va_up_ne _ _ (by decide)).trans ((va_up_ne _ _ (by decide)).trans (by assumption))) | exact (va_up_ne _ _ (by decide)).trans ((va_up_ne _ _ (by decide)).trans ((va_up_ne _ _ (by decide)).trans ((va_up_ne _ _ (by decide)).trans (by assumption)))) | exact rfl) (by first | assumption | rfl | exact (List.getElem?_set_ne (by decide)).trans (by assumption) | exact List.getElem?_set_self (by omega)) ?_
                  have b5 := bI_le (decide (1 ≤ v % 10 ∧ v % 10 ≤ S))
                  refine gc_S 62 [.int (nI (v % 10)), .int (nI 1), .int (nI S)] [] cw_X8_78 sm_X8_in dX8_fall_59 (by decide) (by decide) (Nat.le_refl _) (Nat.le_refl _) (Nat.le_of_ble_eq_true rfl) rfl (Nat.le_of_ble_eq_true rfl) (c_inN (by omega) (by decide) (by omega) ⟨rfl, ?_⟩)
                  by_cases hdg : 1 ≤ v % 10 ∧ v % 10 ≤ S
                  · rw [decide_eq_true hdg]
                    rw [if_pos hdg] at e
                    obtain ⟨-, n2, n3, -⟩ := nx_ok h2 h6 hD hg (by omega) (show v % 10 - 1 < S by omega)
                    refine g_if_eqN (tgt := 93) (pc' := 65) dX8_fall_62 (by decide) (by decide) (fun z4 => ?_) (fun _ => ?_)
                    · exact absurd z4 (by decide)
                    · refine g_aload_n (pc' := 66) dX8_fall_65 rfl rfl ?_
                      refine g_get (pc' := 69) fl_X8_38 dX8_fall_66 (by omega) (by first | assumption | exact va_up_self _ _ _ | exact (va_up_ne _ _ (by decide)).trans (by assumption) | exact (va_up_ne _ _ (by decide)).trans (va_up_self _ _ _) | exact (va_up_ne _ _ (by decide)).trans ((va_up_ne _ _ (by decide)).trans (by assumption)) | exact (va_up_ne _ _ (by decide)).trans ((va_up_ne _ _ (by decide)).trans (va_up_self _ _ _)) | exact (va_up_ne _ _ (by decide)).trans ((va_up_ne _ _ (by decide)).trans ((va_up_ne _ _ (by decide)).trans (by assumption))) | exact (va_up_ne _ _ (by decide)).trans ((va_up_ne _ _ (by decide)).trans ((va_up_ne _ _ (by decide)).trans ((va_up_ne _ _ (by decide)).trans (by assumption)))) | exact rfl) (by first | assumption | rfl | exact (List.getElem?_set_ne (by decide)).trans (by assumption) | exact List.getElem?_set_self (by omega)) ?_
                      refine g_bipush (pc' := 71) (v := nI 6) dX8_fall_69 (by decide) ?_
                      refine g_iload_n (pc' := 72) dX8_fall_71 rfl rfl ?_
                      first | refine g_imulN (pc' := 73) dX8_fall_72 ?_ | refine g_imul (pc' := 73) dX8_fall_72 ?_
                      refine g_iload (pc' := 75) dX8_fall_73 rfl ?_
                      refine g_bipush (pc' := 77) (v := nI 10) dX8_fall_75 (by decide) ?_
                      first | refine g_iremN (pc' := 78) dX8_fall_77 (by omega) (by omega) (by omega) ?_ | refine g_irem (pc' := 78) dX8_fall_77 (by decide) ?_
                      first | refine g_iaddN (pc' := 79) dX8_fall_78 ?_ | refine g_iadd (pc' := 79) dX8_fall_78 ?_
                      refine g_iconst (pc' := 80) (v := nI 1) dX8_fall_79 (by decide) ?_
                      first | refine g_isubN (pc' := 81) dX8_fall_80 (by omega) ?_ | refine g_isub (pc' := 81) dX8_fall_80 ?_
                      rw [show 6 * g + v % 10 - 1 = 6 * g + (v % 10 - 1) by omega]
                      refine g_ialdV (pc' := 82) dX8_fall_81 (by omega) (by first | assumption | exact va_up_self _ _ _ | exact (va_up_ne _ _ (by decide)).trans (by assumption) | exact (va_up_ne _ _ (by decide)).trans (va_up_self _ _ _) | exact (va_up_ne _ _ (by decide)).trans ((va_up_ne _ _ (by decide)).trans (by assumption)) | exact (va_up_ne _ _ (by decide)).trans ((va_up_ne _ _ (by decide)).trans (va_up_self _ _ _)) | exact (va_up_ne _ _ (by decide)).trans ((va_up_ne _ _ (by decide)).trans ((va_up_ne _ _ (by decide)).trans (by assumption))) | exact (va_up_ne _ _ (by decide)).trans ((va_up_ne _ _ (by decide)).trans ((va_up_ne _ _ (by decide)).trans ((va_up_ne _ _ (by decide)).trans (by assumption)))) | exact rfl) ((IX_nI (by omega) (by omega))) (hTM _ _ hg (by omega) (by omega)) ?_
                      refine g_istore_n (pc' := 83) dX8_fall_82 rfl (by decide) ?_
                      refine g_iload (pc' := 85) dX8_fall_83 rfl ?_
                      refine g_bipush (pc' := 87) (v := nI 10) dX8_fall_85 (by decide) ?_
                      first | refine g_idivN (pc' := 88) dX8_fall_87 (by omega) (by omega) (by omega) ?_ | refine g_idiv (pc' := 88) dX8_fall_87 (by decide) ?_
                      refine g_istore (pc' := 90) dX8_fall_88 (by decide) ?_
                      refine g_goto (tgt := 31) dX8_fall_90 (by decide) ?_
                      exact ih _ _ (by omega) n2 (by omega) e
                  · rw [decide_eq_false hdg]
                    rw [if_neg hdg] at e
                    refine g_if_eqN (tgt := 93) (pc' := 65) dX8_fall_62 (by decide) (by decide) (fun _ => ?_) (fun z4 => ?_)
                    · exact fin g (nI v) hg (fun _ q => by omega) (fun _ => e)
                    · exact absurd rfl z4
          exact loop _ _ _ hv0 hfh (by omega) rfl
      cases it with
      | true =>
        refine g_if_eqN (tgt := 24) (pc' := 17) dX8_fall_14 (by decide) (by first | omega | decide) (fun z1 => ?_) (fun z1 => ?_)
        · exact absurd z1 (by decide)
        · refine g_aload_n (pc' := 18) dX8_fall_17 rfl rfl ?_
          refine g_get (pc' := 21) fl_X8_153 dX8_fall_18 (by omega) (by first | assumption | exact va_up_self _ _ _ | exact (va_up_ne _ _ (by decide)).trans (by assumption) | exact (va_up_ne _ _ (by decide)).trans (va_up_self _ _ _) | exact (va_up_ne _ _ (by decide)).trans ((va_up_ne _ _ (by decide)).trans (by assumption)) | exact (va_up_ne _ _ (by decide)).trans ((va_up_ne _ _ (by decide)).trans (va_up_self _ _ _)) | exact (va_up_ne _ _ (by decide)).trans ((va_up_ne _ _ (by decide)).trans ((va_up_ne _ _ (by decide)).trans (by assumption))) | exact (va_up_ne _ _ (by decide)).trans ((va_up_ne _ _ (by decide)).trans ((va_up_ne _ _ (by decide)).trans ((va_up_ne _ _ (by decide)).trans (by assumption)))) | exact rfl) (by first | assumption | rfl | exact (List.getElem?_set_ne (by decide)).trans (by assumption) | exact List.getElem?_set_self (by omega)) ?_
          refine g_goto (tgt := 25) dX8_fall_21 (by decide) ?_
          exact main
      | false =>
        refine g_if_eqN (tgt := 24) (pc' := 17) dX8_fall_14 (by decide) (by first | omega | decide) (fun z1 => ?_) (fun z1 => ?_)
        · refine g_iconst (pc' := 25) (v := nI 0) dX8_fall_24 (by decide) ?_
          exact main
        · exact absurd rfl z1
    · exact absurd z1 (by decide)
