/-! chance -/
/-- only the rows value, thrown, chances, isAsked may have changed -/
def KCr (hp hp' : AH) : Prop := (∀ i, i ≠ 59 → i ≠ 60 → i ≠ 61 → i ≠ 62 → hp' i = hp i) ∧ (∃ fv, hp' 59 = aJ 1386 fv) ∧ (∃ ft, hp' 60 = aJ 462 ft) ∧ (∃ fc, hp' 61 = aJ 128256 fc) ∧ ∃ fa, hp' 62 = aZ 128256 fa
theorem MS_K {hp hp' : AH} {D S T R : Nat} {kd nn pp : Nat → Nat} {bg it tt : Bool} {s sm h k : Nat} {fl : Nat → Nat} {lu sl : Int64} (M : MS hp D S T R kd nn pp bg it tt s sm h k fl lu sl) (K : KCr hp hp') : MS hp' D S T R kd nn pp bg it tt s sm h k fl lu sl := by
  obtain ⟨r, ⟨x8, x23, x31, c47, hb⟩, hA, hX, ffl, g1, g2⟩ := M
  obtain ⟨k1, k2, k3, k4, k5⟩ := K
  have kk : ∀ i, i < 59 → hp' i = hp i := fun i hi => k1 i (by omega) (by omega) (by omega) (by omega)
  obtain ⟨⟨a1, e1⟩, ⟨a2, e2⟩, ⟨a3, e3⟩, ⟨a4, e4⟩, ⟨a5, e5⟩, ⟨a6, e6⟩, ⟨a7, e7⟩, -, -, -, -, ⟨a12, e12⟩⟩ := hX
  exact ⟨r, ⟨x8, x23, x31, (kk 47 (by decide)).trans c47, fun q => by
    obtain ⟨b1, b2, b3, b4, b5⟩ := hb q
    exact ⟨b1, b2, b3, b4, MG_of (fun i _ q2 => kk i q2) b5⟩⟩, MA_of hA (fun i _ q2 => kk i (by omega)), ⟨⟨a1, (kk 51 (by decide)).trans e1⟩, ⟨a2, (kk 52 (by decide)).trans e2⟩, ⟨a3, (kk 53 (by decide)).trans e3⟩, ⟨a4, (kk 54 (by decide)).trans e4⟩, ⟨a5, (kk 55 (by decide)).trans e5⟩, ⟨a6, (kk 57 (by decide)).trans e6⟩, ⟨a7, (kk 58 (by decide)).trans e7⟩, k2, k3, k4, k5, ⟨a12, (k1 63 (by decide) (by decide) (by decide) (by decide)).trans e12⟩⟩, ffl, (kk 56 (by decide)).trans g1, g2⟩
/-- the chance where the game is, when w is still needed -/
def chV (D S T R : Nat) (P : Nat → Nat → Nat) (it tt : Bool) (s h k w : Nat) : Nat := if it then (if tt then hv D S (vl D S (gc D S T R P s w) (k - 1)) h else vl D S (gc D S T R P s w) k h) else chN D S T R P s w
/-- what is asked asks for all that it needs, from the sheet s up to the sheet u -/
def ClA (D S R : Nat) (P : Nat → Nat → Nat) (fa : Nat → Int32) (s : Nat) (p : Nat → Nat → Prop) : Prop := ∀ s' w', s ≤ s' → w' ≤ 500 → p s' w' → ¬ fa (501 * s' + w') = 0 → ∀ h r, h < nh S D → sz S h = D → r < R → bt0 s' r = true → ¬ fa (501 * (s' ||| 2 ^ r) + (w' - P r h)) = 0
theorem c_chance {hp : AH} {n D S T R s sm h k : Nat} {kd nn pp fl : Nat → Nat} {bg it tt : Bool} {lu sl : Int64} {x : Int32} {Q : Option Value → AH → Nat → Prop} (hn : 64 ≤ n) (M : MS hp D S T R kd nn pp bg it tt s sm h k fl lu sl) (G0 : bg = true → WG D S T R it tt s h k) (hsm : sm < 2 ^ 30)
    (hq0 : inB 0 500 x = false → Q (some (.long (-3))) hp n)
    (hq1 : inB 0 500 x = true → bg = false → Q (some (.long (-4))) hp n)
    (hq2 : bg = true → ∀ v, v ≤ 500 → x = nI v → ∀ hp' : AH, MS hp' D S T R kd nn pp bg it tt s sm h k fl lu sl → FRm hp hp' → Q (some (.long (lN (chV D S T R (Pf kd nn pp S) it tt s h k (v - sm))))) hp' n) : CT yX8_chance cX8_chance 6 (some .long) (rmD 4) [.ref 47, .int x] hp n Q := by
  obtain ⟨⟨h2, h6, hD1, hD, hT1, hT3, hR, hRV⟩, ⟨x8, x23, x31, c47, hb⟩, -, hX, -⟩ := id M
  obtain ⟨hN, hN1⟩ := nh_le h2 h6 hD
  have b1 := bI_le bg
  have b2 := bI_le it
  have b3 := bI_le tt
  show G yX8_chance cX8_chance 6 (some .long) (rmD 4) none Q 0 0 0 [.ref 47, .int x, uu, uu, uu, uu] [] hp n
  refine g_iload_n (pc' := 1) dX8_chance_0 rfl rfl ?_
  refine g_iconst (pc' := 2) (v := nI 0) dX8_chance_1 (by decide) ?_
  refine g_sipush (pc' := 5) (v := nI 500) dX8_chance_2 (by decide) ?_
  refine gc_S 8 [.int x, .int (nI 0), .int (nI 500)] [] cw_X8_78 sm_X8_in dX8_chance_5 (by decide) (by decide) (Nat.le_refl _) (Nat.le_refl _) (Nat.le_of_ble_eq_true rfl) rfl (Nat.le_of_ble_eq_true rfl) (c_in ⟨rfl, ?_⟩)
  show G yX8_chance cX8_chance 6 (some .long) (rmD 4) none Q 0 0 8 [.ref 47, .int x, uu, uu, uu, uu] [.int (nI (bI (inB 0 500 x)))] hp n
  cases hx : inB 0 500 x with
  | false =>
    refine g_if_neN (tgt := 15) (pc' := 11) dX8_chance_8 (by decide) (by first | omega | decide) (fun z1 => ?_) (fun z1 => ?_)
    · exact absurd rfl z1
    · refine g_ldc2 (pc' := 14) dX8_chance_11 kl_X8_200 ?_
      exact g_lret dX8_chance_14 rfl (Nat.le_refl _) (Nat.le_refl _) (hq0 hx)
  | true =>
    obtain ⟨v, -, hv5, rfl⟩ := inB_t (by decide) (by decide) hx
    refine g_if_neN (tgt := 15) (pc' := 11) dX8_chance_8 (by decide) (by first | omega | decide) (fun z1 => ?_) (fun z1 => ?_)
    · refine g_aload_n (pc' := 16) dX8_chance_15 rfl rfl ?_
      refine g_get (pc' := 19) fl_X8_82 dX8_chance_16 (by omega) (by first | assumption | exact va_up_self _ _ _ | exact (va_up_ne _ _ (by decide)).trans (by assumption) | exact (va_up_ne _ _ (by decide)).trans (va_up_self _ _ _) | exact (va_up_ne _ _ (by decide)).trans ((va_up_ne _ _ (by decide)).trans (by assumption)) | exact (va_up_ne _ _ (by decide)).trans ((va_up_ne _ _ (by decide)).trans (va_up_self _ _ _)) | exact (va_up_ne _ _ (by decide)).trans ((va_up_ne _ _ (by decide)).trans ((va_up_ne _ _ (by decide)).trans (by assumption))) | exact (va_up_ne _ _ (by decide)).trans ((va_up_ne _ _ (by decide)).trans ((va_up_ne _ _ (by decide)).trans ((va_up_ne _ _ (by decide)).trans (by assumption)))) | exact rfl) (by first | assumption | rfl | exact (List.getElem?_set_ne (by decide)).trans (by assumption) | exact List.getElem?_set_self (by omega)) ?_
      cases bg with
      | false =>
        refine g_if_neN (tgt := 26) (pc' := 22) dX8_chance_19 (by decide) (by first | omega | decide) (fun z2 => ?_) (fun z2 => ?_)
        · exact absurd rfl z2
        · refine g_ldc2 (pc' := 25) dX8_chance_22 kl_X8_198 ?_
          exact g_lret dX8_chance_25 rfl (Nat.le_refl _) (Nat.le_refl _) (hq1 hx rfl)
      | true =>
        have G1 := G0 rfl
        have hs := G1.1
        have hq := hq2 rfl v hv5 rfl
        clear hq0 hq1 hq2
        obtain ⟨x0, B⟩ := MS_B M
        clear hb c47
        have c47 := B.1
        have h2R : 2 ^ R ≤ 256 := Nat.pow_le_pow_right (by decide) hR
        have h2R1 : 1 ≤ 2 ^ R := pw_pos (by decide) R
        refine g_if_neN (tgt := 26) (pc' := 22) dX8_chance_19 (by decide) (by first | omega | decide) (fun z2 => ?_) (fun z2 => ?_)
        · refine g_iconst (pc' := 27) (v := nI 1) dX8_chance_26 (by decide) ?_
          refine g_aload_n (pc' := 28) dX8_chance_27 rfl rfl ?_
          refine g_get (pc' := 31) fl_X8_86 dX8_chance_28 (by omega) (by first | assumption | exact va_up_self _ _ _ | exact (va_up_ne _ _ (by decide)).trans (by assumption) | exact (va_up_ne _ _ (by decide)).trans (va_up_self _ _ _) | exact (va_up_ne _ _ (by decide)).trans ((va_up_ne _ _ (by decide)).trans (by assumption)) | exact (va_up_ne _ _ (by decide)).trans ((va_up_ne _ _ (by decide)).trans (va_up_self _ _ _)) | exact (va_up_ne _ _ (by decide)).trans ((va_up_ne _ _ (by decide)).trans ((va_up_ne _ _ (by decide)).trans (by assumption))) | exact (va_up_ne _ _ (by decide)).trans ((va_up_ne _ _ (by decide)).trans ((va_up_ne _ _ (by decide)).trans ((va_up_ne _ _ (by decide)).trans (by assumption)))) | exact rfl) (by first | assumption | rfl | exact (List.getElem?_set_ne (by decide)).trans (by assumption) | exact List.getElem?_set_self (by omega)) ?_
          refine g_ishl (pc' := 32) dX8_chance_31 ?_
          rw [sh_l (by omega) (by rw [Nat.one_mul]; omega), Nat.one_mul]
          refine g_iconst (pc' := 33) (v := nI 1) dX8_chance_32 (by decide) ?_
          first | refine g_isubN (pc' := 34) dX8_chance_33 (by omega) ?_ | refine g_isub (pc' := 34) dX8_chance_33 ?_
          refine g_istore_n (pc' := 35) dX8_chance_34 rfl (by decide) ?_
          refine g_iload_n (pc' := 36) dX8_chance_35 rfl rfl ?_
          refine g_aload_n (pc' := 37) dX8_chance_36 rfl rfl ?_
          refine g_get (pc' := 40) fl_X8_144 dX8_chance_37 (by omega) (by first | assumption | exact va_up_self _ _ _ | exact (va_up_ne _ _ (by decide)).trans (by assumption) | exact (va_up_ne _ _ (by decide)).trans (va_up_self _ _ _) | exact (va_up_ne _ _ (by decide)).trans ((va_up_ne _ _ (by decide)).trans (by assumption)) | exact (va_up_ne _ _ (by decide)).trans ((va_up_ne _ _ (by decide)).trans (va_up_self _ _ _)) | exact (va_up_ne _ _ (by decide)).trans ((va_up_ne _ _ (by decide)).trans ((va_up_ne _ _ (by decide)).trans (by assumption))) | exact (va_up_ne _ _ (by decide)).trans ((va_up_ne _ _ (by decide)).trans ((va_up_ne _ _ (by decide)).trans ((va_up_ne _ _ (by decide)).trans (by assumption)))) | exact rfl) (by first | assumption | rfl | exact (List.getElem?_set_ne (by decide)).trans (by assumption) | exact List.getElem?_set_self (by omega)) ?_
          have main : G yX8_chance cX8_chance 6 (some .long) (rmD 4) none Q 0 0 55 [.ref 47, .int (nI v), .int (nI (2 ^ R - 1)), .int (nI (v - sm)), uu, uu] [] hp n := by
            generalize hwt : v - sm = wt at hq
            have hwt5 : wt ≤ 500 := by omega
            have hKB : ∀ {hp1}, KCr hp hp1 → MBg hp1 _ D S T R (Pf kd nn pp S) := fun K => MBg_of B (fun i q1 q2 => K.1 i (by omega) (by omega) (by omega) (by omega)) K.2.1 K.2.2.1
            have hKN : ∀ {hp1 hp2}, KCr hp hp1 → NCr hp1 hp2 → KCr hp hp2 := fun K N => ⟨fun i q1 q2 q3 q4 => (N.1 i q1 q2).trans (K.1 i q1 q2 q3 q4), N.2.1, N.2.2, K.2.2.2.1.imp (fun _ q => (N.1 61 (by decide) (by decide)).trans q), K.2.2.2.2.imp (fun _ q => (N.1 62 (by decide) (by decide)).trans q)⟩
            have hK61 : ∀ {hp1} (f), KCr hp hp1 → KCr hp (va_up hp1 61 (aJ 128256 f)) := fun f K => ⟨fun i q1 q2 q3 q4 => (va_up_ne _ _ q3).trans (K.1 i q1 q2 q3 q4), K.2.1.imp (fun _ q => (va_up_ne _ _ (by decide)).trans q), K.2.2.1.imp (fun _ q => (va_up_ne _ _ (by decide)).trans q), ⟨f, rfl⟩, K.2.2.2.2.imp (fun _ q => (va_up_ne _ _ (by decide)).trans q)⟩
            have hK62 : ∀ {hp1} (f), KCr hp hp1 → KCr hp (va_up hp1 62 (aZ 128256 f)) := fun f K => ⟨fun i q1 q2 q3 q4 => (va_up_ne _ _ q4).trans (K.1 i q1 q2 q3 q4), K.2.1.imp (fun _ q => (va_up_ne _ _ (by decide)).trans q), K.2.2.1.imp (fun _ q => (va_up_ne _ _ (by decide)).trans q), K.2.2.2.1.imp (fun _ q => (va_up_ne _ _ (by decide)).trans q), ⟨f, rfl⟩⟩
            have hend : ∀ {hp1}, KCr hp hp1 → Q (some (.long (lN (chV D S T R (Pf kd nn pp S) it tt s h k wt)))) hp1 n := fun K => hq _ (MS_K M K) (fun i hi => K.1 i (by omega) (by omega) (by omega) (by omega))
            -- behind both walks
            have fin : ∀ hp1 fa fc, KCr hp hp1 → hp1 61 = aJ 128256 fc → hp1 62 = aZ 128256 fa → ClA D S R (Pf kd nn pp S) fa s (fun s' _ => s' < 2 ^ R - 1) → ¬ fa (501 * s + wt) = 0 → (∀ s', s < s' → s' < 2 ^ R → ∀ w', w' ≤ 500 → ¬ fa (501 * s' + w') = 0 → fc (501 * s' + w') = lN (chN D S T R (Pf kd nn pp S) s' w')) → G yX8_chance cX8_chance 6 (some .long) (rmD 4) none Q 0 0 234 [.ref 47, .int (nI v), .int (nI (2 ^ R - 1)), .int (nI wt), uu, uu] [] hp1 n := by
              intro hp1 fa fc K c61 c62 hcl h0 hfc
              have B1 := hKB K
              have c47' := B1.1
              have hc : ∀ h r, h < nh S D → sz S h = D → r < R → bt0 s r = true → fc (501 * (s ||| 2 ^ r) + (wt - Pf kd nn pp S r h)) = lN (chN D S T R (Pf kd nn pp S) (s ||| 2 ^ r) (wt - Pf kd nn pp S r h)) := fun h r hh hz hr hbr => by
                have o1 := or_gt hbr
                have o2 := or_ltR hs hr
                exact hfc _ o1 o2 _ (by omega) (hcl s wt (Nat.le_refl _) hwt5 (show s < 2 ^ R - 1 by omega) h0 h r hh hz hr hbr)
              refine g_aload_n (pc' := 235) dX8_chance_234 rfl rfl ?_
              refine g_get (pc' := 238) fl_X8_147 dX8_chance_235 (by omega) (by first | assumption | exact va_up_self _ _ _ | exact (va_up_ne _ _ (by decide)).trans (by assumption) | exact (va_up_ne _ _ (by decide)).trans (va_up_self _ _ _) | exact (va_up_ne _ _ (by decide)).trans ((va_up_ne _ _ (by decide)).trans (by assumption)) | exact (va_up_ne _ _ (by decide)).trans ((va_up_ne _ _ (by decide)).trans (va_up_self _ _ _)) | exact (va_up_ne _ _ (by decide)).trans ((va_up_ne _ _ (by decide)).trans ((va_up_ne _ _ (by decide)).trans (by assumption))) | exact (va_up_ne _ _ (by decide)).trans ((va_up_ne _ _ (by decide)).trans ((va_up_ne _ _ (by decide)).trans ((va_up_ne _ _ (by decide)).trans (by assumption)))) | exact rfl) (by first | assumption | rfl | exact (List.getElem?_set_ne (by decide)).trans (by assumption) | exact List.getElem?_set_self (by omega)) ?_
              cases it with
              | false =>
                refine g_if_neN (tgt := 252) (pc' := 241) dX8_chance_238 (by decide) (by first | omega | decide) (fun z3 => ?_) (fun z3 => ?_)
                · exact absurd rfl z3
                · refine g_aload_n (pc' := 242) dX8_chance_241 rfl rfl ?_
                  refine g_aload_n (pc' := 243) dX8_chance_242 rfl rfl ?_
                  refine g_get (pc' := 246) fl_X8_141 dX8_chance_243 (by omega) (by first | assumption | exact va_up_self _ _ _ | exact (va_up_ne _ _ (by decide)).trans (by assumption) | exact (va_up_ne _ _ (by decide)).trans (va_up_self _ _ _) | exact (va_up_ne _ _ (by decide)).trans ((va_up_ne _ _ (by decide)).trans (by assumption)) | exact (va_up_ne _ _ (by decide)).trans ((va_up_ne _ _ (by decide)).trans (va_up_self _ _ _)) | exact (va_up_ne _ _ (by decide)).trans ((va_up_ne _ _ (by decide)).trans ((va_up_ne _ _ (by decide)).trans (by assumption))) | exact (va_up_ne _ _ (by decide)).trans ((va_up_ne _ _ (by decide)).trans ((va_up_ne _ _ (by decide)).trans ((va_up_ne _ _ (by decide)).trans (by assumption)))) | exact rfl) (by first | assumption | rfl | exact (List.getElem?_set_ne (by decide)).trans (by assumption) | exact List.getElem?_set_self (by omega)) ?_
                  refine g_iload_n (pc' := 247) dX8_chance_246 rfl rfl ?_
                  refine g_iload_n (pc' := 248) dX8_chance_247 rfl rfl ?_
                  refine gc_V 251 47 [.int (nI s), .int (nI wt), .int (nI (2 ^ R - 1))] [] cw_X8_212 im_X8_chanceOf se_X8_chanceOf dX8_chance_248 (by decide) (by decide) (Nat.le_refl _) (Nat.le_refl _) (Nat.le_of_ble_eq_true rfl) rfl (Nat.le_of_ble_eq_true rfl) (by omega) (by first | assumption | exact va_up_self _ _ _ | exact (va_up_ne _ _ (by decide)).trans (by assumption) | exact (va_up_ne _ _ (by decide)).trans (va_up_self _ _ _) | exact (va_up_ne _ _ (by decide)).trans ((va_up_ne _ _ (by decide)).trans (by assumption)) | exact (va_up_ne _ _ (by decide)).trans ((va_up_ne _ _ (by decide)).trans (va_up_self _ _ _)) | exact (va_up_ne _ _ (by decide)).trans ((va_up_ne _ _ (by decide)).trans ((va_up_ne _ _ (by decide)).trans (by assumption))) | exact (va_up_ne _ _ (by decide)).trans ((va_up_ne _ _ (by decide)).trans ((va_up_ne _ _ (by decide)).trans ((va_up_ne _ _ (by decide)).trans (by assumption)))) | exact rfl) rfl rfl (c_chanceOf hn B1 hs hwt5 c61 hc (fun hp2 N => ⟨rfl, ?_⟩))
                  exact g_lret dX8_chance_251 rfl (Nat.le_refl _) (Nat.le_refl _) (hend (hKN K N))
              | true =>
                obtain ⟨i1, i2, i3, i4, i5⟩ := G1.2.1 rfl
                refine g_if_neN (tgt := 252) (pc' := 241) dX8_chance_238 (by decide) (by first | omega | decide) (fun z3 => ?_) (fun z3 => ?_)
                · refine g_aload_n (pc' := 253) dX8_chance_252 rfl rfl ?_
                  refine g_aload_n (pc' := 254) dX8_chance_253 rfl rfl ?_
                  refine g_get (pc' := 257) fl_X8_141 dX8_chance_254 (by omega) (by first | assumption | exact va_up_self _ _ _ | exact (va_up_ne _ _ (by decide)).trans (by assumption) | exact (va_up_ne _ _ (by decide)).trans (va_up_self _ _ _) | exact (va_up_ne _ _ (by decide)).trans ((va_up_ne _ _ (by decide)).trans (by assumption)) | exact (va_up_ne _ _ (by decide)).trans ((va_up_ne _ _ (by decide)).trans (va_up_self _ _ _)) | exact (va_up_ne _ _ (by decide)).trans ((va_up_ne _ _ (by decide)).trans ((va_up_ne _ _ (by decide)).trans (by assumption))) | exact (va_up_ne _ _ (by decide)).trans ((va_up_ne _ _ (by decide)).trans ((va_up_ne _ _ (by decide)).trans ((va_up_ne _ _ (by decide)).trans (by assumption)))) | exact rfl) (by first | assumption | rfl | exact (List.getElem?_set_ne (by decide)).trans (by assumption) | exact List.getElem?_set_self (by omega)) ?_
                  refine g_iload_n (pc' := 258) dX8_chance_257 rfl rfl ?_
                  refine gc_V 261 47 [.int (nI s), .int (nI wt)] [] cw_X8_216 im_X8_findChanceTurn se_X8_findChanceTurn dX8_chance_258 (by decide) (by decide) (Nat.le_refl _) (Nat.le_refl _) (Nat.le_of_ble_eq_true rfl) rfl (Nat.le_of_ble_eq_true rfl) (by omega) (by first | assumption | exact va_up_self _ _ _ | exact (va_up_ne _ _ (by decide)).trans (by assumption) | exact (va_up_ne _ _ (by decide)).trans (va_up_self _ _ _) | exact (va_up_ne _ _ (by decide)).trans ((va_up_ne _ _ (by decide)).trans (by assumption)) | exact (va_up_ne _ _ (by decide)).trans ((va_up_ne _ _ (by decide)).trans (va_up_self _ _ _)) | exact (va_up_ne _ _ (by decide)).trans ((va_up_ne _ _ (by decide)).trans ((va_up_ne _ _ (by decide)).trans (by assumption))) | exact (va_up_ne _ _ (by decide)).trans ((va_up_ne _ _ (by decide)).trans ((va_up_ne _ _ (by decide)).trans ((va_up_ne _ _ (by decide)).trans (by assumption)))) | exact rfl) rfl rfl (c_fCT hn B1 hs i1 hwt5 c61 hc (fun hp2 fv N c59 hv1 => ⟨rfl, ?_⟩))
                  have K2 := hKN K N
                  have B2 := hKB K2
                  have c47'' := B2.1
                  refine g_aload_n (pc' := 262) dX8_chance_261 rfl rfl ?_
                  refine g_get (pc' := 265) fl_X8_150 dX8_chance_262 (by omega) (by first | assumption | exact va_up_self _ _ _ | exact (va_up_ne _ _ (by decide)).trans (by assumption) | exact (va_up_ne _ _ (by decide)).trans (va_up_self _ _ _) | exact (va_up_ne _ _ (by decide)).trans ((va_up_ne _ _ (by decide)).trans (by assumption)) | exact (va_up_ne _ _ (by decide)).trans ((va_up_ne _ _ (by decide)).trans (va_up_self _ _ _)) | exact (va_up_ne _ _ (by decide)).trans ((va_up_ne _ _ (by decide)).trans ((va_up_ne _ _ (by decide)).trans (by assumption))) | exact (va_up_ne _ _ (by decide)).trans ((va_up_ne _ _ (by decide)).trans ((va_up_ne _ _ (by decide)).trans ((va_up_ne _ _ (by decide)).trans (by assumption)))) | exact rfl) (by first | assumption | rfl | exact (List.getElem?_set_ne (by decide)).trans (by assumption) | exact List.getElem?_set_self (by omega)) ?_
                  cases tt with
                  | false =>
                    refine g_if_neN (tgt := 287) (pc' := 268) dX8_chance_265 (by decide) (by first | omega | decide) (fun z4 => ?_) (fun z4 => ?_)
                    · exact absurd rfl z4
                    · refine g_aload_n (pc' := 269) dX8_chance_268 rfl rfl ?_
                      refine g_get (pc' := 272) fl_X8_54 dX8_chance_269 (by omega) (by first | assumption | exact va_up_self _ _ _ | exact (va_up_ne _ _ (by decide)).trans (by assumption) | exact (va_up_ne _ _ (by decide)).trans (va_up_self _ _ _) | exact (va_up_ne _ _ (by decide)).trans ((va_up_ne _ _ (by decide)).trans (by assumption)) | exact (va_up_ne _ _ (by decide)).trans ((va_up_ne _ _ (by decide)).trans (va_up_self _ _ _)) | exact (va_up_ne _ _ (by decide)).trans ((va_up_ne _ _ (by decide)).trans ((va_up_ne _ _ (by decide)).trans (by assumption))) | exact (va_up_ne _ _ (by decide)).trans ((va_up_ne _ _ (by decide)).trans ((va_up_ne _ _ (by decide)).trans ((va_up_ne _ _ (by decide)).trans (by assumption)))) | exact rfl) (by first | assumption | rfl | exact (List.getElem?_set_ne (by decide)).trans (by assumption) | exact List.getElem?_set_self (by omega)) ?_
                      refine g_sipush (pc' := 275) (v := nI 462) dX8_chance_272 (by decide) ?_
                      refine g_aload_n (pc' := 276) dX8_chance_275 rfl rfl ?_
                      refine g_get (pc' := 279) fl_X8_156 dX8_chance_276 (by omega) (by first | assumption | exact va_up_self _ _ _ | exact (va_up_ne _ _ (by decide)).trans (by assumption) | exact (va_up_ne _ _ (by decide)).trans (va_up_self _ _ _) | exact (va_up_ne _ _ (by decide)).trans ((va_up_ne _ _ (by decide)).trans (by assumption)) | exact (va_up_ne _ _ (by decide)).trans ((va_up_ne _ _ (by decide)).trans (va_up_self _ _ _)) | exact (va_up_ne _ _ (by decide)).trans ((va_up_ne _ _ (by decide)).trans ((va_up_ne _ _ (by decide)).trans (by assumption))) | exact (va_up_ne _ _ (by decide)).trans ((va_up_ne _ _ (by decide)).trans ((va_up_ne _ _ (by decide)).trans ((va_up_ne _ _ (by decide)).trans (by assumption)))) | exact rfl) (by first | assumption | rfl | exact (List.getElem?_set_ne (by decide)).trans (by assumption) | exact List.getElem?_set_self (by omega)) ?_
                      first | refine g_imulN (pc' := 280) dX8_chance_279 ?_ | refine g_imul (pc' := 280) dX8_chance_279 ?_
                      refine g_aload_n (pc' := 281) dX8_chance_280 rfl rfl ?_
                      refine g_get (pc' := 284) fl_X8_153 dX8_chance_281 (by omega) (by first | assumption | exact va_up_self _ _ _ | exact (va_up_ne _ _ (by decide)).trans (by assumption) | exact (va_up_ne _ _ (by decide)).trans (va_up_self _ _ _) | exact (va_up_ne _ _ (by decide)).trans ((va_up_ne _ _ (by decide)).trans (by assumption)) | exact (va_up_ne _ _ (by decide)).trans ((va_up_ne _ _ (by decide)).trans (va_up_self _ _ _)) | exact (va_up_ne _ _ (by decide)).trans ((va_up_ne _ _ (by decide)).trans ((va_up_ne _ _ (by decide)).trans (by assumption))) | exact (va_up_ne _ _ (by decide)).trans ((va_up_ne _ _ (by decide)).trans ((va_up_ne _ _ (by decide)).trans ((va_up_ne _ _ (by decide)).trans (by assumption)))) | exact rfl) (by first | assumption | rfl | exact (List.getElem?_set_ne (by decide)).trans (by assumption) | exact List.getElem?_set_self (by omega)) ?_
                      first | refine g_iaddN (pc' := 285) dX8_chance_284 ?_ | refine g_iadd (pc' := 285) dX8_chance_284 ?_
                      refine g_laldV (pc' := 286) dX8_chance_285 (by omega) (by first | assumption | exact va_up_self _ _ _ | exact (va_up_ne _ _ (by decide)).trans (by assumption) | exact (va_up_ne _ _ (by decide)).trans (va_up_self _ _ _) | exact (va_up_ne _ _ (by decide)).trans ((va_up_ne _ _ (by decide)).trans (by assumption)) | exact (va_up_ne _ _ (by decide)).trans ((va_up_ne _ _ (by decide)).trans (va_up_self _ _ _)) | exact (va_up_ne _ _ (by decide)).trans ((va_up_ne _ _ (by decide)).trans ((va_up_ne _ _ (by decide)).trans (by assumption))) | exact (va_up_ne _ _ (by decide)).trans ((va_up_ne _ _ (by decide)).trans ((va_up_ne _ _ (by decide)).trans ((va_up_ne _ _ (by decide)).trans (by assumption)))) | exact rfl) ((IX_nI (by omega) (by omega))) (hv1 _ _ i3 i2 (i5 rfl)) ?_
                      exact g_lret dX8_chance_286 rfl (Nat.le_refl _) (Nat.le_refl _) (hend K2)
                  | true =>
                    have ik := i4 rfl
                    have zh := sz_le S h
                    refine g_if_neN (tgt := 287) (pc' := 268) dX8_chance_265 (by decide) (by first | omega | decide) (fun z4 => ?_) (fun z4 => ?_)
                    · refine g_aload_n (pc' := 288) dX8_chance_287 rfl rfl ?_
                      refine g_aload_n (pc' := 289) dX8_chance_288 rfl rfl ?_
                      refine g_get (pc' := 292) fl_X8_156 dX8_chance_289 (by omega) (by first | assumption | exact va_up_self _ _ _ | exact (va_up_ne _ _ (by decide)).trans (by assumption) | exact (va_up_ne _ _ (by decide)).trans (va_up_self _ _ _) | exact (va_up_ne _ _ (by decide)).trans ((va_up_ne _ _ (by decide)).trans (by assumption)) | exact (va_up_ne _ _ (by decide)).trans ((va_up_ne _ _ (by decide)).trans (va_up_self _ _ _)) | exact (va_up_ne _ _ (by decide)).trans ((va_up_ne _ _ (by decide)).trans ((va_up_ne _ _ (by decide)).trans (by assumption))) | exact (va_up_ne _ _ (by decide)).trans ((va_up_ne _ _ (by decide)).trans ((va_up_ne _ _ (by decide)).trans ((va_up_ne _ _ (by decide)).trans (by assumption)))) | exact rfl) (by first | assumption | rfl | exact (List.getElem?_set_ne (by decide)).trans (by assumption) | exact List.getElem?_set_self (by omega)) ?_
                      refine gc_V 295 47 [.int (nI k)] [] cw_X8_99 im_X8_findThrown se_X8_findThrown dX8_chance_292 (by decide) (by decide) (Nat.le_refl _) (Nat.le_refl _) (Nat.le_of_ble_eq_true rfl) rfl (Nat.le_of_ble_eq_true rfl) (by omega) (by first | assumption | exact va_up_self _ _ _ | exact (va_up_ne _ _ (by decide)).trans (by assumption) | exact (va_up_ne _ _ (by decide)).trans (va_up_self _ _ _) | exact (va_up_ne _ _ (by decide)).trans ((va_up_ne _ _ (by decide)).trans (by assumption)) | exact (va_up_ne _ _ (by decide)).trans ((va_up_ne _ _ (by decide)).trans (va_up_self _ _ _)) | exact (va_up_ne _ _ (by decide)).trans ((va_up_ne _ _ (by decide)).trans ((va_up_ne _ _ (by decide)).trans (by assumption))) | exact (va_up_ne _ _ (by decide)).trans ((va_up_ne _ _ (by decide)).trans ((va_up_ne _ _ (by decide)).trans ((va_up_ne _ _ (by decide)).trans (by assumption)))) | exact rfl) rfl rfl (c_fTN (val := vl D S (gc D S T R (Pf kd nn pp S) s wt) (k - 1)) hn B2 ik (by omega) c59 (fun h hh hz => hv1 (k - 1) h (by omega) hh hz) (fun hp3 ft N3 d60 hft => ⟨rfl, ?_⟩))
                      have K3 := hKN K2 N3
                      have B3 := hKB K3
                      have c47''' := B3.1
                      obtain ⟨-, -, -, -, -, -, -, -, ⟨fsh, fz, ftd, fm, fpt, fsp, fw, c51, c52, c53, c54, c55, c57, c58, hTB, hTM, hpt, hpw, hw⟩, -, -⟩ := id B3
                      refine g_aload_n (pc' := 296) dX8_chance_295 rfl rfl ?_
                      refine g_get (pc' := 299) fl_X8_57 dX8_chance_296 (by omega) (by first | assumption | exact va_up_self _ _ _ | exact (va_up_ne _ _ (by decide)).trans (by assumption) | exact (va_up_ne _ _ (by decide)).trans (va_up_self _ _ _) | exact (va_up_ne _ _ (by decide)).trans ((va_up_ne _ _ (by decide)).trans (by assumption)) | exact (va_up_ne _ _ (by decide)).trans ((va_up_ne _ _ (by decide)).trans (va_up_self _ _ _)) | exact (va_up_ne _ _ (by decide)).trans ((va_up_ne _ _ (by decide)).trans ((va_up_ne _ _ (by decide)).trans (by assumption))) | exact (va_up_ne _ _ (by decide)).trans ((va_up_ne _ _ (by decide)).trans ((va_up_ne _ _ (by decide)).trans ((va_up_ne _ _ (by decide)).trans (by assumption)))) | exact rfl) (by first | assumption | rfl | exact (List.getElem?_set_ne (by decide)).trans (by assumption) | exact List.getElem?_set_self (by omega)) ?_
                      refine g_aload_n (pc' := 300) dX8_chance_299 rfl rfl ?_
                      refine g_get (pc' := 303) fl_X8_153 dX8_chance_300 (by omega) (by first | assumption | exact va_up_self _ _ _ | exact (va_up_ne _ _ (by decide)).trans (by assumption) | exact (va_up_ne _ _ (by decide)).trans (va_up_self _ _ _) | exact (va_up_ne _ _ (by decide)).trans ((va_up_ne _ _ (by decide)).trans (by assumption)) | exact (va_up_ne _ _ (by decide)).trans ((va_up_ne _ _ (by decide)).trans (va_up_self _ _ _)) | exact (va_up_ne _ _ (by decide)).trans ((va_up_ne _ _ (by decide)).trans ((va_up_ne _ _ (by decide)).trans (by assumption))) | exact (va_up_ne _ _ (by decide)).trans ((va_up_ne _ _ (by decide)).trans ((va_up_ne _ _ (by decide)).trans ((va_up_ne _ _ (by decide)).trans (by assumption)))) | exact rfl) (by first | assumption | rfl | exact (List.getElem?_set_ne (by decide)).trans (by assumption) | exact List.getElem?_set_self (by omega)) ?_
                      refine g_laldV (pc' := 304) dX8_chance_303 (by omega) (by first | assumption | exact va_up_self _ _ _ | exact (va_up_ne _ _ (by decide)).trans (by assumption) | exact (va_up_ne _ _ (by decide)).trans (va_up_self _ _ _) | exact (va_up_ne _ _ (by decide)).trans ((va_up_ne _ _ (by decide)).trans (by assumption)) | exact (va_up_ne _ _ (by decide)).trans ((va_up_ne _ _ (by decide)).trans (va_up_self _ _ _)) | exact (va_up_ne _ _ (by decide)).trans ((va_up_ne _ _ (by decide)).trans ((va_up_ne _ _ (by decide)).trans (by assumption))) | exact (va_up_ne _ _ (by decide)).trans ((va_up_ne _ _ (by decide)).trans ((va_up_ne _ _ (by decide)).trans ((va_up_ne _ _ (by decide)).trans (by assumption)))) | exact rfl) ((IX_nI (by omega) (by omega))) (hft _ i2) ?_
                      refine g_aload_n (pc' := 305) dX8_chance_304 rfl rfl ?_
                      refine g_get (pc' := 308) fl_X8_47 dX8_chance_305 (by omega) (by first | assumption | exact va_up_self _ _ _ | exact (va_up_ne _ _ (by decide)).trans (by assumption) | exact (va_up_ne _ _ (by decide)).trans (va_up_self _ _ _) | exact (va_up_ne _ _ (by decide)).trans ((va_up_ne _ _ (by decide)).trans (by assumption)) | exact (va_up_ne _ _ (by decide)).trans ((va_up_ne _ _ (by decide)).trans (va_up_self _ _ _)) | exact (va_up_ne _ _ (by decide)).trans ((va_up_ne _ _ (by decide)).trans ((va_up_ne _ _ (by decide)).trans (by assumption))) | exact (va_up_ne _ _ (by decide)).trans ((va_up_ne _ _ (by decide)).trans ((va_up_ne _ _ (by decide)).trans ((va_up_ne _ _ (by decide)).trans (by assumption)))) | exact rfl) (by first | assumption | rfl | exact (List.getElem?_set_ne (by decide)).trans (by assumption) | exact List.getElem?_set_self (by omega)) ?_
                      refine g_aload_n (pc' := 309) dX8_chance_308 rfl rfl ?_
                      refine g_get (pc' := 312) fl_X8_32 dX8_chance_309 (by omega) (by first | assumption | exact va_up_self _ _ _ | exact (va_up_ne _ _ (by decide)).trans (by assumption) | exact (va_up_ne _ _ (by decide)).trans (va_up_self _ _ _) | exact (va_up_ne _ _ (by decide)).trans ((va_up_ne _ _ (by decide)).trans (by assumption)) | exact (va_up_ne _ _ (by decide)).trans ((va_up_ne _ _ (by decide)).trans (va_up_self _ _ _)) | exact (va_up_ne _ _ (by decide)).trans ((va_up_ne _ _ (by decide)).trans ((va_up_ne _ _ (by decide)).trans (by assumption))) | exact (va_up_ne _ _ (by decide)).trans ((va_up_ne _ _ (by decide)).trans ((va_up_ne _ _ (by decide)).trans ((va_up_ne _ _ (by decide)).trans (by assumption)))) | exact rfl) (by first | assumption | rfl | exact (List.getElem?_set_ne (by decide)).trans (by assumption) | exact List.getElem?_set_self (by omega)) ?_
                      refine g_aload_n (pc' := 313) dX8_chance_312 rfl rfl ?_
                      refine g_get (pc' := 316) fl_X8_153 dX8_chance_313 (by omega) (by first | assumption | exact va_up_self _ _ _ | exact (va_up_ne _ _ (by decide)).trans (by assumption) | exact (va_up_ne _ _ (by decide)).trans (va_up_self _ _ _) | exact (va_up_ne _ _ (by decide)).trans ((va_up_ne _ _ (by decide)).trans (by assumption)) | exact (va_up_ne _ _ (by decide)).trans ((va_up_ne _ _ (by decide)).trans (va_up_self _ _ _)) | exact (va_up_ne _ _ (by decide)).trans ((va_up_ne _ _ (by decide)).trans ((va_up_ne _ _ (by decide)).trans (by assumption))) | exact (va_up_ne _ _ (by decide)).trans ((va_up_ne _ _ (by decide)).trans ((va_up_ne _ _ (by decide)).trans ((va_up_ne _ _ (by decide)).trans (by assumption)))) | exact rfl) (by first | assumption | rfl | exact (List.getElem?_set_ne (by decide)).trans (by assumption) | exact List.getElem?_set_self (by omega)) ?_
                      refine g_ialdV (pc' := 317) dX8_chance_316 (by omega) (by first | assumption | exact va_up_self _ _ _ | exact (va_up_ne _ _ (by decide)).trans (by assumption) | exact (va_up_ne _ _ (by decide)).trans (va_up_self _ _ _) | exact (va_up_ne _ _ (by decide)).trans ((va_up_ne _ _ (by decide)).trans (by assumption)) | exact (va_up_ne _ _ (by decide)).trans ((va_up_ne _ _ (by decide)).trans (va_up_self _ _ _)) | exact (va_up_ne _ _ (by decide)).trans ((va_up_ne _ _ (by decide)).trans ((va_up_ne _ _ (by decide)).trans (by assumption))) | exact (va_up_ne _ _ (by decide)).trans ((va_up_ne _ _ (by decide)).trans ((va_up_ne _ _ (by decide)).trans ((va_up_ne _ _ (by decide)).trans (by assumption)))) | exact rfl) ((IX_nI (by omega) (by omega))) (hTB.2.1 _ i2) ?_
                      refine g_laldV (pc' := 318) dX8_chance_317 (by omega) (by first | assumption | exact va_up_self _ _ _ | exact (va_up_ne _ _ (by decide)).trans (by assumption) | exact (va_up_ne _ _ (by decide)).trans (va_up_self _ _ _) | exact (va_up_ne _ _ (by decide)).trans ((va_up_ne _ _ (by decide)).trans (by assumption)) | exact (va_up_ne _ _ (by decide)).trans ((va_up_ne _ _ (by decide)).trans (va_up_self _ _ _)) | exact (va_up_ne _ _ (by decide)).trans ((va_up_ne _ _ (by decide)).trans ((va_up_ne _ _ (by decide)).trans (by assumption))) | exact (va_up_ne _ _ (by decide)).trans ((va_up_ne _ _ (by decide)).trans ((va_up_ne _ _ (by decide)).trans ((va_up_ne _ _ (by decide)).trans (by assumption)))) | exact rfl) ((IX_nI (by omega) (by omega))) (hpw _ (by omega)) ?_
                      first | refine g_lmulN (pc' := 319) dX8_chance_318 ?_ | refine g_lmul (pc' := 319) dX8_chance_318 ?_
                      exact g_lret dX8_chance_319 rfl (Nat.le_refl _) (Nat.le_refl _) (hend K3)
                    · exact absurd z4 (by decide)
                · exact absurd z3 (by decide)
            -- the second walk: down
            have down : ∀ hp1 fa fc, KCr hp hp1 → hp1 61 = aJ 128256 fc → hp1 62 = aZ 128256 fa → ClA D S R (Pf kd nn pp S) fa s (fun s' _ => s' < 2 ^ R - 1) → ¬ fa (501 * s + wt) = 0 → G yX8_chance cX8_chance 6 (some .long) (rmD 4) none Q 0 0 159 [.ref 47, .int (nI v), .int (nI (2 ^ R - 1)), .int (nI wt), uu, uu] [] hp1 n := by
              intro hp1 fa fc K c61 c62 hcl h0
              refine g_iload_n (pc' := 160) dX8_chance_159 rfl rfl ?_
              refine g_istore (pc' := 162) dX8_chance_160 (by decide) ?_
              have loop : ∀ j hp1 fc, s + j < 2 ^ R → KCr hp hp1 → hp1 61 = aJ 128256 fc → hp1 62 = aZ 128256 fa → (∀ s', s + j < s' → s' < 2 ^ R → ∀ w', w' ≤ 500 → ¬ fa (501 * s' + w') = 0 → fc (501 * s' + w') = lN (chN D S T R (Pf kd nn pp S) s' w')) → G yX8_chance cX8_chance 6 (some .long) (rmD 4) none Q 0 0 162 [.ref 47, .int (nI v), .int (nI (2 ^ R - 1)), .int (nI wt), .int (nI (s + j)), uu] [] hp1 n := by
                intro j
                induction j with
                | zero =>
                  intro hp1 fc hj K c61 c62 hfc
                  have c47' := (hKB K).1
                  refine g_iload (pc' := 164) dX8_chance_162 rfl ?_
                  refine g_aload_n (pc' := 165) dX8_chance_164 rfl rfl ?_
                  refine g_get (pc' := 168) fl_X8_141 dX8_chance_165 (by omega) (by first | assumption | exact va_up_self _ _ _ | exact (va_up_ne _ _ (by decide)).trans (by assumption) | exact (va_up_ne _ _ (by decide)).trans (va_up_self _ _ _) | exact (va_up_ne _ _ (by decide)).trans ((va_up_ne _ _ (by decide)).trans (by assumption)) | exact (va_up_ne _ _ (by decide)).trans ((va_up_ne _ _ (by decide)).trans (va_up_self _ _ _)) | exact (va_up_ne _ _ (by decide)).trans ((va_up_ne _ _ (by decide)).trans ((va_up_ne _ _ (by decide)).trans (by assumption))) | exact (va_up_ne _ _ (by decide)).trans ((va_up_ne _ _ (by decide)).trans ((va_up_ne _ _ (by decide)).trans ((va_up_ne _ _ (by decide)).trans (by assumption)))) | exact rfl) (by first | assumption | rfl | exact (List.getElem?_set_ne (by decide)).trans (by assumption) | exact List.getElem?_set_self (by omega)) ?_
                  refine g_icmp_leN (tgt := 234) (pc' := 171) dX8_chance_168 (by decide) (by first | omega | decide) (by first | omega | decide) (fun z3 => ?_) (fun z3 => ?_)
                  · exact g_fg (by repeat (first | exact trivial | refine ⟨Or.inr rfl, ?_⟩ | refine ⟨Or.inl rfl, ?_⟩)) (fin hp1 fa fc K c61 c62 hcl h0 hfc)
                  · omega
                | succ j ih =>
                  intro hp1 fc hj K c61 c62 hfc
                  have c47' := (hKB K).1
                  refine g_iload (pc' := 164) dX8_chance_162 rfl ?_
                  refine g_aload_n (pc' := 165) dX8_chance_164 rfl rfl ?_
                  refine g_get (pc' := 168) fl_X8_141 dX8_chance_165 (by omega) (by first | assumption | exact va_up_self _ _ _ | exact (va_up_ne _ _ (by decide)).trans (by assumption) | exact (va_up_ne _ _ (by decide)).trans (va_up_self _ _ _) | exact (va_up_ne _ _ (by decide)).trans ((va_up_ne _ _ (by decide)).trans (by assumption)) | exact (va_up_ne _ _ (by decide)).trans ((va_up_ne _ _ (by decide)).trans (va_up_self _ _ _)) | exact (va_up_ne _ _ (by decide)).trans ((va_up_ne _ _ (by decide)).trans ((va_up_ne _ _ (by decide)).trans (by assumption))) | exact (va_up_ne _ _ (by decide)).trans ((va_up_ne _ _ (by decide)).trans ((va_up_ne _ _ (by decide)).trans ((va_up_ne _ _ (by decide)).trans (by assumption)))) | exact rfl) (by first | assumption | rfl | exact (List.getElem?_set_ne (by decide)).trans (by assumption) | exact List.getElem?_set_self (by omega)) ?_
                  refine g_icmp_leN (tgt := 234) (pc' := 171) dX8_chance_168 (by decide) (by first | omega | decide) (by first | omega | decide) (fun z3 => ?_) (fun z3 => ?_)
                  · omega
                  · refine g_iconst (pc' := 172) (v := nI 0) dX8_chance_171 (by decide) ?_
                    refine g_istore (pc' := 174) dX8_chance_172 (by decide) ?_
                    have inner : ∀ j2 w hp1 fc, w + j2 = 501 → KCr hp hp1 → hp1 61 = aJ 128256 fc → hp1 62 = aZ 128256 fa → (∀ s', s + (j + 1) < s' → s' < 2 ^ R → ∀ w', w' ≤ 500 → ¬ fa (501 * s' + w') = 0 → fc (501 * s' + w') = lN (chN D S T R (Pf kd nn pp S) s' w')) → (∀ w', w' < w → ¬ fa (501 * (s + (j + 1)) + w') = 0 → fc (501 * (s + (j + 1)) + w') = lN (chN D S T R (Pf kd nn pp S) (s + (j + 1)) w')) → G yX8_chance cX8_chance 6 (some .long) (rmD 4) none Q 0 0 174 [.ref 47, .int (nI v), .int (nI (2 ^ R - 1)), .int (nI wt), .int (nI (s + (j + 1))), .int (nI w)] [] hp1 n := by
                      intro j2
                      induction j2 with
                      | zero =>
                        intro w hp1 fc hw K c61 c62 hfc hfw
                        have c47' := (hKB K).1
                        refine g_iload (pc' := 176) dX8_chance_174 rfl ?_
                        refine g_sipush (pc' := 179) (v := nI 500) dX8_chance_176 (by decide) ?_
                        refine g_icmp_gtN (tgt := 228) (pc' := 182) dX8_chance_179 (by decide) (by first | omega | decide) (by first | omega | decide) (fun z4 => ?_) (fun z4 => ?_)
                        · first | refine g_idecN (pc' := 231) dX8_chance_228 rfl rfl (by omega) (by decide) ?_ | refine g_iinc (pc' := 231) dX8_chance_228 rfl rfl (by decide) ?_
                          refine g_goto (tgt := 162) dX8_chance_231 (by decide) ?_
                          refine g_fg (by repeat (first | exact trivial | refine ⟨Or.inr rfl, ?_⟩ | refine ⟨Or.inl rfl, ?_⟩)) (ih hp1 fc (by omega) K c61 c62 (fun s' q1 q2 w' q3 q4 => ?_))
                          rcases Nat.lt_or_ge (s + (j + 1)) s' with q | q
                          · exact hfc s' q q2 w' q3 q4
                          · have e : s' = s + (j + 1) := by omega
                            subst e
                            exact hfw w' (by omega) q4
                        · omega
                      | succ j2 ih2 =>
                        intro w hp1 fc hw K c61 c62 hfc hfw
                        have B1 := hKB K
                        have c47' := B1.1
                        refine g_iload (pc' := 176) dX8_chance_174 rfl ?_
                        refine g_sipush (pc' := 179) (v := nI 500) dX8_chance_176 (by decide) ?_
                        refine g_icmp_gtN (tgt := 228) (pc' := 182) dX8_chance_179 (by decide) (by first | omega | decide) (by first | omega | decide) (fun z4 => ?_) (fun z4 => ?_)
                        · omega
                        · refine g_aload_n (pc' := 183) dX8_chance_182 rfl rfl ?_
                          refine g_get (pc' := 186) fl_X8_64 dX8_chance_183 (by omega) (by first | assumption | exact va_up_self _ _ _ | exact (va_up_ne _ _ (by decide)).trans (by assumption) | exact (va_up_ne _ _ (by decide)).trans (va_up_self _ _ _) | exact (va_up_ne _ _ (by decide)).trans ((va_up_ne _ _ (by decide)).trans (by assumption)) | exact (va_up_ne _ _ (by decide)).trans ((va_up_ne _ _ (by decide)).trans (va_up_self _ _ _)) | exact (va_up_ne _ _ (by decide)).trans ((va_up_ne _ _ (by decide)).trans ((va_up_ne _ _ (by decide)).trans (by assumption))) | exact (va_up_ne _ _ (by decide)).trans ((va_up_ne _ _ (by decide)).trans ((va_up_ne _ _ (by decide)).trans ((va_up_ne _ _ (by decide)).trans (by assumption)))) | exact rfl) (by first | assumption | rfl | exact (List.getElem?_set_ne (by decide)).trans (by assumption) | exact List.getElem?_set_self (by omega)) ?_
                          refine g_sipush (pc' := 189) (v := nI 501) dX8_chance_186 (by decide) ?_
                          refine g_iload (pc' := 191) dX8_chance_189 rfl ?_
                          first | refine g_imulN (pc' := 192) dX8_chance_191 ?_ | refine g_imul (pc' := 192) dX8_chance_191 ?_
                          refine g_iload (pc' := 194) dX8_chance_192 rfl ?_
                          first | refine g_iaddN (pc' := 195) dX8_chance_194 ?_ | refine g_iadd (pc' := 195) dX8_chance_194 ?_
                          refine g_zald (pc' := 196) dX8_chance_195 (by omega) (by first | assumption | exact va_up_self _ _ _ | exact (va_up_ne _ _ (by decide)).trans (by assumption) | exact (va_up_ne _ _ (by decide)).trans (va_up_self _ _ _) | exact (va_up_ne _ _ (by decide)).trans ((va_up_ne _ _ (by decide)).trans (by assumption)) | exact (va_up_ne _ _ (by decide)).trans ((va_up_ne _ _ (by decide)).trans (va_up_self _ _ _)) | exact (va_up_ne _ _ (by decide)).trans ((va_up_ne _ _ (by decide)).trans ((va_up_ne _ _ (by decide)).trans (by assumption))) | exact (va_up_ne _ _ (by decide)).trans ((va_up_ne _ _ (by decide)).trans ((va_up_ne _ _ (by decide)).trans ((va_up_ne _ _ (by decide)).trans (by assumption)))) | exact rfl) ((IX_nI (by omega) (by omega))) ?_
                          refine g_if_eq (tgt := 222) (pc' := 199) dX8_chance_196 (by decide) (fun z5 => ?_) (fun z5 => ?_)
                          · first | refine g_iincN (z := 1) (pc' := 225) dX8_chance_222 rfl rfl (by decide) ?_ | refine g_iinc (pc' := 225) dX8_chance_222 rfl rfl (by decide) ?_
                            refine g_goto (tgt := 174) dX8_chance_225 (by decide) ?_
                            refine ih2 (w + 1) hp1 fc (by omega) K c61 c62 hfc (fun w' q1 q2 => ?_)
                            by_cases e : w' = w
                            · rw [e] at q2
                              exact absurd z5 q2
                            · exact hfw w' (by omega) q2
                          · refine g_aload_n (pc' := 200) dX8_chance_199 rfl rfl ?_
                            refine g_get (pc' := 203) fl_X8_61 dX8_chance_200 (by omega) (by first | assumption | exact va_up_self _ _ _ | exact (va_up_ne _ _ (by decide)).trans (by assumption) | exact (va_up_ne _ _ (by decide)).trans (va_up_self _ _ _) | exact (va_up_ne _ _ (by decide)).trans ((va_up_ne _ _ (by decide)).trans (by assumption)) | exact (va_up_ne _ _ (by decide)).trans ((va_up_ne _ _ (by decide)).trans (va_up_self _ _ _)) | exact (va_up_ne _ _ (by decide)).trans ((va_up_ne _ _ (by decide)).trans ((va_up_ne _ _ (by decide)).trans (by assumption))) | exact (va_up_ne _ _ (by decide)).trans ((va_up_ne _ _ (by decide)).trans ((va_up_ne _ _ (by decide)).trans ((va_up_ne _ _ (by decide)).trans (by assumption)))) | exact rfl) (by first | assumption | rfl | exact (List.getElem?_set_ne (by decide)).trans (by assumption) | exact List.getElem?_set_self (by omega)) ?_
                            refine g_sipush (pc' := 206) (v := nI 501) dX8_chance_203 (by decide) ?_
                            refine g_iload (pc' := 208) dX8_chance_206 rfl ?_
                            first | refine g_imulN (pc' := 209) dX8_chance_208 ?_ | refine g_imul (pc' := 209) dX8_chance_208 ?_
                            refine g_iload (pc' := 211) dX8_chance_209 rfl ?_
                            first | refine g_iaddN (pc' := 212) dX8_chance_211 ?_ | refine g_iadd (pc' := 212) dX8_chance_211 ?_
                            refine g_aload_n (pc' := 213) dX8_chance_212 rfl rfl ?_
                            refine g_iload (pc' := 215) dX8_chance_213 rfl ?_
                            refine g_iload (pc' := 217) dX8_chance_215 rfl ?_
                            refine g_iload_n (pc' := 218) dX8_chance_217 rfl rfl ?_
                            refine gc_V 221 47 [.int (nI (s + (j + 1))), .int (nI w), .int (nI (2 ^ R - 1))] [.int (nI (501 * (s + (j + 1)) + w)), .ref 61] cw_X8_212 im_X8_chanceOf se_X8_chanceOf dX8_chance_218 (by decide) (by decide) (Nat.le_refl _) (Nat.le_refl _) (Nat.le_of_ble_eq_true rfl) rfl (Nat.le_of_ble_eq_true rfl) (by omega) (by first | assumption | exact va_up_self _ _ _ | exact (va_up_ne _ _ (by decide)).trans (by assumption) | exact (va_up_ne _ _ (by decide)).trans (va_up_self _ _ _) | exact (va_up_ne _ _ (by decide)).trans ((va_up_ne _ _ (by decide)).trans (by assumption)) | exact (va_up_ne _ _ (by decide)).trans ((va_up_ne _ _ (by decide)).trans (va_up_self _ _ _)) | exact (va_up_ne _ _ (by decide)).trans ((va_up_ne _ _ (by decide)).trans ((va_up_ne _ _ (by decide)).trans (by assumption))) | exact (va_up_ne _ _ (by decide)).trans ((va_up_ne _ _ (by decide)).trans ((va_up_ne _ _ (by decide)).trans ((va_up_ne _ _ (by decide)).trans (by assumption)))) | exact rfl) rfl rfl (c_chanceOf hn B1 hj (by omega) c61 (fun h r hh hz hr hbr => ?_) (fun hp2 N => ⟨rfl, ?_⟩))
                            · have o1 := or_gt hbr
                              have o2 := or_ltR hj hr
                              exact hfc _ o1 o2 _ (by omega) (hcl _ w (by omega) (by omega) (show s + (j + 1) < 2 ^ R - 1 by omega) z5 h r hh hz hr hbr)
                            · have K2 := hKN K N
                              have d61 := (N.1 61 (by decide) (by decide)).trans c61
                              have d62 := (N.1 62 (by decide) (by decide)).trans c62
                              clear c61 c62 c47'
                              show G yX8_chance cX8_chance 6 (some .long) (rmD 4) none Q 0 0 221 [.ref 47, .int (nI v), .int (nI (2 ^ R - 1)), .int (nI wt), .int (nI (s + (j + 1))), .int (nI w)] [.long (lN (chN D S T R (Pf kd nn pp S) (s + (j + 1)) w)), .int (nI (501 * (s + (j + 1)) + w)), .ref 61] hp2 n
                              refine g_last (pc' := 222) dX8_chance_221 (by omega) (by first | assumption | exact va_up_self _ _ _ | exact (va_up_ne _ _ (by decide)).trans (by assumption) | exact (va_up_ne _ _ (by decide)).trans (va_up_self _ _ _) | exact (va_up_ne _ _ (by decide)).trans ((va_up_ne _ _ (by decide)).trans (by assumption)) | exact (va_up_ne _ _ (by decide)).trans ((va_up_ne _ _ (by decide)).trans (va_up_self _ _ _)) | exact (va_up_ne _ _ (by decide)).trans ((va_up_ne _ _ (by decide)).trans ((va_up_ne _ _ (by decide)).trans (by assumption))) | exact (va_up_ne _ _ (by decide)).trans ((va_up_ne _ _ (by decide)).trans ((va_up_ne _ _ (by decide)).trans ((va_up_ne _ _ (by decide)).trans (by assumption)))) | exact rfl) ((IX_nI (by omega) (by omega))) ?_
                              first | refine g_iincN (z := 1) (pc' := 225) dX8_chance_222 rfl rfl (by decide) ?_ | refine g_iinc (pc' := 225) dX8_chance_222 rfl rfl (by decide) ?_
                              refine g_goto (tgt := 174) dX8_chance_225 (by decide) ?_
                              refine ih2 (w + 1) _ _ (by omega) (hK61 _ K2) (va_up_self _ _ _) ((va_up_ne _ _ (by decide)).trans d62) (fun s' q1 q2 w' q3 q4 => ?_) (fun w' q1 q2 => ?_)
                              · rw [pk_uLn (by omega)]; exact hfc s' q1 q2 w' q3 q4
                              · by_cases e : w' = w
                                · rw [e, pk_uLs]
                                · rw [pk_uLn (by omega)]; exact hfw w' (by omega) q2
                    exact inner 501 0 hp1 fc (by omega) K c61 c62 hfc (fun w' q => absurd q (Nat.not_lt_zero w'))
              have := loop (2 ^ R - 1 - s) hp1 fc (by omega) K c61 c62 (fun s' q1 q2 => by omega)
              rw [show s + (2 ^ R - 1 - s) = 2 ^ R - 1 by omega] at this
              exact this
            -- the first walk: up
            have up : ∀ j sheet hp1 fa, sheet + j = 2 ^ R - 1 → s ≤ sheet → KCr hp hp1 → hp1 62 = aZ 128256 fa → ClA D S R (Pf kd nn pp S) fa s (fun s' _ => s' < sheet) → ¬ fa (501 * s + wt) = 0 → G yX8_chance cX8_chance 6 (some .long) (rmD 4) none Q 0 0 105 [.ref 47, .int (nI v), .int (nI (2 ^ R - 1)), .int (nI wt), .int (nI sheet), uu] [] hp1 n := by
              intro j
              induction j with
              | zero =>
                intro sheet hp1 fa hj hsh K c62 hcl h0
                obtain ⟨fc, c61⟩ := K.2.2.2.1
                refine g_iload (pc' := 107) dX8_chance_105 rfl ?_
                refine g_iload_n (pc' := 108) dX8_chance_107 rfl rfl ?_
                refine g_icmp_geN (tgt := 159) (pc' := 111) dX8_chance_108 (by decide) (by first | omega | decide) (by first | omega | decide) (fun z3 => ?_) (fun z3 => ?_)
                · have e : sheet = 2 ^ R - 1 := by omega
                  rw [e] at hcl
                  exact g_fg (by repeat (first | exact trivial | refine ⟨Or.inr rfl, ?_⟩ | refine ⟨Or.inl rfl, ?_⟩)) (down hp1 fa fc K c61 c62 hcl h0)
                · omega
              | succ j ih =>
                intro sheet hp1 fa hj hsh K c62 hcl h0
                refine g_iload (pc' := 107) dX8_chance_105 rfl ?_
                refine g_iload_n (pc' := 108) dX8_chance_107 rfl rfl ?_
                refine g_icmp_geN (tgt := 159) (pc' := 111) dX8_chance_108 (by decide) (by first | omega | decide) (by first | omega | decide) (fun z3 => ?_) (fun z3 => ?_)
                · omega
                · refine g_iconst (pc' := 112) (v := nI 0) dX8_chance_111 (by decide) ?_
                  refine g_istore (pc' := 114) dX8_chance_112 (by decide) ?_
                  have inner : ∀ j2 w hp1 fa, w + j2 = 501 → KCr hp hp1 → hp1 62 = aZ 128256 fa → ClA D S R (Pf kd nn pp S) fa s (fun s' w' => s' < sheet ∨ s' = sheet ∧ w' < w) → ¬ fa (501 * s + wt) = 0 → G yX8_chance cX8_chance 6 (some .long) (rmD 4) none Q 0 0 114 [.ref 47, .int (nI v), .int (nI (2 ^ R - 1)), .int (nI wt), .int (nI sheet), .int (nI w)] [] hp1 n := by
                    intro j2
                    induction j2 with
                    | zero =>
                      intro w hp1 fa hw K c62 hcl h0
                      refine g_iload (pc' := 116) dX8_chance_114 rfl ?_
                      refine g_sipush (pc' := 119) (v := nI 500) dX8_chance_116 (by decide) ?_
                      refine g_icmp_gtN (tgt := 153) (pc' := 122) dX8_chance_119 (by decide) (by first | omega | decide) (by first | omega | decide) (fun z4 => ?_) (fun z4 => ?_)
                      · first | refine g_iincN (z := 1) (pc' := 156) dX8_chance_153 rfl rfl (by decide) ?_ | refine g_iinc (pc' := 156) dX8_chance_153 rfl rfl (by decide) ?_
                        refine g_goto (tgt := 105) dX8_chance_156 (by decide) ?_
                        refine g_fg (by repeat (first | exact trivial | refine ⟨Or.inr rfl, ?_⟩ | refine ⟨Or.inl rfl, ?_⟩)) (ih (sheet + 1) hp1 fa (by omega) (by omega) K c62 (fun s' w' q1 q2 q3 => hcl s' w' q1 q2 ?_) h0)
                        have q3' : s' < sheet + 1 := q3
                        show s' < sheet ∨ s' = sheet ∧ w' < w
                        omega
                      · omega
                    | succ j2 ih2 =>
                      intro w hp1 fa hw K c62 hcl h0
                      have B1 := hKB K
                      have c47' := B1.1
                      refine g_iload (pc' := 116) dX8_chance_114 rfl ?_
                      refine g_sipush (pc' := 119) (v := nI 500) dX8_chance_116 (by decide) ?_
                      refine g_icmp_gtN (tgt := 153) (pc' := 122) dX8_chance_119 (by decide) (by first | omega | decide) (by first | omega | decide) (fun z4 => ?_) (fun z4 => ?_)
                      · omega
                      · refine g_aload_n (pc' := 123) dX8_chance_122 rfl rfl ?_
                        refine g_get (pc' := 126) fl_X8_64 dX8_chance_123 (by omega) (by first | assumption | exact va_up_self _ _ _ | exact (va_up_ne _ _ (by decide)).trans (by assumption) | exact (va_up_ne _ _ (by decide)).trans (va_up_self _ _ _) | exact (va_up_ne _ _ (by decide)).trans ((va_up_ne _ _ (by decide)).trans (by assumption)) | exact (va_up_ne _ _ (by decide)).trans ((va_up_ne _ _ (by decide)).trans (va_up_self _ _ _)) | exact (va_up_ne _ _ (by decide)).trans ((va_up_ne _ _ (by decide)).trans ((va_up_ne _ _ (by decide)).trans (by assumption))) | exact (va_up_ne _ _ (by decide)).trans ((va_up_ne _ _ (by decide)).trans ((va_up_ne _ _ (by decide)).trans ((va_up_ne _ _ (by decide)).trans (by assumption)))) | exact rfl) (by first | assumption | rfl | exact (List.getElem?_set_ne (by decide)).trans (by assumption) | exact List.getElem?_set_self (by omega)) ?_
                        refine g_sipush (pc' := 129) (v := nI 501) dX8_chance_126 (by decide) ?_
                        refine g_iload (pc' := 131) dX8_chance_129 rfl ?_
                        first | refine g_imulN (pc' := 132) dX8_chance_131 ?_ | refine g_imul (pc' := 132) dX8_chance_131 ?_
                        refine g_iload (pc' := 134) dX8_chance_132 rfl ?_
                        first | refine g_iaddN (pc' := 135) dX8_chance_134 ?_ | refine g_iadd (pc' := 135) dX8_chance_134 ?_
                        refine g_zald (pc' := 136) dX8_chance_135 (by omega) (by first | assumption | exact va_up_self _ _ _ | exact (va_up_ne _ _ (by decide)).trans (by assumption) | exact (va_up_ne _ _ (by decide)).trans (va_up_self _ _ _) | exact (va_up_ne _ _ (by decide)).trans ((va_up_ne _ _ (by decide)).trans (by assumption)) | exact (va_up_ne _ _ (by decide)).trans ((va_up_ne _ _ (by decide)).trans (va_up_self _ _ _)) | exact (va_up_ne _ _ (by decide)).trans ((va_up_ne _ _ (by decide)).trans ((va_up_ne _ _ (by decide)).trans (by assumption))) | exact (va_up_ne _ _ (by decide)).trans ((va_up_ne _ _ (by decide)).trans ((va_up_ne _ _ (by decide)).trans ((va_up_ne _ _ (by decide)).trans (by assumption)))) | exact rfl) ((IX_nI (by omega) (by omega))) ?_
                        refine g_if_eq (tgt := 147) (pc' := 139) dX8_chance_136 (by decide) (fun z5 => ?_) (fun z5 => ?_)
                        · first | refine g_iincN (z := 1) (pc' := 150) dX8_chance_147 rfl rfl (by decide) ?_ | refine g_iinc (pc' := 150) dX8_chance_147 rfl rfl (by decide) ?_
                          refine g_goto (tgt := 114) dX8_chance_150 (by decide) ?_
                          refine ih2 (w + 1) hp1 fa (by omega) K c62 (fun s' w' q1 q2 q3 q4 => ?_) h0
                          have q3' : s' < sheet ∨ s' = sheet ∧ w' < w + 1 := q3
                          by_cases e : s' = sheet ∧ w' = w
                          · rw [e.1, e.2] at q4
                            exact absurd z5 q4
                          · exact hcl s' w' q1 q2 (show s' < sheet ∨ s' = sheet ∧ w' < w by omega) q4
                        · refine g_aload_n (pc' := 140) dX8_chance_139 rfl rfl ?_
                          refine g_iload (pc' := 142) dX8_chance_140 rfl ?_
                          refine g_iload (pc' := 144) dX8_chance_142 rfl ?_
                          refine gc_V 147 47 [.int (nI sheet), .int (nI w)] [] cw_X8_208 im_X8_ask se_X8_ask dX8_chance_144 (by decide) (by decide) (Nat.le_refl _) (Nat.le_refl _) (Nat.le_of_ble_eq_true rfl) rfl (Nat.le_of_ble_eq_true rfl) (by omega) (by first | assumption | exact va_up_self _ _ _ | exact (va_up_ne _ _ (by decide)).trans (by assumption) | exact (va_up_ne _ _ (by decide)).trans (va_up_self _ _ _) | exact (va_up_ne _ _ (by decide)).trans ((va_up_ne _ _ (by decide)).trans (by assumption)) | exact (va_up_ne _ _ (by decide)).trans ((va_up_ne _ _ (by decide)).trans (va_up_self _ _ _)) | exact (va_up_ne _ _ (by decide)).trans ((va_up_ne _ _ (by decide)).trans ((va_up_ne _ _ (by decide)).trans (by assumption))) | exact (va_up_ne _ _ (by decide)).trans ((va_up_ne _ _ (by decide)).trans ((va_up_ne _ _ (by decide)).trans ((va_up_ne _ _ (by decide)).trans (by assumption)))) | exact rfl) rfl rfl (c_ask hn B1 (by omega) (by omega) c62 (fun fa' a1 a2 a3 => ⟨rfl, ?_⟩))
                          clear c47'
                          first | refine g_iincN (z := 1) (pc' := 150) dX8_chance_147 rfl rfl (by decide) ?_ | refine g_iinc (pc' := 150) dX8_chance_147 rfl rfl (by decide) ?_
                          refine g_goto (tgt := 114) dX8_chance_150 (by decide) ?_
                          refine ih2 (w + 1) _ fa' (by omega) (hK62 _ K) (va_up_self _ _ _) (fun s' w' q1 q2 q3 q4 => ?_) (fun q => h0 (a2 _ q))
                          have q3' : s' < sheet ∨ s' = sheet ∧ w' < w + 1 := q3
                          by_cases e : s' = sheet ∧ w' = w
                          · rw [e.1, e.2]
                            exact fun h r hh hz hr hbr => a3 h r hh hz hr hbr
                          · rw [a1 _ (by omega)] at q4
                            exact fun h r hh hz hr hbr q => hcl s' w' q1 q2 (show s' < sheet ∨ s' = sheet ∧ w' < w by omega) q4 h r hh hz hr hbr (a2 _ q)
                  exact inner 501 0 hp1 fa (by omega) K c62 (fun s' w' q1 q2 q3 => hcl s' w' q1 q2 (q3.elim id (fun q => absurd q.2 (Nat.not_lt_zero w')))) h0
            -- nothing is asked
            have zero : ∀ j i hp1 fa, i + j = 501 * 2 ^ R → KCr hp hp1 → hp1 62 = aZ 128256 fa → G yX8_chance cX8_chance 6 (some .long) (rmD 4) none Q 0 0 58 [.ref 47, .int (nI v), .int (nI (2 ^ R - 1)), .int (nI wt), .int (nI i), uu] [] hp1 n := by
              intro j
              induction j with
              | zero =>
                intro i hp1 fa hj K c62
                have c47' := (hKB K).1
                refine g_iload (pc' := 60) dX8_chance_58 rfl ?_
                refine g_sipush (pc' := 63) (v := nI 501) dX8_chance_60 (by decide) ?_
                refine g_iload_n (pc' := 64) dX8_chance_63 rfl rfl ?_
                refine g_iconst (pc' := 65) (v := nI 1) dX8_chance_64 (by decide) ?_
                first | refine g_iaddN (pc' := 66) dX8_chance_65 ?_ | refine g_iadd (pc' := 66) dX8_chance_65 ?_
                first | refine g_imulN (pc' := 67) dX8_chance_66 ?_ | refine g_imul (pc' := 67) dX8_chance_66 ?_
                refine g_icmp_geN (tgt := 84) (pc' := 70) dX8_chance_67 (by decide) (by first | omega | decide) (by first | omega | decide) (fun z3 => ?_) (fun z3 => ?_)
                · refine g_aload_n (pc' := 85) dX8_chance_84 rfl rfl ?_
                  refine g_get (pc' := 88) fl_X8_64 dX8_chance_85 (by omega) (by first | assumption | exact va_up_self _ _ _ | exact (va_up_ne _ _ (by decide)).trans (by assumption) | exact (va_up_ne _ _ (by decide)).trans (va_up_self _ _ _) | exact (va_up_ne _ _ (by decide)).trans ((va_up_ne _ _ (by decide)).trans (by assumption)) | exact (va_up_ne _ _ (by decide)).trans ((va_up_ne _ _ (by decide)).trans (va_up_self _ _ _)) | exact (va_up_ne _ _ (by decide)).trans ((va_up_ne _ _ (by decide)).trans ((va_up_ne _ _ (by decide)).trans (by assumption))) | exact (va_up_ne _ _ (by decide)).trans ((va_up_ne _ _ (by decide)).trans ((va_up_ne _ _ (by decide)).trans ((va_up_ne _ _ (by decide)).trans (by assumption)))) | exact rfl) (by first | assumption | rfl | exact (List.getElem?_set_ne (by decide)).trans (by assumption) | exact List.getElem?_set_self (by omega)) ?_
                  refine g_aload_n (pc' := 89) dX8_chance_88 rfl rfl ?_
                  refine g_aload_n (pc' := 90) dX8_chance_89 rfl rfl ?_
                  refine g_get (pc' := 93) fl_X8_141 dX8_chance_90 (by omega) (by first | assumption | exact va_up_self _ _ _ | exact (va_up_ne _ _ (by decide)).trans (by assumption) | exact (va_up_ne _ _ (by decide)).trans (va_up_self _ _ _) | exact (va_up_ne _ _ (by decide)).trans ((va_up_ne _ _ (by decide)).trans (by assumption)) | exact (va_up_ne _ _ (by decide)).trans ((va_up_ne _ _ (by decide)).trans (va_up_self _ _ _)) | exact (va_up_ne _ _ (by decide)).trans ((va_up_ne _ _ (by decide)).trans ((va_up_ne _ _ (by decide)).trans (by assumption))) | exact (va_up_ne _ _ (by decide)).trans ((va_up_ne _ _ (by decide)).trans ((va_up_ne _ _ (by decide)).trans ((va_up_ne _ _ (by decide)).trans (by assumption)))) | exact rfl) (by first | assumption | rfl | exact (List.getElem?_set_ne (by decide)).trans (by assumption) | exact List.getElem?_set_self (by omega)) ?_
                  refine g_iload_n (pc' := 94) dX8_chance_93 rfl rfl ?_
                  have e0 : (.int (nI wt) : Value) = .int (nI wt - nI 0) := by rw [pk_sub (Nat.zero_le _)]; rfl
                  rw [show [Value.int (nI wt), .int (nI s), .ref 47, .ref 62] = [Value.int (nI wt - nI 0), .int (nI s), .ref 47, .ref 62] by rw [← e0]]
                  refine gc_V 97 47 [.int (nI s), .int (nI wt - nI 0)] [.ref 62] cw_X8_205 im_X8_wants se_X8_wants dX8_chance_94 (by decide) (by decide) (Nat.le_refl _) (Nat.le_refl _) (Nat.le_of_ble_eq_true rfl) rfl (Nat.le_of_ble_eq_true rfl) (by omega) (by first | assumption | exact va_up_self _ _ _ | exact (va_up_ne _ _ (by decide)).trans (by assumption) | exact (va_up_ne _ _ (by decide)).trans (va_up_self _ _ _) | exact (va_up_ne _ _ (by decide)).trans ((va_up_ne _ _ (by decide)).trans (by assumption)) | exact (va_up_ne _ _ (by decide)).trans ((va_up_ne _ _ (by decide)).trans (va_up_self _ _ _)) | exact (va_up_ne _ _ (by decide)).trans ((va_up_ne _ _ (by decide)).trans ((va_up_ne _ _ (by decide)).trans (by assumption))) | exact (va_up_ne _ _ (by decide)).trans ((va_up_ne _ _ (by decide)).trans ((va_up_ne _ _ (by decide)).trans ((va_up_ne _ _ (by decide)).trans (by assumption)))) | exact rfl) rfl rfl (c_wants (by omega) (by decide) ⟨rfl, ?_⟩)
                  show G yX8_chance cX8_chance 6 (some .long) (rmD 4) none Q 0 0 97 [.ref 47, .int (nI v), .int (nI (2 ^ R - 1)), .int (nI wt), .int (nI i), uu] [.int (nI (501 * s + wt)), .ref 62] hp1 n
                  refine g_iconst (pc' := 98) (v := nI 1) dX8_chance_97 (by decide) ?_
                  refine g_zast (pc' := 99) dX8_chance_98 (by omega) (by first | assumption | exact va_up_self _ _ _ | exact (va_up_ne _ _ (by decide)).trans (by assumption) | exact (va_up_ne _ _ (by decide)).trans (va_up_self _ _ _) | exact (va_up_ne _ _ (by decide)).trans ((va_up_ne _ _ (by decide)).trans (by assumption)) | exact (va_up_ne _ _ (by decide)).trans ((va_up_ne _ _ (by decide)).trans (va_up_self _ _ _)) | exact (va_up_ne _ _ (by decide)).trans ((va_up_ne _ _ (by decide)).trans ((va_up_ne _ _ (by decide)).trans (by assumption))) | exact (va_up_ne _ _ (by decide)).trans ((va_up_ne _ _ (by decide)).trans ((va_up_ne _ _ (by decide)).trans ((va_up_ne _ _ (by decide)).trans (by assumption)))) | exact rfl) ((IX_nI (by omega) (by omega))) (by decide) ?_
                  refine g_aload_n (pc' := 100) dX8_chance_99 rfl rfl ?_
                  refine g_get (pc' := 103) fl_X8_141 dX8_chance_100 (by omega) (by first | assumption | exact va_up_self _ _ _ | exact (va_up_ne _ _ (by decide)).trans (by assumption) | exact (va_up_ne _ _ (by decide)).trans (va_up_self _ _ _) | exact (va_up_ne _ _ (by decide)).trans ((va_up_ne _ _ (by decide)).trans (by assumption)) | exact (va_up_ne _ _ (by decide)).trans ((va_up_ne _ _ (by decide)).trans (va_up_self _ _ _)) | exact (va_up_ne _ _ (by decide)).trans ((va_up_ne _ _ (by decide)).trans ((va_up_ne _ _ (by decide)).trans (by assumption))) | exact (va_up_ne _ _ (by decide)).trans ((va_up_ne _ _ (by decide)).trans ((va_up_ne _ _ (by decide)).trans ((va_up_ne _ _ (by decide)).trans (by assumption)))) | exact rfl) (by first | assumption | rfl | exact (List.getElem?_set_ne (by decide)).trans (by assumption) | exact List.getElem?_set_self (by omega)) ?_
                  refine g_istore (pc' := 105) dX8_chance_103 (by decide) ?_
                  refine up (2 ^ R - 1 - s) s _ _ (by omega) (Nat.le_refl _) (hK62 _ K) (va_up_self _ _ _) (fun s' w' q1 q2 q3 => absurd (show s' < s from q3) (by omega)) ?_
                  rw [pk_us]
                  decide
                · omega
              | succ j ih =>
                intro i hp1 fa hj K c62
                have c47' := (hKB K).1
                refine g_iload (pc' := 60) dX8_chance_58 rfl ?_
                refine g_sipush (pc' := 63) (v := nI 501) dX8_chance_60 (by decide) ?_
                refine g_iload_n (pc' := 64) dX8_chance_63 rfl rfl ?_
                refine g_iconst (pc' := 65) (v := nI 1) dX8_chance_64 (by decide) ?_
                first | refine g_iaddN (pc' := 66) dX8_chance_65 ?_ | refine g_iadd (pc' := 66) dX8_chance_65 ?_
                first | refine g_imulN (pc' := 67) dX8_chance_66 ?_ | refine g_imul (pc' := 67) dX8_chance_66 ?_
                refine g_icmp_geN (tgt := 84) (pc' := 70) dX8_chance_67 (by decide) (by first | omega | decide) (by first | omega | decide) (fun z3 => ?_) (fun z3 => ?_)
                · omega
                · refine g_aload_n (pc' := 71) dX8_chance_70 rfl rfl ?_
                  refine g_get (pc' := 74) fl_X8_64 dX8_chance_71 (by omega) (by first | assumption | exact va_up_self _ _ _ | exact (va_up_ne _ _ (by decide)).trans (by assumption) | exact (va_up_ne _ _ (by decide)).trans (va_up_self _ _ _) | exact (va_up_ne _ _ (by decide)).trans ((va_up_ne _ _ (by decide)).trans (by assumption)) | exact (va_up_ne _ _ (by decide)).trans ((va_up_ne _ _ (by decide)).trans (va_up_self _ _ _)) | exact (va_up_ne _ _ (by decide)).trans ((va_up_ne _ _ (by decide)).trans ((va_up_ne _ _ (by decide)).trans (by assumption))) | exact (va_up_ne _ _ (by decide)).trans ((va_up_ne _ _ (by decide)).trans ((va_up_ne _ _ (by decide)).trans ((va_up_ne _ _ (by decide)).trans (by assumption)))) | exact rfl) (by first | assumption | rfl | exact (List.getElem?_set_ne (by decide)).trans (by assumption) | exact List.getElem?_set_self (by omega)) ?_
                  refine g_iload (pc' := 76) dX8_chance_74 rfl ?_
                  refine g_iconst (pc' := 77) (v := nI 0) dX8_chance_76 (by decide) ?_
                  refine g_zast (pc' := 78) dX8_chance_77 (by omega) (by first | assumption | exact va_up_self _ _ _ | exact (va_up_ne _ _ (by decide)).trans (by assumption) | exact (va_up_ne _ _ (by decide)).trans (va_up_self _ _ _) | exact (va_up_ne _ _ (by decide)).trans ((va_up_ne _ _ (by decide)).trans (by assumption)) | exact (va_up_ne _ _ (by decide)).trans ((va_up_ne _ _ (by decide)).trans (va_up_self _ _ _)) | exact (va_up_ne _ _ (by decide)).trans ((va_up_ne _ _ (by decide)).trans ((va_up_ne _ _ (by decide)).trans (by assumption))) | exact (va_up_ne _ _ (by decide)).trans ((va_up_ne _ _ (by decide)).trans ((va_up_ne _ _ (by decide)).trans ((va_up_ne _ _ (by decide)).trans (by assumption)))) | exact rfl) ((IX_nI (by omega) (by omega))) (by decide) ?_
                  first | refine g_iincN (z := 1) (pc' := 81) dX8_chance_78 rfl rfl (by decide) ?_ | refine g_iinc (pc' := 81) dX8_chance_78 rfl rfl (by decide) ?_
                  refine g_goto (tgt := 58) dX8_chance_81 (by decide) ?_
                  exact ih (i + 1) _ _ (by omega) (hK62 _ K) (va_up_self _ _ _)
            obtain ⟨fa, c62⟩ := hX.2.2.2.2.2.2.2.2.2.2.1
            refine g_iconst (pc' := 56) (v := nI 0) dX8_chance_55 (by decide) ?_
            refine g_istore (pc' := 58) dX8_chance_56 (by decide) ?_
            exact zero (501 * 2 ^ R) 0 hp fa (by omega) ⟨fun _ _ _ _ _ => rfl, hX.2.2.2.2.2.2.2.1, hX.2.2.2.2.2.2.2.2.1, hX.2.2.2.2.2.2.2.2.2.1, fa, c62⟩ c62
          refine g_isub (pc' := 41) dX8_chance_40 ?_
          refine g_if_ge (tgt := 48) (pc' := 44) dX8_chance_41 (by decide) (fun z3 => ?_) (fun z3 => ?_)
          · rw [sub_neg (by omega) hsm] at z3
            refine g_iload_n (pc' := 49) dX8_chance_48 rfl rfl ?_
            refine g_aload_n (pc' := 50) dX8_chance_49 rfl rfl ?_
            refine g_get (pc' := 53) fl_X8_144 dX8_chance_50 (by omega) (by first | assumption | exact va_up_self _ _ _ | exact (va_up_ne _ _ (by decide)).trans (by assumption) | exact (va_up_ne _ _ (by decide)).trans (va_up_self _ _ _) | exact (va_up_ne _ _ (by decide)).trans ((va_up_ne _ _ (by decide)).trans (by assumption)) | exact (va_up_ne _ _ (by decide)).trans ((va_up_ne _ _ (by decide)).trans (va_up_self _ _ _)) | exact (va_up_ne _ _ (by decide)).trans ((va_up_ne _ _ (by decide)).trans ((va_up_ne _ _ (by decide)).trans (by assumption))) | exact (va_up_ne _ _ (by decide)).trans ((va_up_ne _ _ (by decide)).trans ((va_up_ne _ _ (by decide)).trans ((va_up_ne _ _ (by decide)).trans (by assumption)))) | exact rfl) (by first | assumption | rfl | exact (List.getElem?_set_ne (by decide)).trans (by assumption) | exact List.getElem?_set_self (by omega)) ?_
            first | refine g_isubN (pc' := 54) dX8_chance_53 (by omega) ?_ | refine g_isub (pc' := 54) dX8_chance_53 ?_
            refine g_istore_n (pc' := 55) dX8_chance_54 rfl (by decide) ?_
            exact main
          · rw [sub_neg (by omega) hsm] at z3
            rw [show v - sm = 0 by omega] at main
            refine g_iconst (pc' := 45) (v := nI 0) dX8_chance_44 (by decide) ?_
            refine g_goto (tgt := 54) dX8_chance_45 (by decide) ?_
            refine g_istore_n (pc' := 55) dX8_chance_54 rfl (by decide) ?_
            exact main
        · exact absurd z2 (by decide)
    · exact absurd z1 (by decide)
