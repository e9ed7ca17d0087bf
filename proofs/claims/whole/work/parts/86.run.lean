/-! THE LAW: its loop, its run -/
theorem LI_up {i n K : Nat} {hp : AH} (I : LI i hp n K) : LI (i + 4) hp n K := by
  obtain ⟨D, S, T, R, kd, nn, pp, bg, it, tt, s, sm, h, k, fl, lu, sl, kid, rd, M, X, W, hsm, hn, hn2, hK⟩ := I
  exact LI_mk M X W (by omega) hn (by omega) hK
def lQ : Option Value → AH → Nat → Prop := fun v _ _ => v = some (.int (nI 1))
theorem law_loop {L : Nat} {xs : Nat → Int32} (hL : L ≤ 2048) : ∀ (f i : Nat) (hp : AH) (n K : Nat), L < i + f → i ≤ L → LI i hp n K → Gl L xs lQ (64 + i) (300000 + 2 * K) 18 i [] hp n := by
  intro f
  induction f with
  | zero =>
    intro i hp n K hf hi I
    omega
  | succ f ih =>
    intro i hp n K hf hi I
    have hK : K ≤ 860160 := by
      obtain ⟨D, S, T, R, kd, nn, pp, bg, it, tt, s, sm, h, k, fl, lu, sl, kid, rd, M, X, W, hsm, hn, hn2, hK⟩ := I
      exact hK
    have ti := pk_sub_toInt (show L < 2 ^ 30 by omega) (show 4 < 2 ^ 30 by decide)
    have tj := nI_toInt (show i < 2 ^ 31 by omega)
    refine g_iload_n (pc' := 19) dL_law_18 rfl rfl ?_
    refine g_aload_n (pc' := 20) dL_law_19 rfl rfl ?_
    refine g_slen (pc' := 21) rfl dL_law_20 ?_
    refine g_iconst (pc' := 22) (v := nI 4) dL_law_21 (by decide) ?_
    refine g_isub (pc' := 23) dL_law_22 ?_
    refine g_icmp_gt (tgt := 570) (pc' := 26) dL_law_23 (by decide) (fun z1 => ?_) (fun z1 => ?_)
    · refine g_iconst (pc' := 571) (v := nI 1) dL_law_570 (by decide) ?_
      exact g_zret dL_law_571 rfl (by decide) (by show 64 + i ≤ 600000; omega) (by show 300000 + 2 * K ≤ 7302249; omega) rfl
    · have hi4 : i + 4 ≤ L := by
        have h9 : ¬ (nI L - nI 4).toInt < (nI i).toInt := fun q => z1 (Int32.lt_iff_toInt_lt.mpr q)
        rw [ti, tj] at h9
        omega
      have nx : ∀ (hp' : AH) (n' K' : Nat), LI (i + 4) hp' n' K' → Gl L xs lQ (64 + (i + 4)) (300000 + 2 * K') 564 i [] hp' n' := by
        intro hp' n' K' q
        first | refine g_iincN (z := 4) (pc' := 567) dL_law_564 rfl rfl (by decide) ?_ | refine g_iinc (pc' := 567) dL_law_564 rfl rfl (by decide) ?_
        refine g_goto (tgt := 18) dL_law_567 (by decide) ?_
        exact ih (i + 4) hp' n' K' (by omega) hi4 q
      refine g_aload_n (pc' := 27) dL_law_26 rfl rfl ?_
      refine g_iload_n (pc' := 28) dL_law_27 rfl rfl ?_
      refine g_sld (pc' := 29) rfl dL_law_28 (IX_nI (by omega) (by omega)) ?_
      refine g_bipush (pc' := 31) (v := nI 31) dL_law_29 (by decide) ?_
      refine g_iand (pc' := 32) dL_law_31 ?_
      obtain ⟨w, hw, ew⟩ := pk_andE (xs i) (m := nI 31) 5 (by decide)
      rw [ew]
      rcases Nat.lt_or_ge w 20 with q | q
      · have hw9 : w = 0 ∨ w = 1 ∨ w = 2 ∨ w = 3 ∨ w = 4 ∨ w = 5 ∨ w = 6 ∨ w = 7 ∨ w = 8 ∨ w = 9 ∨ w = 10 ∨ w = 11 ∨ w = 12 ∨ w = 13 ∨ w = 14 ∨ w = 15 ∨ w = 16 ∨ w = 17 ∨ w = 18 ∨ w = 19 := by omega
        rcases hw9 with rfl | rfl | rfl | rfl | rfl | rfl | rfl | rfl | rfl | rfl | rfl | rfl | rfl | rfl | rfl | rfl | rfl | rfl | rfl | rfl
        · refine g_tabIn (tgt := 128) dL_law_32 (by decide) (by decide) (show _ = some 96 from by decide) (by decide) ?_
          exact op_dice hi4 hL I nx
        · refine g_tabIn (tgt := 171) dL_law_32 (by decide) (by decide) (show _ = some 139 from by decide) (by decide) ?_
          exact op_row hi4 hL I nx
        · refine g_tabIn (tgt := 214) dL_law_32 (by decide) (by decide) (show _ = some 182 from by decide) (by decide) ?_
          exact op_begin hi4 hL I nx
        · refine g_tabIn (tgt := 227) dL_law_32 (by decide) (by decide) (show _ = some 195 from by decide) (by decide) ?_
          exact op_end hi4 hL I nx
        · refine g_tabIn (tgt := 240) dL_law_32 (by decide) (by decide) (show _ = some 208 from by decide) (by decide) ?_
          exact op_fall hi4 hL I nx
        · refine g_tabIn (tgt := 263) dL_law_32 (by decide) (by decide) (show _ = some 231 from by decide) (by decide) ?_
          exact op_draw hi4 hL I nx
        · refine g_tabIn (tgt := 286) dL_law_32 (by decide) (by decide) (show _ = some 254 from by decide) (by decide) ?_
          exact op_hold hi4 hL I nx
        · refine g_tabIn (tgt := 309) dL_law_32 (by decide) (by decide) (show _ = some 277 from by decide) (by decide) ?_
          exact op_fill hi4 hL I nx
        · refine g_tabIn (tgt := 332) dL_law_32 (by decide) (by decide) (show _ = some 300 from by decide) (by decide) ?_
          exact op_unit hi4 hL I nx
        · refine g_tabIn (tgt := 346) dL_law_32 (by decide) (by decide) (show _ = some 314 from by decide) (by decide) ?_
          exact op_worth hi4 hL I nx
        · refine g_tabIn (tgt := 360) dL_law_32 (by decide) (by decide) (show _ = some 328 from by decide) (by decide) ?_
          exact op_worthOf hi4 hL I nx
        · refine g_tabIn (tgt := 384) dL_law_32 (by decide) (by decide) (show _ = some 352 from by decide) (by decide) ?_
          exact op_bestHold hi4 hL I nx
        · refine g_tabIn (tgt := 397) dL_law_32 (by decide) (by decide) (show _ = some 365 from by decide) (by decide) ?_
          exact op_bestRow hi4 hL I nx
        · refine g_tabIn (tgt := 410) dL_law_32 (by decide) (by decide) (show _ = some 378 from by decide) (by decide) ?_
          exact op_chance hi4 hL I nx
        · refine g_tabIn (tgt := 434) dL_law_32 (by decide) (by decide) (show _ = some 402 from by decide) (by decide) ?_
          exact op_luck hi4 hL I nx
        · refine g_tabIn (tgt := 448) dL_law_32 (by decide) (by decide) (show _ = some 416 from by decide) (by decide) ?_
          exact op_slip hi4 hL I nx
        · refine g_tabIn (tgt := 462) dL_law_32 (by decide) (by decide) (show _ = some 430 from by decide) (by decide) ?_
          exact op_points hi4 hL I nx
        · refine g_tabIn (tgt := 495) dL_law_32 (by decide) (by decide) (show _ = some 463 from by decide) (by decide) ?_
          exact op_ways hi4 hL I nx
        · refine g_tabIn (tgt := 518) dL_law_32 (by decide) (by decide) (show _ = some 486 from by decide) (by decide) ?_
          exact op_filled hi4 hL I nx
        · refine g_tabIn (tgt := 541) dL_law_32 (by decide) (by decide) (show _ = some 509 from by decide) (by decide) ?_
          exact op_count hi4 hL I nx
      · refine g_tabOut (tgt := 564) dL_law_32 (Or.inr ?_) (by decide) ?_
        · rw [nI_toInt (by omega)]
          omega
        · exact g_widen (by omega) (by omega) (nx hp n K (LI_up I))
theorem law_run {L : Nat} {xs : Nat → Int32} (hL : L ≤ 2048) (hp : AH) : G yL_law cL_law 4 (some .boolean) room_1 (some (L, xs)) lQ 0 0 0 [.ref xS, uu, uu, uu] [] hp 0 := by
  refine g_new (pc' := 3) (fs := dfX7) cls7 cl_L_7 is_X7 ii_X7 nf_X7 (fun _ => rfl) (by decide) (by decide) (fun i hi => absurd hi (Nat.not_lt_zero i)) (by repeat (first | exact fun _ h => absurd h List.not_mem_nil | refine List.forall_mem_cons.mpr ⟨?_, ?_⟩ | exact trivial | exact wfr (by omega) | exact wfxS)) (by repeat (first | exact fun _ h => absurd h List.not_mem_nil | refine List.forall_mem_cons.mpr ⟨?_, ?_⟩ | exact trivial | exact wfr (by omega) | exact wfxS)) (by decide) dL_law_0 ?_
  refine g_dup (pc' := 4) dL_law_3 rfl ?_
  have w1 : wfH (0 + 1) (va_up hp 0 (ob 7 dfX7)) := wfH_push (n := 0) (fun i hi => absurd hi (Nat.not_lt_zero i)) (wfO (by repeat (first | exact fun _ h => absurd h List.not_mem_nil | refine List.forall_mem_cons.mpr ⟨?_, ?_⟩ | exact trivial | exact wfr (by omega)))) rfl
  refine gc_I 7 0 [] [.ref 0] cw_L_9 im_X7_init rfl dL_law_4 ⟨⟨by decide, by decide⟩, by decide, by decide⟩ (Nat.le_of_ble_eq_true rfl) rfl (Nat.le_of_ble_eq_true rfl) ⟨(by repeat (first | exact fun _ h => absurd h List.not_mem_nil | refine List.forall_mem_cons.mpr ⟨?_, ?_⟩ | exact trivial | exact wfr (by omega) | exact wfxS)), (by repeat (first | exact fun _ h => absurd h List.not_mem_nil | refine List.forall_mem_cons.mpr ⟨?_, ?_⟩ | exact trivial | exact wfr (by omega) | exact wfxS))⟩ (c_iX7 (kd := fun _ => 0) (nn := fun _ => 0) (pp := fun _ => 0) (fl := fun _ => 0) w1 (va_up_self _ _ _) (fun hp1 X1 w2 _ => ?_))
  show G yL_law cL_law 4 (some .boolean) room_1 (some (L, xs)) lQ (0 + 1 + 46) (0 + 18 + 12360) 7 [.ref xS, uu, uu, uu] [.ref 0] hp1 47
  refine g_astore_n (pc' := 8) dL_law_7 rfl (by decide) ?_
  refine g_new (pc' := 11) (fs := dfX8) cls8 cl_L_10 is_X8 ii_X8 nf_X8 (fun _ => rfl) (by decide) (by decide) w2 (by repeat (first | exact fun _ h => absurd h List.not_mem_nil | refine List.forall_mem_cons.mpr ⟨?_, ?_⟩ | exact trivial | exact wfr (by omega) | exact wfxS)) (by repeat (first | exact fun _ h => absurd h List.not_mem_nil | refine List.forall_mem_cons.mpr ⟨?_, ?_⟩ | exact trivial | exact wfr (by omega) | exact wfxS)) (by decide) dL_law_8 ?_
  refine g_dup (pc' := 12) dL_law_11 rfl ?_
  have w3 : wfH 48 (va_up hp1 47 (ob 8 dfX8)) := wfH_push w2 (wfO (by repeat (first | exact fun _ h => absurd h List.not_mem_nil | refine List.forall_mem_cons.mpr ⟨?_, ?_⟩ | exact trivial | exact wfr (by omega)))) rfl
  refine gc_I 15 47 [] [.ref 47] cw_L_12 im_X8_init rfl dL_law_12 ⟨⟨by decide, by decide⟩, by decide, by decide⟩ (Nat.le_of_ble_eq_true rfl) rfl (Nat.le_of_ble_eq_true rfl) ⟨(by repeat (first | exact fun _ h => absurd h List.not_mem_nil | refine List.forall_mem_cons.mpr ⟨?_, ?_⟩ | exact trivial | exact wfr (by omega) | exact wfxS)), (by repeat (first | exact fun _ h => absurd h List.not_mem_nil | refine List.forall_mem_cons.mpr ⟨?_, ?_⟩ | exact trivial | exact wfr (by omega) | exact wfxS))⟩ (c_iX8 (kd := fun _ => 0) (nn := fun _ => 0) (pp := fun _ => 0) (fl := fun _ => 0) w3 (va_up_self _ _ _) (fun hp2 M2 F2 _ => ?_))
  have F3 : FRm hp1 hp2 := fun i hi => (F2 i hi).trans (va_up_ne _ _ (by omega))
  have X2 := CS_F F3 X1
  show G yL_law cL_law 4 (some .boolean) room_1 (some (L, xs)) lQ (0 + 1 + 46 + 1 + 16) (0 + 18 + 12360 + 32 + 268824) 15 [.ref xS, .ref 0, uu, uu] [.ref 47] hp2 64
  refine g_astore_n (pc' := 16) dL_law_15 rfl (by decide) ?_
  refine g_iconst (pc' := 17) (v := nI 0) dL_law_16 (by decide) ?_
  refine g_istore_n (pc' := 18) dL_law_17 rfl (by decide) ?_
  refine g_widen (cu' := 64 + 0) (su' := 300000 + 2 * 0) (by decide) (by decide) ?_
  exact law_loop hL (L + 1) 0 hp2 64 0 (by omega) (by omega) (LI_mk M2 X2 ⟨fun q => by (cases q), fun _ => ⟨rfl, rfl, rfl, rfl, rfl, rfl, rfl, rfl⟩⟩ (by omega) (by omega) (by omega) (by omega))
