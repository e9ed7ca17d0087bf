/-! THE CLASS: chance -/
section CHC
variable {hp : AH} {n D S T R s sm h k kid K : Nat} {kd nn pp fl : Nat → Nat} {bg it tt : Bool} {lu sl : Int64} {rd : Bool} {x : Int32} {Q : Option Value → AH → Nat → Prop}
theorem CS_C {hp' : AH} {n' kid' K' c : Nat} (X : CS hp n D S T R kd nn pp true it tt s sm h k fl lu sl kid K rd) (C : CH D S T R (Pf kd nn pp S) hp' kid' K') (m : CMv n n' hp hp' kid' K K' c) : CS hp' n' D S T R kd nn pp true it tt s sm h k fl lu sl kid' K' true ∧ FRc hp hp' := by
  obtain ⟨a1, a2, a3, a4⟩ := X
  obtain ⟨m1, m2, m3, m4, m5, m6, m7, m8, m9, m10⟩ := m
  obtain ⟨b1, ⟨f2, b2⟩, ⟨f3, b3, b3'⟩, ⟨x4, x5, b4⟩, b5, ⟨f10, b10⟩, ⟨f11, b11⟩, ⟨f12, b12⟩, b13, ⟨f14, b14⟩, b15, b16, b17, b18, -, b20⟩ := a2
  obtain ⟨c1, c2, ⟨g1, g2, g3, c25, c26, c27, -⟩, ⟨g4, c28⟩, ⟨g5, ck, -⟩, -⟩ := id C
  refine ⟨⟨(m6 0 (by omega)).trans a1, ⟨(m6 _ (by omega)).trans b1, ⟨f2, (m6 _ (by omega)).trans b2⟩, ⟨f3, (m6 _ (by omega)).trans b3, b3'⟩, ⟨x4, x5, (m6 _ (by omega)).trans b4⟩, HX_of (fun i q1 q2 => m6 i (by omega)) b5, ⟨f10, (m6 _ (by omega)).trans b10⟩, ⟨f11, (m6 _ (by omega)).trans b11⟩, ⟨f12, (m6 _ (by omega)).trans b12⟩, (m6 _ (by omega)).trans b13, ⟨f14, (m6 _ (by omega)).trans b14⟩, TU_of (fun i q1 q2 => m6 i (by omega)) b15, ⟨c1, c2, ⟨g1, c25⟩, ⟨g2, c26⟩, ⟨g3, c27⟩, ⟨g4, c28⟩, ⟨g5, ck⟩, m1⟩, m5, m8, m9, fun i hi => ?_⟩, CO_of (fun i q1 q2 => m7 i q1 (by omega)) a3, fun q => ⟨GX_of (fun i q1 q2 => m6 i q2) (a4 q).1, fun _ => C⟩⟩, fun i q1 q2 => m7 i (by omega) q2⟩
  have e : hp' i = hp i := by
    rcases Nat.lt_or_ge i 24 with q | q
    · exact m6 i q
    · exact m10 i (by omega)
  rw [e]
  exact b20 i hi
theorem c_chanceC {c : Nat} (hn : 64 ≤ n) (hn6 : n < 1000000) (Mr : MR D S T R kd nn pp) (X : CS hp n D S T R kd nn pp bg it tt s sm h k fl lu sl kid K rd) (hW : WS D S T R bg it tt s sm h k lu sl) (hwf : wfH n hp) (hsm : sm < 2 ^ 30) (hc : bg = true → inB 0 500 x = true → c = ctN rd K (ttN D S R (Pf kd nn pp S)))
    (hq0 : inB 0 500 x = false → Q (some (.long (-3))) hp n)
    (hq1 : inB 0 500 x = true → bg = false → Q (some (.long (-4))) hp n)
    (hq2 : bg = true → ∀ v, v ≤ 500 → x = nI v → ∀ (hp' : AH) (n' kid' K' : Nat), CS hp' n' D S T R kd nn pp bg it tt s sm h k fl lu sl kid' K' true → K' ≤ 860160 → 2 * K + c ≤ 2 * K' → n ≤ n' → n' ≤ n + 1 → FRc hp hp' → Q (some (.long (lN (chV D S T R (Pf kd nn pp S) it tt s h k (v - sm))))) hp' n') : CT yX7_chance cX7_chance 4 (some .long) (rmA 25 1 c) [.ref 0, .int x] hp n Q := by
  obtain ⟨h2, h6, hD1, hD, hT1, hT3, hR, hRV⟩ := id Mr
  obtain ⟨c0, B, O, Gm⟩ := id X
  have no : inB 0 500 x = false → G yX7_chance cX7_chance 4 (some .long) (rmA 25 1 c) none Q 0 0 11 [.ref 0, .int x, uu, uu] [] hp n := by
    intro e
    refine g_ldc2 (pc' := 14) dX7_chance_11 kl_X7_186 ?_
    exact g_lret dX7_chance_14 rfl (Nat.zero_le _) (Nat.zero_le _) (hq0 e)
  show G yX7_chance cX7_chance 4 (some .long) (rmA 25 1 c) none Q 0 0 0 [.ref 0, .int x, uu, uu] [] hp n
  refine g_iload_n (pc' := 1) dX7_chance_0 rfl rfl ?_
  refine g_if_lt (tgt := 11) (pc' := 4) dX7_chance_1 (by decide) (fun z1 => ?_) (fun z1 => ?_)
  · exact no (inB_lt (by rw [nI_0]; exact z1))
  · refine g_iload_n (pc' := 5) dX7_chance_4 rfl rfl ?_
    refine g_sipush (pc' := 8) (v := nI 500) dX7_chance_5 (by decide) ?_
    refine g_icmp_le (tgt := 15) (pc' := 11) dX7_chance_8 (by decide) (fun z2 => ?_) (fun z2 => ?_)
    · have i1 : inB 0 500 x = true := inB_in (by rw [nI_0]; exact z1) (Int32.not_lt.mpr z2)
      obtain ⟨v, -, v2, ev⟩ := inB_t (by decide) (by decide) i1
      subst ev
      refine g_aload_n (pc' := 16) dX7_chance_15 rfl rfl ?_
      refine g_get (pc' := 19) fl_X7_58 dX7_chance_16 (by omega) (by first | assumption | exact va_up_self _ _ _ | exact (va_up_ne _ _ (by first | decide | omega)).trans (by assumption) | exact (va_up_ne _ _ (by first | decide | omega)).trans (va_up_self _ _ _) | exact (va_up_ne _ _ (by first | decide | omega)).trans ((va_up_ne _ _ (by first | decide | omega)).trans (by assumption)) | exact (va_up_ne _ _ (by first | decide | omega)).trans ((va_up_ne _ _ (by first | decide | omega)).trans (va_up_self _ _ _)) | exact (va_up_ne _ _ (by first | decide | omega)).trans ((va_up_ne _ _ (by first | decide | omega)).trans ((va_up_ne _ _ (by first | decide | omega)).trans (by assumption))) | exact (va_up_ne _ _ (by first | decide | omega)).trans ((va_up_ne _ _ (by first | decide | omega)).trans ((va_up_ne _ _ (by first | decide | omega)).trans ((va_up_ne _ _ (by first | decide | omega)).trans (by assumption)))) | exact rfl) (by first | assumption | rfl | exact (List.getElem?_set_ne (by decide)).trans (by assumption) | exact List.getElem?_set_self (by omega)) ?_
      cases bg with
      | false =>
        refine g_if_neN (tgt := 26) (pc' := 22) dX7_chance_19 (by decide) (by first | omega | decide) (fun z3 => ?_) (fun z3 => ?_)
        · exact absurd rfl z3
        · refine g_ldc2 (pc' := 25) dX7_chance_22 kl_X7_181 ?_
          exact g_lret dX7_chance_25 rfl (Nat.zero_le _) (Nat.zero_le _) (hq1 i1 rfl)
      | true =>
        have hc' := hc rfl i1
        subst hc'
        have hq2' := hq2 rfl v v2 rfl
        clear hq0 hq1 hq2 no
        obtain ⟨G0, ht⟩ := hW.1 rfl
        obtain ⟨XG, hCH⟩ := Gm rfl
        obtain ⟨N, A, Wo, hP, hs, hV⟩ := id XG
        obtain ⟨-, -, -, -, -, -, -, -, -, -, -, dC, hk, h64, h29, -⟩ := id B
        have d24 := dC.1
        have WC0 := WC_of hD hT3 G0 ht
        have ti := pk_sub_toInt (show v < 2 ^ 30 by omega) hsm
        have tc : (nI v - nI sm).toNatClampNeg = v - sm := by
          show (nI v - nI sm).toInt.toNat = v - sm
          omega
        refine g_if_neN (tgt := 26) (pc' := 22) dX7_chance_19 (by decide) (by first | omega | decide) (fun z3 => ?_) (fun z3 => ?_)
        · refine g_iload_n (pc' := 27) dX7_chance_26 rfl rfl ?_
          refine g_aload_n (pc' := 28) dX7_chance_27 rfl rfl ?_
          refine g_get (pc' := 31) fl_X7_65 dX7_chance_28 (by omega) (by first | assumption | exact va_up_self _ _ _ | exact (va_up_ne _ _ (by first | decide | omega)).trans (by assumption) | exact (va_up_ne _ _ (by first | decide | omega)).trans (va_up_self _ _ _) | exact (va_up_ne _ _ (by first | decide | omega)).trans ((va_up_ne _ _ (by first | decide | omega)).trans (by assumption)) | exact (va_up_ne _ _ (by first | decide | omega)).trans ((va_up_ne _ _ (by first | decide | omega)).trans (va_up_self _ _ _)) | exact (va_up_ne _ _ (by first | decide | omega)).trans ((va_up_ne _ _ (by first | decide | omega)).trans ((va_up_ne _ _ (by first | decide | omega)).trans (by assumption))) | exact (va_up_ne _ _ (by first | decide | omega)).trans ((va_up_ne _ _ (by first | decide | omega)).trans ((va_up_ne _ _ (by first | decide | omega)).trans ((va_up_ne _ _ (by first | decide | omega)).trans (by assumption)))) | exact rfl) (by first | assumption | rfl | exact (List.getElem?_set_ne (by decide)).trans (by assumption) | exact List.getElem?_set_self (by omega)) ?_
          refine g_isub (pc' := 32) dX7_chance_31 ?_
          refine g_istore_n (pc' := 33) dX7_chance_32 rfl (by decide) ?_
          refine g_aload_n (pc' := 34) dX7_chance_33 rfl rfl ?_
          refine g_get (pc' := 37) fl_X7_75 dX7_chance_34 (by omega) (by first | assumption | exact va_up_self _ _ _ | exact (va_up_ne _ _ (by first | decide | omega)).trans (by assumption) | exact (va_up_ne _ _ (by first | decide | omega)).trans (va_up_self _ _ _) | exact (va_up_ne _ _ (by first | decide | omega)).trans ((va_up_ne _ _ (by first | decide | omega)).trans (by assumption)) | exact (va_up_ne _ _ (by first | decide | omega)).trans ((va_up_ne _ _ (by first | decide | omega)).trans (va_up_self _ _ _)) | exact (va_up_ne _ _ (by first | decide | omega)).trans ((va_up_ne _ _ (by first | decide | omega)).trans ((va_up_ne _ _ (by first | decide | omega)).trans (by assumption))) | exact (va_up_ne _ _ (by first | decide | omega)).trans ((va_up_ne _ _ (by first | decide | omega)).trans ((va_up_ne _ _ (by first | decide | omega)).trans ((va_up_ne _ _ (by first | decide | omega)).trans (by assumption)))) | exact rfl) (by first | assumption | rfl | exact (List.getElem?_set_ne (by decide)).trans (by assumption) | exact List.getElem?_set_self (by omega)) ?_
          cases it with
          | false =>
            refine g_if_neN (tgt := 53) (pc' := 40) dX7_chance_37 (by decide) (by first | omega | decide) (fun z4 => ?_) (fun z4 => ?_)
            · exact absurd rfl z4
            · refine g_aload_n (pc' := 41) dX7_chance_40 rfl rfl ?_
              refine g_get (pc' := 44) fl_X7_41 dX7_chance_41 (by omega) (by first | assumption | exact va_up_self _ _ _ | exact (va_up_ne _ _ (by first | decide | omega)).trans (by assumption) | exact (va_up_ne _ _ (by first | decide | omega)).trans (va_up_self _ _ _) | exact (va_up_ne _ _ (by first | decide | omega)).trans ((va_up_ne _ _ (by first | decide | omega)).trans (by assumption)) | exact (va_up_ne _ _ (by first | decide | omega)).trans ((va_up_ne _ _ (by first | decide | omega)).trans (va_up_self _ _ _)) | exact (va_up_ne _ _ (by first | decide | omega)).trans ((va_up_ne _ _ (by first | decide | omega)).trans ((va_up_ne _ _ (by first | decide | omega)).trans (by assumption))) | exact (va_up_ne _ _ (by first | decide | omega)).trans ((va_up_ne _ _ (by first | decide | omega)).trans ((va_up_ne _ _ (by first | decide | omega)).trans ((va_up_ne _ _ (by first | decide | omega)).trans (by assumption)))) | exact rfl) (by first | assumption | rfl | exact (List.getElem?_set_ne (by decide)).trans (by assumption) | exact List.getElem?_set_self (by omega)) ?_
              refine g_aload_n (pc' := 45) dX7_chance_44 rfl rfl ?_
              refine g_get (pc' := 48) fl_X7_62 dX7_chance_45 (by omega) (by first | assumption | exact va_up_self _ _ _ | exact (va_up_ne _ _ (by first | decide | omega)).trans (by assumption) | exact (va_up_ne _ _ (by first | decide | omega)).trans (va_up_self _ _ _) | exact (va_up_ne _ _ (by first | decide | omega)).trans ((va_up_ne _ _ (by first | decide | omega)).trans (by assumption)) | exact (va_up_ne _ _ (by first | decide | omega)).trans ((va_up_ne _ _ (by first | decide | omega)).trans (va_up_self _ _ _)) | exact (va_up_ne _ _ (by first | decide | omega)).trans ((va_up_ne _ _ (by first | decide | omega)).trans ((va_up_ne _ _ (by first | decide | omega)).trans (by assumption))) | exact (va_up_ne _ _ (by first | decide | omega)).trans ((va_up_ne _ _ (by first | decide | omega)).trans ((va_up_ne _ _ (by first | decide | omega)).trans ((va_up_ne _ _ (by first | decide | omega)).trans (by assumption)))) | exact rfl) (by first | assumption | rfl | exact (List.getElem?_set_ne (by decide)).trans (by assumption) | exact List.getElem?_set_self (by omega)) ?_
              refine g_iload_n (pc' := 49) dX7_chance_48 rfl rfl ?_
              refine gc_VA 52 24 [.int (nI s), .int (nI v - nI sm)] [] cw_X7_207 im_X0_beforeTurn se_X0_beforeTurn dX7_chance_49 ⟨⟨by dsimp only [rmA]; omega, by dsimp only [rmA]; omega⟩, by dsimp only [rmA]; omega, by dsimp only [rmA]; omega⟩ (Nat.le_of_ble_eq_true rfl) rfl (Nat.le_of_ble_eq_true rfl) (by omega) (by first | assumption | exact va_up_self _ _ _ | exact (va_up_ne _ _ (by first | decide | omega)).trans (by assumption) | exact (va_up_ne _ _ (by first | decide | omega)).trans (va_up_self _ _ _) | exact (va_up_ne _ _ (by first | decide | omega)).trans ((va_up_ne _ _ (by first | decide | omega)).trans (by assumption)) | exact (va_up_ne _ _ (by first | decide | omega)).trans ((va_up_ne _ _ (by first | decide | omega)).trans (va_up_self _ _ _)) | exact (va_up_ne _ _ (by first | decide | omega)).trans ((va_up_ne _ _ (by first | decide | omega)).trans ((va_up_ne _ _ (by first | decide | omega)).trans (by assumption))) | exact (va_up_ne _ _ (by first | decide | omega)).trans ((va_up_ne _ _ (by first | decide | omega)).trans ((va_up_ne _ _ (by first | decide | omega)).trans ((va_up_ne _ _ (by first | decide | omega)).trans (by assumption)))) | exact rfl) rfl rfl ⟨(by repeat (first | exact fun _ h => absurd h List.not_mem_nil | refine List.forall_mem_cons.mpr ⟨?_, ?_⟩ | exact trivial | exact wfr (by omega))), (by repeat (first | exact fun _ h => absurd h List.not_mem_nil | refine List.forall_mem_cons.mpr ⟨?_, ?_⟩ | exact trivial | exact wfr (by omega)))⟩ (c_beforeTurn hn hn6 N A hP hk dC hCH hwf h64 h29 hs (by omega) (fun hp1 n1 kid1 K1 C1 m1 hn1 => ?_))
              rw [tc]
              obtain ⟨X1, F1⟩ := CS_C X C1 m1
              exact g_lret dX7_chance_52 rfl (by dsimp only [rmA]; omega) (by dsimp only [rmA]; omega) (hq2' hp1 n1 kid1 K1 X1 m1.1 m1.2.1 m1.2.2.1 m1.2.2.2.1 F1)
          | true =>
            obtain ⟨a1, a2, a3, a4, a5⟩ := G0.2.1 rfl
            obtain ⟨b1, b2, b3⟩ := WC0.2.1 rfl
            rw [b3] at c0
            refine g_if_neN (tgt := 53) (pc' := 40) dX7_chance_37 (by decide) (by first | omega | decide) (fun z4 => ?_) (fun z4 => ?_)
            · refine g_aload_n (pc' := 54) dX7_chance_53 rfl rfl ?_
              refine g_get (pc' := 57) fl_X7_41 dX7_chance_54 (by omega) (by first | assumption | exact va_up_self _ _ _ | exact (va_up_ne _ _ (by first | decide | omega)).trans (by assumption) | exact (va_up_ne _ _ (by first | decide | omega)).trans (va_up_self _ _ _) | exact (va_up_ne _ _ (by first | decide | omega)).trans ((va_up_ne _ _ (by first | decide | omega)).trans (by assumption)) | exact (va_up_ne _ _ (by first | decide | omega)).trans ((va_up_ne _ _ (by first | decide | omega)).trans (va_up_self _ _ _)) | exact (va_up_ne _ _ (by first | decide | omega)).trans ((va_up_ne _ _ (by first | decide | omega)).trans ((va_up_ne _ _ (by first | decide | omega)).trans (by assumption))) | exact (va_up_ne _ _ (by first | decide | omega)).trans ((va_up_ne _ _ (by first | decide | omega)).trans ((va_up_ne _ _ (by first | decide | omega)).trans ((va_up_ne _ _ (by first | decide | omega)).trans (by assumption)))) | exact rfl) (by first | assumption | rfl | exact (List.getElem?_set_ne (by decide)).trans (by assumption) | exact List.getElem?_set_self (by omega)) ?_
              refine g_aload_n (pc' := 58) dX7_chance_57 rfl rfl ?_
              refine g_get (pc' := 61) fl_X7_62 dX7_chance_58 (by omega) (by first | assumption | exact va_up_self _ _ _ | exact (va_up_ne _ _ (by first | decide | omega)).trans (by assumption) | exact (va_up_ne _ _ (by first | decide | omega)).trans (va_up_self _ _ _) | exact (va_up_ne _ _ (by first | decide | omega)).trans ((va_up_ne _ _ (by first | decide | omega)).trans (by assumption)) | exact (va_up_ne _ _ (by first | decide | omega)).trans ((va_up_ne _ _ (by first | decide | omega)).trans (va_up_self _ _ _)) | exact (va_up_ne _ _ (by first | decide | omega)).trans ((va_up_ne _ _ (by first | decide | omega)).trans ((va_up_ne _ _ (by first | decide | omega)).trans (by assumption))) | exact (va_up_ne _ _ (by first | decide | omega)).trans ((va_up_ne _ _ (by first | decide | omega)).trans ((va_up_ne _ _ (by first | decide | omega)).trans ((va_up_ne _ _ (by first | decide | omega)).trans (by assumption)))) | exact rfl) (by first | assumption | rfl | exact (List.getElem?_set_ne (by decide)).trans (by assumption) | exact List.getElem?_set_self (by omega)) ?_
              refine g_iload_n (pc' := 62) dX7_chance_61 rfl rfl ?_
              refine g_aload_n (pc' := 63) dX7_chance_62 rfl rfl ?_
              refine g_get (pc' := 66) fl_X7_84 dX7_chance_63 (by omega) (by first | assumption | exact va_up_self _ _ _ | exact (va_up_ne _ _ (by first | decide | omega)).trans (by assumption) | exact (va_up_ne _ _ (by first | decide | omega)).trans (va_up_self _ _ _) | exact (va_up_ne _ _ (by first | decide | omega)).trans ((va_up_ne _ _ (by first | decide | omega)).trans (by assumption)) | exact (va_up_ne _ _ (by first | decide | omega)).trans ((va_up_ne _ _ (by first | decide | omega)).trans (va_up_self _ _ _)) | exact (va_up_ne _ _ (by first | decide | omega)).trans ((va_up_ne _ _ (by first | decide | omega)).trans ((va_up_ne _ _ (by first | decide | omega)).trans (by assumption))) | exact (va_up_ne _ _ (by first | decide | omega)).trans ((va_up_ne _ _ (by first | decide | omega)).trans ((va_up_ne _ _ (by first | decide | omega)).trans ((va_up_ne _ _ (by first | decide | omega)).trans (by assumption)))) | exact rfl) (by first | assumption | rfl | exact (List.getElem?_set_ne (by decide)).trans (by assumption) | exact List.getElem?_set_self (by omega)) ?_
              refine gc_VA 69 24 [.int (nI s), .int (nI v - nI sm), .int (nI k)] [] cw_X7_210 im_X0_inTurn se_X0_inTurn dX7_chance_66 ⟨⟨by dsimp only [rmA]; omega, by dsimp only [rmA]; omega⟩, by dsimp only [rmA]; omega, by dsimp only [rmA]; omega⟩ (Nat.le_of_ble_eq_true rfl) rfl (Nat.le_of_ble_eq_true rfl) (by omega) (by first | assumption | exact va_up_self _ _ _ | exact (va_up_ne _ _ (by first | decide | omega)).trans (by assumption) | exact (va_up_ne _ _ (by first | decide | omega)).trans (va_up_self _ _ _) | exact (va_up_ne _ _ (by first | decide | omega)).trans ((va_up_ne _ _ (by first | decide | omega)).trans (by assumption)) | exact (va_up_ne _ _ (by first | decide | omega)).trans ((va_up_ne _ _ (by first | decide | omega)).trans (va_up_self _ _ _)) | exact (va_up_ne _ _ (by first | decide | omega)).trans ((va_up_ne _ _ (by first | decide | omega)).trans ((va_up_ne _ _ (by first | decide | omega)).trans (by assumption))) | exact (va_up_ne _ _ (by first | decide | omega)).trans ((va_up_ne _ _ (by first | decide | omega)).trans ((va_up_ne _ _ (by first | decide | omega)).trans ((va_up_ne _ _ (by first | decide | omega)).trans (by assumption)))) | exact rfl) rfl rfl ⟨(by repeat (first | exact fun _ h => absurd h List.not_mem_nil | refine List.forall_mem_cons.mpr ⟨?_, ?_⟩ | exact trivial | exact wfr (by omega))), (by repeat (first | exact fun _ h => absurd h List.not_mem_nil | refine List.forall_mem_cons.mpr ⟨?_, ?_⟩ | exact trivial | exact wfr (by omega)))⟩ (c_inTurn hn hn6 N A hP hk dC hCH hwf h64 h29 hs a1 a3 (by omega) (fun hp1 n1 kid1 K1 C1 V1 m1 hn1 => ?_))
              rw [tc] at V1
              obtain ⟨X1, F1⟩ := CS_C X C1 m1
              have e0 := X1.1
              rw [b3] at e0
              obtain ⟨-, U1, -⟩ := id C1
              show G yX7_chance cX7_chance 4 (some .long) (rmA 25 1 (ctN rd K (ttN D S R (Pf kd nn pp S)))) none Q (0 + 1) (0 + ctN rd K (ttN D S R (Pf kd nn pp S))) 69 [.ref 0, .int (nI v), .int (nI v - nI sm), uu] [.ref 30] hp1 n1
              refine g_astore_n (pc' := 70) dX7_chance_69 rfl (by decide) ?_
              refine g_aload_n (pc' := 71) dX7_chance_70 rfl rfl ?_
              refine g_aload_n (pc' := 72) dX7_chance_71 rfl rfl ?_
              refine gc_V 75 0 [.ref 30] [] cw_X7_213 im_X7_valueIn se_X7_valueIn dX7_chance_72 (by first | decide | (dsimp only [rmD, rmA]; omega)) (by first | decide | (dsimp only [rmD, rmA]; omega)) (by dsimp only [rmA]; omega) (by dsimp only [rmA]; omega) (Nat.le_of_ble_eq_true rfl) rfl (Nat.le_of_ble_eq_true rfl) (by omega) (by first | assumption | exact va_up_self _ _ _ | exact (va_up_ne _ _ (by first | decide | omega)).trans (by assumption) | exact (va_up_ne _ _ (by first | decide | omega)).trans (va_up_self _ _ _) | exact (va_up_ne _ _ (by first | decide | omega)).trans ((va_up_ne _ _ (by first | decide | omega)).trans (by assumption)) | exact (va_up_ne _ _ (by first | decide | omega)).trans ((va_up_ne _ _ (by first | decide | omega)).trans (va_up_self _ _ _)) | exact (va_up_ne _ _ (by first | decide | omega)).trans ((va_up_ne _ _ (by first | decide | omega)).trans ((va_up_ne _ _ (by first | decide | omega)).trans (by assumption))) | exact (va_up_ne _ _ (by first | decide | omega)).trans ((va_up_ne _ _ (by first | decide | omega)).trans ((va_up_ne _ _ (by first | decide | omega)).trans ((va_up_ne _ _ (by first | decide | omega)).trans (by assumption)))) | exact rfl) rfl rfl (c_valueIn (tt := tt) (m := k) (by omega) N (by omega) U1 V1 (by omega) e0 a2 (Nat.le_refl _) (fun q => ⟨a4 q, b1 q⟩) (fun q => ⟨b2 q, a5 q⟩) WC0.2.2.1 ⟨rfl, ?_⟩)
              exact g_lret dX7_chance_75 rfl (by dsimp only [rmA]; omega) (by dsimp only [rmA]; omega) (hq2' hp1 n1 kid1 K1 X1 m1.1 m1.2.1 m1.2.2.1 m1.2.2.2.1 F1)
            · exact absurd z4 (by decide)
        · exact absurd z3 (by decide)
    · exact no (inB_gt (Int32.not_le.mp z2))
end CHC
theorem wfE_mono {a b : Nat} {e : AE} (h : a ≤ b) (w : wfE a e) : wfE b e := by
  rcases e with ⟨t, N, f | f | f | f | f⟩ | ⟨ci, fs⟩
  · exact trivial
  · exact trivial
  · exact trivial
  · exact trivial
  · exact fun j a' q => Nat.lt_of_lt_of_le (w j a' q) h
  · intro v hv
    have := w v hv
    cases v with
    | ref r =>
      rcases this with q | q
      · exact Or.inl (Nat.lt_of_lt_of_le q h)
      · exact Or.inr q
    | _ => trivial
theorem wfO {n ci : Nat} {fs : List Value} (h : ∀ v ∈ fs, wfv n v) : wfE n (ob ci fs) := h
theorem wfH_of {hp : AH} {n D S T R s sm h k kid K : Nat} {kd nn pp fl : Nat → Nat} {bg it tt : Bool} {lu sl : Int64} {rd : Bool} (hn : 64 ≤ n) (X : CS hp n D S T R kd nn pp bg it tt s sm h k fl lu sl kid K rd) (M : MS hp D S T R kd nn pp bg it tt s sm h k fl lu sl) : wfH n hp := by
  intro i hi
  obtain ⟨c0, ⟨b1, ⟨f2, b2⟩, -, ⟨x4, x5, b4⟩, b5, ⟨f10, b10⟩, ⟨f11, b11⟩, ⟨f12, b12⟩, b13, ⟨f14, b14⟩, b15, b16, b17, b18, ⟨M9, f9, b19⟩, b20⟩, O, -⟩ := X
  obtain ⟨-, ⟨x8, x23, x31, c47, -⟩, ⟨fk, fn, fp, e48, e49, e50, -⟩, ⟨⟨g51, e51⟩, ⟨g52, e52⟩, ⟨g53, e53⟩, ⟨g54, e54⟩, ⟨g55, e55⟩, ⟨g57, e57⟩, ⟨g58, e58⟩, ⟨g59, e59⟩, ⟨g60, e60⟩, ⟨g61, e61⟩, ⟨g62, e62⟩, ⟨g63, e63⟩⟩, ⟨ffl, e56, -⟩⟩ := M
  have hs : ∀ j, j = 3 ∨ j = 16 ∨ j = 20 ∨ j = 31 ∨ j = 35 → wfE n (hp j) := fun j hj => wfE_mono hn (b20 j hj)
  obtain ⟨d24, dU, ⟨d25, dd25⟩, ⟨d26, dd26⟩, ⟨d27, dd27⟩, ⟨d28, dd28⟩, -, -⟩ := b16
  obtain ⟨u1, -, -, u4, u5⟩ := b15
  obtain ⟨w1, -, -, w4, w5⟩ := dU
  obtain ⟨p17, q17⟩ := u4 0 (by omega)
  obtain ⟨p18, q18⟩ := u4 1 (by omega)
  obtain ⟨p19, q19⟩ := u4 2 (by omega)
  obtain ⟨p21, q21⟩ := u5 0 (by omega)
  obtain ⟨p22, q22⟩ := u5 1 (by omega)
  obtain ⟨p23, q23⟩ := u5 2 (by omega)
  obtain ⟨p32, q32⟩ := w4 0 (by omega)
  obtain ⟨p33, q33⟩ := w4 1 (by omega)
  obtain ⟨p34, q34⟩ := w4 2 (by omega)
  obtain ⟨p36, q36⟩ := w5 0 (by omega)
  obtain ⟨p37, q37⟩ := w5 1 (by omega)
  obtain ⟨p38, q38⟩ := w5 2 (by omega)
  rcases Nat.lt_or_ge i 64 with q | q
  · rcases Nat.lt_or_ge i 39 with r | r
    · obtain ⟨fs5, ft5, fz5, fl5, fm5, c5, c6, c7, c8, c9⟩ : ∃ (fs5 : List Value) (ft5 fz5 fl5 fm5 : Nat → Int32), (hp 5 = ob 2 fs5 ∧ ∀ v ∈ fs5, wfv n v) ∧ hp 6 = aI 462 ft5 ∧ hp 7 = aI 462 fz5 ∧ hp 8 = aI 462 fl5 ∧ hp 9 = aI 2772 fm5 := by
        rcases b5 with ⟨ft, fz, fl9, fm, x5', x6, x7, c5, c6, c7, c8, c9, -⟩ | ⟨d, s', -, -, -, -, ft, fz, fl9, fm, c5, c6, c7, c8, c9, -⟩
        · exact ⟨_, ft, fz, fl9, fm, ⟨c5, (by repeat (first | exact fun _ h => absurd h List.not_mem_nil | refine List.forall_mem_cons.mpr ⟨?_, ?_⟩ | exact trivial | exact wfr (by omega)))⟩, c6, c7, c8, c9⟩
        · exact ⟨_, ft, fz, fl9, fm, ⟨c5, (by repeat (first | exact fun _ h => absurd h List.not_mem_nil | refine List.forall_mem_cons.mpr ⟨?_, ?_⟩ | exact trivial | exact wfr (by omega)))⟩, c6, c7, c8, c9⟩
      have hi9 : i = 0 ∨ i = 1 ∨ i = 2 ∨ i = 3 ∨ i = 4 ∨ i = 5 ∨ i = 6 ∨ i = 7 ∨ i = 8 ∨ i = 9 ∨ i = 10 ∨ i = 11 ∨ i = 12 ∨ i = 13 ∨ i = 14 ∨ i = 15 ∨ i = 16 ∨ i = 17 ∨ i = 18 ∨ i = 19 ∨ i = 20 ∨ i = 21 ∨ i = 22 ∨ i = 23 ∨ i = 24 ∨ i = 25 ∨ i = 26 ∨ i = 27 ∨ i = 28 ∨ i = 29 ∨ i = 30 ∨ i = 31 ∨ i = 32 ∨ i = 33 ∨ i = 34 ∨ i = 35 ∨ i = 36 ∨ i = 37 ∨ i = 38 := by omega
      rcases hi9 with rfl | rfl | rfl | rfl | rfl | rfl | rfl | rfl | rfl | rfl | rfl | rfl | rfl | rfl | rfl | rfl | rfl | rfl | rfl | rfl | rfl | rfl | rfl | rfl | rfl | rfl | rfl | rfl | rfl | rfl | rfl | rfl | rfl | rfl | rfl | rfl | rfl | rfl | rfl
      · rw [c0]; exact wfO (by repeat (first | exact fun _ h => absurd h List.not_mem_nil | refine List.forall_mem_cons.mpr ⟨?_, ?_⟩ | exact trivial | exact wfr (by omega)))
      · rw [b1]; exact wfO (by repeat (first | exact fun _ h => absurd h List.not_mem_nil | refine List.forall_mem_cons.mpr ⟨?_, ?_⟩ | exact trivial | exact wfr (by omega)))
      · rw [b2]; exact trivial
      · exact hs _ (by omega)
      · rw [b4]; exact wfO (by repeat (first | exact fun _ h => absurd h List.not_mem_nil | refine List.forall_mem_cons.mpr ⟨?_, ?_⟩ | exact trivial | exact wfr (by omega)))
      · rw [c5.1]; exact wfO c5.2
      · rw [c6]; exact trivial
      · rw [c7]; exact trivial
      · rw [c8]; exact trivial
      · rw [c9]; exact trivial
      · rw [b10]; exact trivial
      · rw [b11]; exact trivial
      · rw [b12]; exact trivial
      · rw [b13]; exact wfO (by repeat (first | exact fun _ h => absurd h List.not_mem_nil | refine List.forall_mem_cons.mpr ⟨?_, ?_⟩ | exact trivial | exact wfr (by omega)))
      · rw [b14]; exact trivial
      · rw [u1]; exact wfO (by repeat (first | exact fun _ h => absurd h List.not_mem_nil | refine List.forall_mem_cons.mpr ⟨?_, ?_⟩ | exact trivial | exact wfr (by omega)))
      · exact hs _ (by omega)
      · rw [q17]; exact trivial
      · rw [q18]; exact trivial
      · rw [q19]; exact trivial
      · exact hs _ (by omega)
      · rw [q21]; exact trivial
      · rw [q22]; exact trivial
      · rw [q23]; exact trivial
      · rw [d24]; exact wfO (by repeat (first | exact fun _ h => absurd h List.not_mem_nil | refine List.forall_mem_cons.mpr ⟨?_, ?_⟩ | exact trivial | exact wfr (by omega)))
      · rw [dd25]; exact trivial
      · rw [dd26]; exact trivial
      · rw [dd27]; exact trivial
      · rw [dd28]; exact trivial
      · rw [b19]; exact trivial
      · rw [w1]; exact wfO (by repeat (first | exact fun _ h => absurd h List.not_mem_nil | refine List.forall_mem_cons.mpr ⟨?_, ?_⟩ | exact trivial | exact wfr (by omega)))
      · exact hs _ (by omega)
      · rw [q32]; exact trivial
      · rw [q33]; exact trivial
      · rw [q34]; exact trivial
      · exact hs _ (by omega)
      · rw [q36]; exact trivial
      · rw [q37]; exact trivial
      · rw [q38]; exact trivial
    · rcases Nat.lt_or_ge i 47 with r2 | r2
      · obtain ⟨ra, rb, rc, rx, cr, -⟩ := O (i - 39) (by omega)
        rw [show 39 + (i - 39) = i by omega] at cr
        rw [cr]; exact wfO (by repeat (first | exact fun _ h => absurd h List.not_mem_nil | refine List.forall_mem_cons.mpr ⟨?_, ?_⟩ | exact trivial | exact wfr (by omega)))
      · have hi9 : i = 47 ∨ i = 48 ∨ i = 49 ∨ i = 50 ∨ i = 51 ∨ i = 52 ∨ i = 53 ∨ i = 54 ∨ i = 55 ∨ i = 56 ∨ i = 57 ∨ i = 58 ∨ i = 59 ∨ i = 60 ∨ i = 61 ∨ i = 62 ∨ i = 63 := by omega
        rcases hi9 with rfl | rfl | rfl | rfl | rfl | rfl | rfl | rfl | rfl | rfl | rfl | rfl | rfl | rfl | rfl | rfl | rfl
        · rw [c47]; exact wfO (by repeat (first | exact fun _ h => absurd h List.not_mem_nil | refine List.forall_mem_cons.mpr ⟨?_, ?_⟩ | exact trivial | exact wfr (by omega)))
        · rw [e48]; exact trivial
        · rw [e49]; exact trivial
        · rw [e50]; exact trivial
        · rw [e51]; exact trivial
        · rw [e52]; exact trivial
        · rw [e53]; exact trivial
        · rw [e54]; exact trivial
        · rw [e55]; exact trivial
        · rw [e56]; exact trivial
        · rw [e57]; exact trivial
        · rw [e58]; exact trivial
        · rw [e59]; exact trivial
        · rw [e60]; exact trivial
        · rw [e61]; exact trivial
        · rw [e62]; exact trivial
        · rw [e63]; exact trivial
  · obtain ⟨M, f, e⟩ := b18 i q hi
    rw [e]; exact trivial
